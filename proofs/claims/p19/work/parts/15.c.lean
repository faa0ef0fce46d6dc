/-! orchard(): class against reference (printed by orch.py) -/
noncomputable def BE (n : Int32) (x h w r mx mh mw mr : Nat → Int32) : Prop := ∀ j : Nat, (j : Int) < n.toInt → x j = mx j ∧ h j = mh j ∧ w j = mw j ∧ r j = mr j
noncomputable def BS (n : Int32) (f k mf mk : Nat → Int32) : Prop := ∀ j : Nat, (j : Int) < n.toInt → f j = mf j ∧ k j = mk j
noncomputable def AC (fr nf : Int32) (x h w r nF : Nat → Int32) : Prop := ∀ j : Nat, (j : Int) < nf.toInt → x (fr.toInt.toNat + j) = nF (4 * j) ∧ h (fr.toInt.toNat + j) = nF (4 * j + 1) ∧ w (fr.toInt.toNat + j) = nF (4 * j + 2) ∧ r (fr.toInt.toNat + j) = nF (4 * j + 3)
noncomputable def SC (sd ns : Int32) (f k nS : Nat → Int32) : Prop := ∀ j : Nat, (j : Int) < ns.toInt → f (sd.toInt.toNat + j) = nS (2 * j) ∧ k (sd.toInt.toNat + j) = nS (2 * j + 1)
theorem cl_n (x : Int32) : x.toNatClampNeg = x.toInt.toNat := rfl
theorem q4 {x : Int32} (h : 0 ≤ x.toInt ∧ x.toInt ≤ 16) : (4 * x).toNatClampNeg = 4 * x.toInt.toNat ∧ (4 * x + 1).toNatClampNeg = 4 * x.toInt.toNat + 1 ∧ (4 * x + 2).toNatClampNeg = 4 * x.toInt.toNat + 2 ∧ (4 * x + 3).toNatClampNeg = 4 * x.toInt.toNat + 3 := by
  have l4 : Int32.toInt (4 : Int32) = 4 := by decide
  have l1 : Int32.toInt (1 : Int32) = 1 := by decide
  have l2 : Int32.toInt (2 : Int32) = 2 := by decide
  have l3 : Int32.toInt (3 : Int32) = 3 := by decide
  have m := ta_cmul 4 x l4 (by omega)
  have a1 := ta_add (4 * x) 1 (by omega)
  have a2 := ta_add (4 * x) 2 (by omega)
  have a3 := ta_add (4 * x) 3 (by omega)
  rw [cl_n, cl_n, cl_n, cl_n]
  omega
theorem q2 {x : Int32} (h : 0 ≤ x.toInt ∧ x.toInt ≤ 16) : (2 * x).toNatClampNeg = 2 * x.toInt.toNat ∧ (2 * x + 1).toNatClampNeg = 2 * x.toInt.toNat + 1 := by
  have l1 : Int32.toInt (1 : Int32) = 1 := by decide
  have l2 : Int32.toInt (2 : Int32) = 2 := by decide
  have m := ta_cmul 2 x l2 (by omega)
  have a1 := ta_add (2 * x) 1 (by omega)
  rw [cl_n, cl_n]
  omega
theorem AC_s {fr nf cf v1 v2 v3 v4 : Int32} {x h w r nF : Nat → Int32} (ha : AC fr nf x h w r nF) (h0 : 0 ≤ fr.toInt) (h1 : 0 ≤ nf.toInt ∧ nf.toInt < 16) (hc : cf.toInt = fr.toInt + nf.toInt) : AC fr (nf + 1) (upd x cf.toNatClampNeg v1) (upd h cf.toNatClampNeg v2) (upd w cf.toNatClampNeg v3) (upd r cf.toNatClampNeg v4) (upd (upd (upd (upd nF (4 * nf).toNatClampNeg v1) (4 * nf + 1).toNatClampNeg v2) (4 * nf + 2).toNatClampNeg v3) (4 * nf + 3).toNatClampNeg v4) := by
  intro j hj
  have l1 : Int32.toInt (1 : Int32) = 1 := by decide
  have e := ta_add nf 1 (by omega)
  obtain ⟨e0, e1, e2, e3⟩ := q4 (x := nf) (by omega)
  have ec := cl_n cf
  rw [e0, e1, e2, e3]
  by_cases hn : j = nf.toInt.toNat
  · have i : fr.toInt.toNat + j = cf.toNatClampNeg := by omega
    rw [i, upd_i, upd_i, upd_i, upd_i, hn]
    refine ⟨?_, ?_, ?_, ?_⟩
    · rw [upd_n _ _ (by omega), upd_n _ _ (by omega), upd_n _ _ (by omega), upd_i]
    · rw [upd_n _ _ (by omega), upd_n _ _ (by omega), upd_i]
    · rw [upd_n _ _ (by omega), upd_i]
    · rw [upd_i]
  · have q := ha j (by omega)
    have i : fr.toInt.toNat + j ≠ cf.toNatClampNeg := by omega
    rw [upd_n _ _ i, upd_n _ _ i, upd_n _ _ i, upd_n _ _ i]
    refine ⟨?_, ?_, ?_, ?_⟩ <;> rw [upd_n _ _ (by omega), upd_n _ _ (by omega), upd_n _ _ (by omega), upd_n _ _ (by omega)]
    · exact q.1
    · exact q.2.1
    · exact q.2.2.1
    · exact q.2.2.2
theorem SC_s {sd ns cs v1 v2 : Int32} {f k nS : Nat → Int32} (ha : SC sd ns f k nS) (h0 : 0 ≤ sd.toInt) (h1 : 0 ≤ ns.toInt ∧ ns.toInt < 8) (hc : cs.toInt = sd.toInt + ns.toInt) : SC sd (ns + 1) (upd f cs.toNatClampNeg v1) (upd k cs.toNatClampNeg v2) (upd (upd nS (2 * ns).toNatClampNeg v1) (2 * ns + 1).toNatClampNeg v2) := by
  intro j hj
  have l1 : Int32.toInt (1 : Int32) = 1 := by decide
  have e := ta_add ns 1 (by omega)
  obtain ⟨e0, e1⟩ := q2 (x := ns) (by omega)
  have ec := cl_n cs
  rw [e0, e1]
  by_cases hn : j = ns.toInt.toNat
  · have i : sd.toInt.toNat + j = cs.toNatClampNeg := by omega
    rw [i, upd_i, upd_i, hn]
    refine ⟨?_, ?_⟩
    · rw [upd_n _ _ (by omega), upd_i]
    · rw [upd_i]
  · have q := ha j (by omega)
    have i : sd.toInt.toNat + j ≠ cs.toNatClampNeg := by omega
    rw [upd_n _ _ i, upd_n _ _ i]
    refine ⟨?_, ?_⟩ <;> rw [upd_n _ _ (by omega), upd_n _ _ (by omega)]
    · exact q.1
    · exact q.2
theorem BE_u {n i v1 v2 v3 v4 : Int32} {x h w r mx mh mw mr : Nat → Int32} (hb : BE n x h w r mx mh mw mr) (h0 : n.toInt ≤ i.toInt) (h1 : 0 ≤ n.toInt) : BE n (upd x i.toNatClampNeg v1) (upd h i.toNatClampNeg v2) (upd w i.toNatClampNeg v3) (upd r i.toNatClampNeg v4) mx mh mw mr := by
  intro j hj
  have ec := cl_n i
  have i2 : j ≠ i.toNatClampNeg := by omega
  rw [upd_n _ _ i2, upd_n _ _ i2, upd_n _ _ i2, upd_n _ _ i2]
  exact hb j hj
theorem BS_u {n i v1 v2 : Int32} {f k mf mk : Nat → Int32} (hb : BS n f k mf mk) (h0 : n.toInt ≤ i.toInt) (h1 : 0 ≤ n.toInt) : BS n (upd f i.toNatClampNeg v1) (upd k i.toNatClampNeg v2) mf mk := by
  intro j hj
  have ec := cl_n i
  have i2 : j ≠ i.toNatClampNeg := by omega
  rw [upd_n _ _ i2, upd_n _ _ i2]
  exact hb j hj
theorem cp105 {rG rQ : Nat → Int32} {aG jG dG : Int32} {jY : Nat} {m_length qG uW eY aJ aB bT pW : Int32} {oY pR qL pL : Nat → Int32} {fr : Int32} {now x h w r : Nat → Int32} (h0 : 0 ≤ fr.toInt) : ∀ k : Nat, fr.toInt + (k : Int) ≤ 16 →
    Int32.toInt (itr (bd_X10_orchard_105 rG rQ aG jG dG jY m_length qG uW eY aJ aB bT pW oY pR qL pL) (fr, now, x, h, w, r) 0 k).1 = fr.toInt + (k : Int)
    ∧ (∀ j : Nat, ((j : Int) < fr.toInt ∨ fr.toInt + (k : Int) ≤ (j : Int)) → (itr (bd_X10_orchard_105 rG rQ aG jG dG jY m_length qG uW eY aJ aB bT pW oY pR qL pL) (fr, now, x, h, w, r) 0 k).2.1 j = now j ∧ (itr (bd_X10_orchard_105 rG rQ aG jG dG jY m_length qG uW eY aJ aB bT pW oY pR qL pL) (fr, now, x, h, w, r) 0 k).2.2.1 j = x j ∧ (itr (bd_X10_orchard_105 rG rQ aG jG dG jY m_length qG uW eY aJ aB bT pW oY pR qL pL) (fr, now, x, h, w, r) 0 k).2.2.2.1 j = h j ∧ (itr (bd_X10_orchard_105 rG rQ aG jG dG jY m_length qG uW eY aJ aB bT pW oY pR qL pL) (fr, now, x, h, w, r) 0 k).2.2.2.2.1 j = w j ∧ (itr (bd_X10_orchard_105 rG rQ aG jG dG jY m_length qG uW eY aJ aB bT pW oY pR qL pL) (fr, now, x, h, w, r) 0 k).2.2.2.2.2 j = r j)
    ∧ (∀ j : Nat, j < k → (itr (bd_X10_orchard_105 rG rQ aG jG dG jY m_length qG uW eY aJ aB bT pW oY pR qL pL) (fr, now, x, h, w, r) 0 k).2.1 (fr.toInt.toNat + j) = 0 ∧ (itr (bd_X10_orchard_105 rG rQ aG jG dG jY m_length qG uW eY aJ aB bT pW oY pR qL pL) (fr, now, x, h, w, r) 0 k).2.2.1 (fr.toInt.toNat + j) = qL (4 * j) ∧ (itr (bd_X10_orchard_105 rG rQ aG jG dG jY m_length qG uW eY aJ aB bT pW oY pR qL pL) (fr, now, x, h, w, r) 0 k).2.2.2.1 (fr.toInt.toNat + j) = qL (4 * j + 1) ∧ (itr (bd_X10_orchard_105 rG rQ aG jG dG jY m_length qG uW eY aJ aB bT pW oY pR qL pL) (fr, now, x, h, w, r) 0 k).2.2.2.2.1 (fr.toInt.toNat + j) = qL (4 * j + 2) ∧ (itr (bd_X10_orchard_105 rG rQ aG jG dG jY m_length qG uW eY aJ aB bT pW oY pR qL pL) (fr, now, x, h, w, r) 0 k).2.2.2.2.2 (fr.toInt.toNat + j) = qL (4 * j + 3)) := by
  intro k
  induction k with
  | zero =>
    intro _
    refine ⟨?_, fun j _ => ⟨rfl, rfl, rfl, rfl, rfl⟩, fun j hj => absurd hj (by omega)⟩
    show fr.toInt = fr.toInt + ((0 : Nat) : Int)
    omega
  | succ k ih =>
    intro hk
    obtain ⟨i1, i2, i3⟩ := ih (by omega)
    rw [itr_s, bd_X10_orchard_105]
    generalize itr (bd_X10_orchard_105 rG rQ aG jG dG jY m_length qG uW eY aJ aB bT pW oY pR qL pL) (fr, now, x, h, w, r) 0 k = s at i1 i2 i3 ⊢
    have l1 : Int32.toInt (1 : Int32) = 1 := by decide
    have es := ta_add s.1 1 (by omega)
    have ec := cl_n s.1
    have en : Int32.toInt (nI (0 + k)) = ((0 + k : Nat) : Int) := nI_toInt (by omega)
    obtain ⟨e0, e1, e2, e3⟩ := q4 (x := nI (0 + k)) (by omega)
    have en2 : (Int32.toInt (nI (0 + k))).toNat = k := by omega
    rw [en2] at e0 e1 e2 e3
    rw [e0, e1, e2, e3]
    refine ⟨?_, fun j hj => ?_, fun j hj => ?_⟩
    · show Int32.toInt (s.1 + 1) = _
      omega
    · show upd s.2.1 _ _ j = _ ∧ upd s.2.2.1 _ _ j = _ ∧ upd s.2.2.2.1 _ _ j = _ ∧ upd s.2.2.2.2.1 _ _ j = _ ∧ upd s.2.2.2.2.2 _ _ j = _
      have i : j ≠ s.1.toNatClampNeg := by omega
      rw [upd_n _ _ i, upd_n _ _ i, upd_n _ _ i, upd_n _ _ i, upd_n _ _ i]
      exact i2 j (by omega)
    · show upd s.2.1 _ _ _ = _ ∧ upd s.2.2.1 _ _ _ = _ ∧ upd s.2.2.2.1 _ _ _ = _ ∧ upd s.2.2.2.2.1 _ _ _ = _ ∧ upd s.2.2.2.2.2 _ _ _ = _
      by_cases hn : j = k
      · have i : fr.toInt.toNat + j = s.1.toNatClampNeg := by omega
        rw [i, upd_i, upd_i, upd_i, upd_i, upd_i, hn]
        exact ⟨rfl, rfl, rfl, rfl, rfl⟩
      · have i : fr.toInt.toNat + j ≠ s.1.toNatClampNeg := by omega
        rw [upd_n _ _ i, upd_n _ _ i, upd_n _ _ i, upd_n _ _ i, upd_n _ _ i]
        exact i3 j (by omega)
theorem cp215 {rG rQ : Nat → Int32} {bW jG dG : Int32} {jY : Nat} {m_length qG uW eY aJ aB bT pW : Int32} {rD m_x jA pY rW qL pL : Nat → Int32} {sd : Int32} {f k0 : Nat → Int32} (h0 : 0 ≤ sd.toInt) : ∀ k : Nat, sd.toInt + (k : Int) ≤ 8 →
    Int32.toInt (itr (bd_X10_orchard_215 rG rQ bW jG dG jY m_length qG uW eY aJ aB bT pW rD m_x jA pY rW qL pL) (sd, f, k0) 0 k).1 = sd.toInt + (k : Int)
    ∧ (∀ j : Nat, (j : Int) < sd.toInt → (itr (bd_X10_orchard_215 rG rQ bW jG dG jY m_length qG uW eY aJ aB bT pW rD m_x jA pY rW qL pL) (sd, f, k0) 0 k).2.1 j = f j ∧ (itr (bd_X10_orchard_215 rG rQ bW jG dG jY m_length qG uW eY aJ aB bT pW rD m_x jA pY rW qL pL) (sd, f, k0) 0 k).2.2 j = k0 j)
    ∧ (∀ j : Nat, j < k → (itr (bd_X10_orchard_215 rG rQ bW jG dG jY m_length qG uW eY aJ aB bT pW rD m_x jA pY rW qL pL) (sd, f, k0) 0 k).2.1 (sd.toInt.toNat + j) = pL (2 * j) ∧ (itr (bd_X10_orchard_215 rG rQ bW jG dG jY m_length qG uW eY aJ aB bT pW rD m_x jA pY rW qL pL) (sd, f, k0) 0 k).2.2 (sd.toInt.toNat + j) = pL (2 * j + 1)) := by
  intro k
  induction k with
  | zero =>
    intro _
    refine ⟨?_, fun j _ => ⟨rfl, rfl⟩, fun j hj => absurd hj (by omega)⟩
    show sd.toInt = sd.toInt + ((0 : Nat) : Int)
    omega
  | succ k ih =>
    intro hk
    obtain ⟨i1, i2, i3⟩ := ih (by omega)
    rw [itr_s, bd_X10_orchard_215]
    generalize itr (bd_X10_orchard_215 rG rQ bW jG dG jY m_length qG uW eY aJ aB bT pW rD m_x jA pY rW qL pL) (sd, f, k0) 0 k = s at i1 i2 i3 ⊢
    have l1 : Int32.toInt (1 : Int32) = 1 := by decide
    have es := ta_add s.1 1 (by omega)
    have ec := cl_n s.1
    have en : Int32.toInt (nI (0 + k)) = ((0 + k : Nat) : Int) := nI_toInt (by omega)
    obtain ⟨e0, e1⟩ := q2 (x := nI (0 + k)) (by omega)
    have en2 : (Int32.toInt (nI (0 + k))).toNat = k := by omega
    rw [en2] at e0 e1
    rw [e0, e1]
    refine ⟨?_, fun j hj => ?_, fun j hj => ?_⟩
    · show Int32.toInt (s.1 + 1) = _
      omega
    · show upd s.2.1 _ _ j = _ ∧ upd s.2.2 _ _ j = _
      have i : j ≠ s.1.toNatClampNeg := by omega
      rw [upd_n _ _ i, upd_n _ _ i]
      exact i2 j (by omega)
    · show upd s.2.1 _ _ _ = _ ∧ upd s.2.2 _ _ _ = _
      by_cases hn : j = k
      · have i : sd.toInt.toNat + j = s.1.toNatClampNeg := by omega
        rw [i, upd_i, upd_i, hn]
        exact ⟨rfl, rfl⟩
      · have i : sd.toInt.toNat + j ≠ s.1.toNatClampNeg := by omega
        rw [upd_n _ _ i, upd_n _ _ i]
        exact i3 j (by omega)
noncomputable def ORB (l fr sd und came : Int32) (now mx mh mw mr mf mk : Nat → Int32) (c : Int32 × Int32 × Int32 × Int32 × (Nat → Int32) × (Nat → Int32) × (Nat → Int32) × (Nat → Int32) × (Nat → Int32) × (Nat → Int32)) (ans fr' sd' und' came' : Int32) (now' mx' mh' mw' mr' mf' mk' : Nat → Int32) : Prop :=
  ((c.1 = -1 ∨ ¬ c.2.1 = l) ∧ ans = -1 - c.2.1 ∧ fr' = fr ∧ sd' = sd ∧ und' = und ∧ came' = came ∧ now' = now ∧ mx' = mx ∧ mh' = mh ∧ mw' = mw ∧ mr' = mr ∧ mf' = mf ∧ mk' = mk ∧ BE fr c.2.2.2.2.1 c.2.2.2.2.2.1 c.2.2.2.2.2.2.1 c.2.2.2.2.2.2.2.1 mx mh mw mr ∧ BS sd c.2.2.2.2.2.2.2.2.1 c.2.2.2.2.2.2.2.2.2 mf mk)
  ∨ (¬ c.1 = -1 ∧ ¬ c.1 ≤ 0 ∧ c.2.1 = l ∧ ans = c.1 ∧ fr' = c.2.2.1 ∧ sd' = c.2.2.2.1 ∧ und' = 0 ∧ came' = came + 1 ∧ BE fr' c.2.2.2.2.1 c.2.2.2.2.2.1 c.2.2.2.2.2.2.1 c.2.2.2.2.2.2.2.1 mx' mh' mw' mr' ∧ BS sd' c.2.2.2.2.2.2.2.2.1 c.2.2.2.2.2.2.2.2.2 mf' mk' ∧ fr.toInt ≤ fr'.toInt ∧ fr'.toInt ≤ 16 ∧ (∀ j : Nat, ((j : Int) < fr.toInt ∨ fr'.toInt ≤ (j : Int)) → now' j = now j) ∧ (∀ j : Nat, fr.toInt ≤ (j : Int) → (j : Int) < fr'.toInt → now' j = 0))
theorem i32 {a b : Int32} (h : a.toInt = b.toInt) : a = b := (fa_eq _ _).mpr h
theorem or_bad {P Q : Int32 → Int32 → Int32 → Int32 → Int32 → Nat → Int32 → Int32 → Int32 → Int32 → Int32 → Int32 → Int32 → Int32 → (Nat → Int32) → (Nat → Int32) → (Nat → Int32) → (Nat → Int32) → (Nat → Int32) → (Nat → Int32) → (Nat → Int32) → (Nat → Int32) → (Nat → Int32) → Prop} {l fr sd und came : Int32} {tx ru now mx mh mw mr mf mk : Nat → Int32} {c : Int32 × Int32 × Int32 × Int32 × (Nat → Int32) × (Nat → Int32) × (Nat → Int32) × (Nat → Int32) × (Nat → Int32) × (Nat → Int32)} {nf ns q wr : Int32} {nF nS : Nat → Int32} (hw : ¬ wr = -1) (hc : c.2.1 = q ∧ wr = q ∧ (c.1 = -1 ∨ ¬ c.2.1 = l)) (hbe : BE fr c.2.2.2.2.1 c.2.2.2.2.2.1 c.2.2.2.2.2.2.1 c.2.2.2.2.2.2.2.1 mx mh mw mr) (hbs : BS sd c.2.2.2.2.2.2.2.2.1 c.2.2.2.2.2.2.2.2.2 mf mk) (h : ws_X10_orchard_89 P tx ru fr sd 0 0 1 l 76 q wr nf ns und came now mx mh mw mr mf mk nF nS) (hq : (∀ (ans fr' sd' ty th : Int32) (rd : Nat) (le to at' wr' nf' ns' und' came' : Int32) (now' mx' mh' mw' mr' mf' mk' nF' nS' : Nat → Int32), P ans fr' sd' ty th rd le to at' wr' nf' ns' und' came' now' mx' mh' mw' mr' mf' mk' nF' nS' → ty = 0 → ORB l fr sd und came now mx mh mw mr mf mk (c) ans fr' sd' und' came' now' mx' mh' mw' mr' mf' mk' → Q ans fr' sd' ty th rd le to at' wr' nf' ns' und' came' now' mx' mh' mw' mr' mf' mk' nF' nS')) : ws_X10_orchard_89 Q tx ru fr sd 0 0 1 l 76 q wr nf ns und came now mx mh mw mr mf mk nF nS := by
  unfold ws_X10_orchard_89 at h ⊢
  refine du_X10_fine h ?_
  intro h
  refine And.intro (fun c1 => absurd (fine_w hw) c1) (fun c1 => ?_)
  have h := And.right h c1
  refine hq _ _ _ _ _ _ _ _ _ _ _ _ _ _ _ _ _ _ _ _ _ _ _ h rfl (Or.inl ⟨hc.2.2, ?_, rfl, rfl, rfl, rfl, rfl, rfl, rfl, rfl, rfl, rfl, rfl, hbe, hbs⟩)
  rw [hc.1, hc.2.1]
theorem or_end {P Q : Int32 → Int32 → Int32 → Int32 → Int32 → Nat → Int32 → Int32 → Int32 → Int32 → Int32 → Int32 → Int32 → Int32 → (Nat → Int32) → (Nat → Int32) → (Nat → Int32) → (Nat → Int32) → (Nat → Int32) → (Nat → Int32) → (Nat → Int32) → (Nat → Int32) → (Nat → Int32) → Prop} {l fr sd und came : Int32} {tx ru now mx mh mw mr mf mk : Nat → Int32} {c : Int32 × Int32 × Int32 × Int32 × (Nat → Int32) × (Nat → Int32) × (Nat → Int32) × (Nat → Int32) × (Nat → Int32) × (Nat → Int32)} {n : Nat} {nf ns q wr : Int32} {nF nS : Nat → Int32} (hw : ¬ wr = -1) (hc : c.2.1 = q ∧ wr = q ∧ (c.1 = -1 ∨ ¬ c.2.1 = l)) (hbe : BE fr c.2.2.2.2.1 c.2.2.2.2.2.1 c.2.2.2.2.2.2.1 c.2.2.2.2.2.2.2.1 mx mh mw mr) (hbs : BS sd c.2.2.2.2.2.2.2.2.1 c.2.2.2.2.2.2.2.2.2 mf mk) (h : wb_X10_orchard_45 P tx ru n 0 fr sd 0 0 1 l 76 q wr nf ns und came now mx mh mw mr mf mk nF nS) (hq : (∀ (ans fr' sd' ty th : Int32) (rd : Nat) (le to at' wr' nf' ns' und' came' : Int32) (now' mx' mh' mw' mr' mf' mk' nF' nS' : Nat → Int32), P ans fr' sd' ty th rd le to at' wr' nf' ns' und' came' now' mx' mh' mw' mr' mf' mk' nF' nS' → ty = 0 → ORB l fr sd und came now mx mh mw mr mf mk (c) ans fr' sd' und' came' now' mx' mh' mw' mr' mf' mk' → Q ans fr' sd' ty th rd le to at' wr' nf' ns' und' came' now' mx' mh' mw' mr' mf' mk' nF' nS')) : wb_X10_orchard_45 Q tx ru n 0 fr sd 0 0 1 l 76 q wr nf ns und came now mx mh mw mr mf mk nF nS := by
  cases n with
  | zero => exact False.elim h
  | succ n =>
    refine And.intro (fun _ => ?_) (fun c1 => absurd rfl c1)
    have h := And.left h rfl
    unfold ws_X10_orchard_70 at h ⊢
    refine And.intro (fun c2 => ?_) (fun c2 => ?_)
    · exact or_bad hw hc hbe hbs (And.left h c2) hq
    · refine du_X10_fault (And.right h c2) ?_
      intro h
      rw [fault_w hw] at h ⊢
      exact or_bad hw hc hbe hbs h hq
theorem or_good {P Q : Int32 → Int32 → Int32 → Int32 → Int32 → Nat → Int32 → Int32 → Int32 → Int32 → Int32 → Int32 → Int32 → Int32 → (Nat → Int32) → (Nat → Int32) → (Nat → Int32) → (Nat → Int32) → (Nat → Int32) → (Nat → Int32) → (Nat → Int32) → (Nat → Int32) → (Nat → Int32) → Prop} {l fr sd und came : Int32} {sg tx ru now mx mh mw mr mf mk : Nat → Int32} {c : Int32 × Int32 × Int32 × Int32 × (Nat → Int32) × (Nat → Int32) × (Nat → Int32) × (Nat → Int32) × (Nat → Int32) × (Nat → Int32)} {n : Nat} {nf ns cf cs q : Int32} {nF nS x h w r f k : Nat → Int32} (hs : ∀ k : Nat, sg k = tx k &&& 255) (hl : 0 ≤ l.toInt ∧ l.toInt ≤ 80) (hfr : 0 ≤ fr.toInt ∧ fr.toInt ≤ 16) (hsd : 0 ≤ sd.toInt ∧ sd.toInt ≤ 8) (hc : c = (nf + ns, q, cf, cs, x, h, w, r, f, k)) (hq0 : 0 ≤ q.toInt ∧ q.toInt ≤ l.toInt) (hnf : 0 ≤ nf.toInt) (hns : 0 ≤ ns.toInt) (hln : 0 < nf.toInt + ns.toInt) (hcf : cf.toInt = fr.toInt + nf.toInt ∧ cf.toInt ≤ 16) (hcs : cs.toInt = sd.toInt + ns.toInt ∧ cs.toInt ≤ 8)
    (hac : AC fr nf x h w r nF) (hsc : SC sd ns f k nS) (hbe : BE fr x h w r mx mh mw mr) (hbs : BS sd f k mf mk) (h : wb_X10_orchard_45 P tx ru n 0 fr sd 0 0 1 l 76 q (-1) nf ns und came now mx mh mw mr mf mk nF nS) (hq : (∀ (ans fr' sd' ty th : Int32) (rd : Nat) (le to at' wr' nf' ns' und' came' : Int32) (now' mx' mh' mw' mr' mf' mk' nF' nS' : Nat → Int32), P ans fr' sd' ty th rd le to at' wr' nf' ns' und' came' now' mx' mh' mw' mr' mf' mk' nF' nS' → ty = 0 → ORB l fr sd und came now mx mh mw mr mf mk (c) ans fr' sd' und' came' now' mx' mh' mw' mr' mf' mk' → Q ans fr' sd' ty th rd le to at' wr' nf' ns' und' came' now' mx' mh' mw' mr' mf' mk' nF' nS')) : wb_X10_orchard_45 Q tx ru n 0 fr sd 0 0 1 l 76 q (-1) nf ns und came now mx mh mw mr mf mk nF nS := by
  have l0 : Int32.toInt (0 : Int32) = 0 := by decide
  have lm : Int32.toInt (-1 : Int32) = -1 := by decide
  have ea := ta_add nf ns (by omega)
  have k1 : ¬ nf + ns = -1 := ne_m1 (by omega)
  cases n with
  | zero => exact False.elim h
  | succ n =>
    refine And.intro (fun _ => ?_) (fun c1 => absurd rfl c1)
    have h := And.left h rfl
    unfold ws_X10_orchard_70 at h ⊢
    refine And.intro (fun c2 => ?_) (fun c2 => ?_)
    · have h := And.left h c2
      have d2 := (fa_le _ _).mp c2
      obtain rfl : q = l := i32 (by omega)
      unfold ws_X10_orchard_89 at h ⊢
      refine du_X10_fine h ?_
      intro h
      refine And.intro (fun c3 => ?_) (fun c3 => absurd c3 fine_m)
      have h := And.left h c3
      obtain ⟨n1, h⟩ := h
      refine ⟨n1, dl_X10_orchard_105 (a := (fr, now, mx, mh, mw, mr)) (i := 0) (by decide) ?_ n1 0 0 (by decide) (Nat.zero_le _) h⟩
      intro c9 s9 ec es h
      obtain ⟨n2, h⟩ := h
      refine ⟨n2, dl_X10_orchard_215 (a := (sd, mf, mk)) (i := 0) (by decide) ?_ n2 0 0 (by decide) (Nat.zero_le _) h⟩
      intro c8 s8 ec8 es8 h
      refine ae ?_
      have h := h _ rfl
      have z1 : (Int32.toInt nf - ((0 : Nat) : Int)).toNat = nf.toInt.toNat := by omega
      have z2 : (Int32.toInt ns - ((0 : Nat) : Int)).toNat = ns.toInt.toNat := by omega
      rw [z1] at es
      rw [z2] at es8
      obtain ⟨a1, a2, a3⟩ := cp105 (fr := fr) (now := now) (x := mx) (h := mh) (w := mw) (r := mr) (qL := nF) hfr.1 nf.toInt.toNat (by omega)
      rw [← es] at a1 a2 a3
      obtain ⟨b1, b2, b3⟩ := cp215 (sd := sd) (f := mf) (k0 := mk) (pL := nS) hsd.1 ns.toInt.toNat (by omega)
      rw [← es8] at b1 b2 b3
      have f1 : s9.1 = cf := i32 (by omega)
      have f2 : s8.1 = cs := i32 (by omega)
      refine hq _ _ _ _ _ _ _ _ _ _ _ _ _ _ _ _ _ _ _ _ _ _ _ h rfl (Or.inr ?_)
      rw [hc]
      refine ⟨k1, fun c4 => by have c5 : nf + ns ≤ 0 := c4; have := (fa_le _ _).mp c5; omega, rfl, rfl, f1, f2, rfl, rfl, ?_, ?_, by omega, by omega, fun j hj => (a2 j (by omega)).1, fun j h1 h2 => ?_⟩
      · intro j hj
        by_cases hj2 : (j : Int) < fr.toInt
        · obtain ⟨_, u1, u2, u3, u4⟩ := a2 j (by omega)
          rw [u1, u2, u3, u4]
          exact hbe j hj2
        · obtain ⟨_, u1, u2, u3, u4⟩ := a3 (j - fr.toInt.toNat) (by omega)
          have v := hac (j - fr.toInt.toNat) (by omega)
          have ej : fr.toInt.toNat + (j - fr.toInt.toNat) = j := by omega
          rw [ej] at u1 u2 u3 u4 v
          rw [u1, u2, u3, u4]
          exact v
      · intro j hj
        by_cases hj2 : (j : Int) < sd.toInt
        · obtain ⟨u1, u2⟩ := b2 j hj2
          rw [u1, u2]
          exact hbs j hj2
        · obtain ⟨u1, u2⟩ := b3 (j - sd.toInt.toNat) (by omega)
          have v := hsc (j - sd.toInt.toNat) (by omega)
          have ej : sd.toInt.toNat + (j - sd.toInt.toNat) = j := by omega
          rw [ej] at u1 u2 v
          rw [u1, u2]
          exact v
      · have u := (a3 (j - fr.toInt.toNat) (by omega)).1
        have ej : fr.toInt.toNat + (j - fr.toInt.toNat) = j := by omega
        rw [ej] at u
        exact u
    · refine du_X10_fault (And.right h c2) ?_
      intro h
      have d2 := mt (fa_le _ _).mpr c2
      rw [fault_m] at h ⊢
      have hbe' : BE fr c.2.2.2.2.1 c.2.2.2.2.2.1 c.2.2.2.2.2.2.1 c.2.2.2.2.2.2.2.1 mx mh mw mr := by rw [hc]; exact hbe
      have hbs' : BS sd c.2.2.2.2.2.2.2.2.1 c.2.2.2.2.2.2.2.2.2 mf mk := by rw [hc]; exact hbs
      refine or_bad (c := c) (ne_m1 hq0.1) ⟨by rw [hc], rfl, Or.inr ?_⟩ hbe' hbs' h hq
      rw [hc]
      exact fun e => by have := congrArg Int32.toInt (show q = l from e); omega
set_option maxHeartbeats 1000000 in
theorem or_loop {P Q : Int32 → Int32 → Int32 → Int32 → Int32 → Nat → Int32 → Int32 → Int32 → Int32 → Int32 → Int32 → Int32 → Int32 → (Nat → Int32) → (Nat → Int32) → (Nat → Int32) → (Nat → Int32) → (Nat → Int32) → (Nat → Int32) → (Nat → Int32) → (Nat → Int32) → (Nat → Int32) → Prop} {l fr sd und came : Int32} {sg tx ru now mx mh mw mr mf mk : Nat → Int32} {d : Int32 → Int32 → Int32 → Int32 → (Nat → Int32) → (Nat → Int32) → (Nat → Int32) → (Nat → Int32) → (Nat → Int32) → (Nat → Int32) → Int32 × Int32 × Int32 × Int32 × (Nat → Int32) × (Nat → Int32) × (Nat → Int32) × (Nat → Int32) × (Nat → Int32) × (Nat → Int32)} (hs : ∀ k : Nat, sg k = tx k &&& 255) (hl : 0 ≤ l.toInt ∧ l.toInt ≤ 80) (hfr : 0 ≤ fr.toInt ∧ fr.toInt ≤ 16) (hsd : 0 ≤ sd.toInt ∧ sd.toInt ≤ 8) : ∀ (n m : Nat) (x2 a cf cs nf ns : Int32) (x h w r f k nF nS : Nat → Int32), 1 ≤ x2.toInt → 2 * (x2.toInt - 1) ≤ a.toInt → 0 ≤ a.toInt → a.toInt ≤ 77 → 77 - x2.toInt < (m : Int) → fr + nf = cf → sd + ns = cs → x2.toInt - 1 = nf.toInt + ns.toInt → 0 ≤ nf.toInt → 0 ≤ ns.toInt → cf.toInt = fr.toInt + nf.toInt → cs.toInt = sd.toInt + ns.toInt → cf.toInt ≤ 16 → cs.toInt ≤ 8 → AC fr nf x h w r nF → SC sd ns f k nS → BE fr x h w r mx mh mw mr → BS sd f k mf mk →
    wb_X10_orchard_45 P tx ru n 1 fr sd 0 0 1 l 76 a (-1) nf ns und came now mx mh mw mr mf mk nF nS → (∀ (ans fr' sd' ty th : Int32) (rd : Nat) (le to at' wr' nf' ns' und' came' : Int32) (now' mx' mh' mw' mr' mf' mk' nF' nS' : Nat → Int32), P ans fr' sd' ty th rd le to at' wr' nf' ns' und' came' now' mx' mh' mw' mr' mf' mk' nF' nS' → ty = 0 → ORB l fr sd und came now mx mh mw mr mf mk (flp (fs_X3_readLines_18 (fun o0 o1 o2 o3 o4 o5 o6 o7 o8 o9 => (o0, o1, o2, o3, o4, o5, o6, o7, o8, o9)) (stp l 76) sg fr sd) d m x2 a cf cs x h w r f k) ans fr' sd' und' came' now' mx' mh' mw' mr' mf' mk' → Q ans fr' sd' ty th rd le to at' wr' nf' ns' und' came' now' mx' mh' mw' mr' mf' mk' nF' nS') → wb_X10_orchard_45 Q tx ru n 1 fr sd 0 0 1 l 76 a (-1) nf ns und came now mx mh mw mr mf mk nF nS := by
  have l1 : Int32.toInt (1 : Int32) = 1 := by decide
  have l76 : Int32.toInt (76 : Int32) = 76 := by decide
  have hst := stp_r l 76
  intro n
  induction n with
  | zero => intro m x2 a cf cs nf ns x h w r f k nF nS _ _ _ _ _ _ _ _ _ _ _ _ _ _ _ _ _ _ h9; exact False.elim h9
  | succ n ih =>
    intro m x2 a cf cs nf ns x h w r f k nF nS y1 y2 y3 y4 y5 hf hd y6 y7 y8 y9 y10 y11 y12 hac hsc hbe hbs h9 hq
    cases m with
    | zero => exfalso; omega
    | succ m =>
      have n76 : ¬ 76 < x2 := fun c => by have := (fa_lt _ _).mp c; omega
      rw [flp_s, fs_X3_readLines_18, if_neg n76] at hq
      have h9 : ws_X10_orchard_45 P (wb_X10_orchard_45 P tx ru n) tx ru 1 fr sd 0 0 1 l 76 a (-1) nf ns und came now mx mh mw mr mf mk nF nS := h9
      show ws_X10_orchard_45 Q (wb_X10_orchard_45 Q tx ru n) tx ru 1 fr sd 0 0 1 l 76 a (-1) nf ns und came now mx mh mw mr mf mk nF nS
      unfold ws_X10_orchard_45 at h9 ⊢
      refine And.intro (fun c1 => absurd c1 n10) (fun c1 => ?_)
      have h9 := And.right h9 c1
      refine du_X10_fine h9 ?_
      intro h9
      refine And.intro (fun c2 => absurd c2 fine_m) (fun c2 => ?_)
      have h9 := And.right h9 c2
      refine du_X10_readLine h9 ?_
      intro h9
      refine du_X10_passes h9 ?_
      intro h9
      rcases line_rel (x := x) (h := h) (w := w) (r := r) (f := f) (k := k) (nF := nF) (nS := nS) (ru := ru) (t := 76) hs hl.2 (show 0 ≤ a.toInt ∧ a.toInt ≤ 100 by omega) hf hd (by omega) (by omega) with ⟨v1, v2, v3, v4, q, hC, hM, g1, g2, g3, g4⟩ | ⟨v1, v2, q, hC, hM, g1, g2, g3, g4⟩ | ⟨q, cf', cs', x', h', w', r', f', k', hC, hM, g1, g2, g3, g4⟩
      · rw [hM] at h9 ⊢
        rw [hC] at hq
        dsimp only at h9 hq ⊢
        rw [if_neg n10] at hq
        have hf2 : fr + (nf + 1) = cf + 1 := by rw [← Int32.add_assoc, hf]
        have en := ta_add nf 1 (by omega)
        have ecf := ta_add cf 1 (by omega)
        by_cases c3 : F_X8_here q (stp l 76) sg = 59
        · have e3 := tk_y c3
          have b2 := hr_c c3 (by decide)
          have b3 := p1_r (p := q) (st := stp l 76) (by omega) (by omega) b2
          have ex := ta_add x2 1 (by omega)
          rw [pas_eq hs, e3] at h9 ⊢
          rw [e3] at hq
          dsimp only at h9 hq ⊢
          rw [if_neg n10] at hq
          exact ih m (x2 + 1) (q + 1) (cf + 1) cs (nf + 1) ns (upd x cf.toNatClampNeg v1) (upd h cf.toNatClampNeg v2) (upd w cf.toNatClampNeg v3) (upd r cf.toNatClampNeg v4) f k _ _ (by omega) (by omega) (by omega) (by omega) (by omega) hf2 hd (by omega) (by omega) (by omega) (by omega) (by omega) (by omega) (by omega) (AC_s hac hfr.1 (by omega) y9) hsc (BE_u hbe (by omega) hfr.1) hbs h9 hq
        · have e3 := tk_n c3
          have es : nf + 1 + ns = x2 := i32 (by have := ta_add (nf + 1) ns (by omega); omega)
          rw [pas_eq hs, e3] at h9 ⊢
          rw [e3] at hq
          dsimp only at h9 hq ⊢
          rw [if_pos rfl] at hq
          exact or_good (c := (x2, q, (cf + 1), cs, (upd x cf.toNatClampNeg v1), (upd h cf.toNatClampNeg v2), (upd w cf.toNatClampNeg v3), (upd r cf.toNatClampNeg v4), f, k)) hs hl hfr hsd (by rw [es]) (by omega) (by omega) (by omega) (by omega) (by omega) (by omega) (AC_s hac hfr.1 (by omega) y9) hsc (BE_u hbe (by omega) hfr.1) hbs h9 hq
      · rw [hM] at h9 ⊢
        rw [hC] at hq
        dsimp only at h9 hq ⊢
        rw [if_neg n10] at hq
        have hd2 : sd + (ns + 1) = cs + 1 := by rw [← Int32.add_assoc, hd]
        have en := ta_add ns 1 (by omega)
        have ecf := ta_add cs 1 (by omega)
        by_cases c3 : F_X8_here q (stp l 76) sg = 59
        · have e3 := tk_y c3
          have b2 := hr_c c3 (by decide)
          have b3 := p1_r (p := q) (st := stp l 76) (by omega) (by omega) b2
          have ex := ta_add x2 1 (by omega)
          rw [pas_eq hs, e3] at h9 ⊢
          rw [e3] at hq
          dsimp only at h9 hq ⊢
          rw [if_neg n10] at hq
          exact ih m (x2 + 1) (q + 1) cf (cs + 1) nf (ns + 1) x h w r (upd f cs.toNatClampNeg v1) (upd k cs.toNatClampNeg v2) _ _ (by omega) (by omega) (by omega) (by omega) (by omega) hf hd2 (by omega) (by omega) (by omega) (by omega) (by omega) (by omega) (by omega) hac (SC_s hsc hsd.1 (by omega) y10) hbe (BS_u hbs (by omega) hsd.1) h9 hq
        · have e3 := tk_n c3
          have es : nf + (ns + 1) = x2 := i32 (by have := ta_add nf (ns + 1) (by omega); omega)
          rw [pas_eq hs, e3] at h9 ⊢
          rw [e3] at hq
          dsimp only at h9 hq ⊢
          rw [if_pos rfl] at hq
          exact or_good (c := (x2, q, cf, (cs + 1), x, h, w, r, (upd f cs.toNatClampNeg v1), (upd k cs.toNatClampNeg v2))) hs hl hfr hsd (by rw [es]) (by omega) (by omega) (by omega) (by omega) (by omega) (by omega) hac (SC_s hsc hsd.1 (by omega) y10) hbe (BS_u hbs (by omega) hsd.1) h9 hq
      · have wq : ¬ q = -1 := ne_m1 (by omega)
        rw [hM.1, hM.2] at h9 ⊢
        rw [hC] at hq
        dsimp only at hq
        rw [if_pos rfl] at hq
        rw [pas_w wq] at h9 ⊢
        dsimp only at h9 ⊢
        have ecf := cl_n cf
        have ecs := cl_n cs
        refine or_end (c := (-1, q, cf', cs', x', h', w', r', f', k')) wq ⟨rfl, rfl, Or.inl rfl⟩ ?_ ?_ h9 hq
        · intro j hj
          obtain ⟨u1, u2, u3, u4⟩ := g3 j (by omega)
          show x' j = _ ∧ h' j = _ ∧ w' j = _ ∧ r' j = _
          rw [u1, u2, u3, u4]
          exact hbe j hj
        · intro j hj
          obtain ⟨u1, u2⟩ := g4 j (by omega)
          show f' j = _ ∧ k' j = _
          rw [u1, u2]
          exact hbs j hj
