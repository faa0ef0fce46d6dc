set_option maxHeartbeats 1000000 in
theorem or_loop {P Q : Int32 → Int32 → Int32 → Int32 → Int32 → Nat → Int32 → Int32 → Int32 → Int32 → Int32 → Int32 → Int32 → Int32 → (Nat → Int32) → (Nat → Int32) → (Nat → Int32) → (Nat → Int32) → (Nat → Int32) → (Nat → Int32) → (Nat → Int32) → (Nat → Int32) → (Nat → Int32) → Prop} {l fr sd und came : Int32} {sg tx ru now mx mh mw mr mf mk : Nat → Int32} {d : Int32 → Int32 → Int32 → Int32 → (Nat → Int32) → (Nat → Int32) → (Nat → Int32) → (Nat → Int32) → (Nat → Int32) → (Nat → Int32) → Int32 × Int32 × Int32 × Int32 × (Nat → Int32) × (Nat → Int32) × (Nat → Int32) × (Nat → Int32) × (Nat → Int32) × (Nat → Int32)} (hs : ∀ k : Nat, sg k = tx k &&& 255) (hl : 0 ≤ l.toInt ∧ l.toInt ≤ 80) (hfr : 0 ≤ fr.toInt ∧ fr.toInt ≤ 16) (hsd : 0 ≤ sd.toInt ∧ sd.toInt ≤ 8) : ∀ (n m : Nat) (x2 a cf cs nf ns : Int32) (x h w r f k nF nS : Nat → Int32), 1 ≤ x2.toInt → 2 * (x2.toInt - 1) ≤ a.toInt → 0 ≤ a.toInt → a.toInt ≤ 77 → 77 - x2.toInt < (m : Int) → fr + nf = cf → sd + ns = cs → x2.toInt - 1 = nf.toInt + ns.toInt → 0 ≤ nf.toInt → 0 ≤ ns.toInt → cf.toInt = fr.toInt + nf.toInt → cs.toInt = sd.toInt + ns.toInt → cf.toInt ≤ 16 → cs.toInt ≤ 8 → AC fr nf x h w r nF → SC sd ns f k nS → BE fr x h w r mx mh mw mr → BS sd f k mf mk →
    aU1 P tx ru n 1 fr sd 0 0 1 l 76 a (-1) nf ns und came now mx mh mw mr mf mk nF nS → (∀ (ans fr' sd' ty th : Int32) (rd : Nat) (le to at' wr' nf' ns' und' came' : Int32) (now' mx' mh' mw' mr' mf' mk' nF' nS' : Nat → Int32), P ans fr' sd' ty th rd le to at' wr' nf' ns' und' came' now' mx' mh' mw' mr' mf' mk' nF' nS' → ty = 0 → ORB l fr sd und came now mx mh mw mr mf mk (flp (fs_X3_readLines_18 (fun o0 o1 o2 o3 o4 o5 o6 o7 o8 o9 => (o0, o1, o2, o3, o4, o5, o6, o7, o8, o9)) (stp l 76) sg fr sd) d m x2 a cf cs x h w r f k) ans fr' sd' und' came' now' mx' mh' mw' mr' mf' mk' → Q ans fr' sd' ty th rd le to at' wr' nf' ns' und' came' now' mx' mh' mw' mr' mf' mk' nF' nS') → aU1 Q tx ru n 1 fr sd 0 0 1 l 76 a (-1) nf ns und came now mx mh mw mr mf mk nF nS := by
  have l1 : Int32.toInt (1 : Int32) = 1 := by decide
  have l76 : Int32.toInt (76 : Int32) = 76 := by decide
  have hst := stp_r l 76
  intro n
  induction n with
  | zero => intro m x2 a cf cs nf ns x h w r f k nF nS _ _ _ _ _ _ _ _ _ _ _ _ _ _ _ _ _ _ h9; exact False.elim h9
  | succ n ih =>
    intro m x2 a cf cs nf ns x h w r f k nF nS y1 y2 y3 y4 y5 hf hd y6 y7 y8 y9 y10 y11 y12 hac hsc hbe hbs h9 hq
    cases m with
    | zero => exfalso; omega
    | succ m =>
      have n76 : ¬ 76 < x2 := fun c => by have := (aAd _ _).mp c; omega
      rw [flp_s, fs_X3_readLines_18, if_neg n76] at hq
      have h9 : ws_X10_orchard_45 P (aU1 P tx ru n) tx ru 1 fr sd 0 0 1 l 76 a (-1) nf ns und came now mx mh mw mr mf mk nF nS := h9
      show ws_X10_orchard_45 Q (aU1 Q tx ru n) tx ru 1 fr sd 0 0 1 l 76 a (-1) nf ns und came now mx mh mw mr mf mk nF nS
      unfold ws_X10_orchard_45 at h9 ⊢
      refine And.intro (fun c1 => absurd c1 n10) (fun c1 => ?_)
      have h9 := And.right h9 c1
      refine du_X10_fine h9 ?_
      intro h9
      refine And.intro (fun c2 => absurd c2 fine_m) (fun c2 => ?_)
      have h9 := And.right h9 c2
      refine du_X10_readLine h9 ?_
      intro h9
      refine du_X10_passes h9 ?_
      intro h9
      rcases line_rel (x := x) (h := h) (w := w) (r := r) (f := f) (k := k) (nF := nF) (nS := nS) (ru := ru) (t := 76) hs hl.2 (show 0 ≤ a.toInt ∧ a.toInt ≤ 100 by omega) hf hd (by omega) (by omega) with ⟨v1, v2, v3, v4, q, hC, hM, g1, g2, g3, g4⟩ | ⟨v1, v2, q, hC, hM, g1, g2, g3, g4⟩ | ⟨q, cf', cs', x', h', w', r', f', k', hC, hM, g1, g2, g3, g4⟩
      · rw [hM] at h9 ⊢
        rw [hC] at hq
        dsimp only at h9 hq ⊢
        rw [if_neg n10] at hq
        have hf2 : fr + (nf + 1) = cf + 1 := by rw [← Int32.add_assoc, hf]
        have en := aAD nf 1 (by omega)
        have ecf := aAD cf 1 (by omega)
        by_cases c3 : aE7 q (stp l 76) sg = 59
        · have e3 := tk_y c3
          have b2 := hr_c c3 (by decide)
          have b3 := p1_r (p := q) (st := stp l 76) (by omega) (by omega) b2
          have ex := aAD x2 1 (by omega)
          rw [pas_eq hs, e3] at h9 ⊢
          rw [e3] at hq
          dsimp only at h9 hq ⊢
          rw [if_neg n10] at hq
          exact ih m (x2 + 1) (q + 1) (cf + 1) cs (nf + 1) ns (upd x cf.toNatClampNeg v1) (upd h cf.toNatClampNeg v2) (upd w cf.toNatClampNeg v3) (upd r cf.toNatClampNeg v4) f k _ _ (by omega) (by omega) (by omega) (by omega) (by omega) hf2 hd (by omega) (by omega) (by omega) (by omega) (by omega) (by omega) (by omega) (AC_s hac hfr.1 (by omega) y9) hsc (BE_u hbe (by omega) hfr.1) hbs h9 hq
        · have e3 := tk_n c3
          have es : nf + 1 + ns = x2 := i32 (by have := aAD (nf + 1) ns (by omega); omega)
          rw [pas_eq hs, e3] at h9 ⊢
          rw [e3] at hq
          dsimp only at h9 hq ⊢
          rw [if_pos rfl] at hq
          exact or_good (c := (x2, q, (cf + 1), cs, (upd x cf.toNatClampNeg v1), (upd h cf.toNatClampNeg v2), (upd w cf.toNatClampNeg v3), (upd r cf.toNatClampNeg v4), f, k)) hs hl hfr hsd (by rw [es]) (by omega) (by omega) (by omega) (by omega) (by omega) (by omega) (AC_s hac hfr.1 (by omega) y9) hsc (BE_u hbe (by omega) hfr.1) hbs h9 hq
      · rw [hM] at h9 ⊢
        rw [hC] at hq
        dsimp only at h9 hq ⊢
        rw [if_neg n10] at hq
        have hd2 : sd + (ns + 1) = cs + 1 := by rw [← Int32.add_assoc, hd]
        have en := aAD ns 1 (by omega)
        have ecf := aAD cs 1 (by omega)
        by_cases c3 : aE7 q (stp l 76) sg = 59
        · have e3 := tk_y c3
          have b2 := hr_c c3 (by decide)
          have b3 := p1_r (p := q) (st := stp l 76) (by omega) (by omega) b2
          have ex := aAD x2 1 (by omega)
          rw [pas_eq hs, e3] at h9 ⊢
          rw [e3] at hq
          dsimp only at h9 hq ⊢
          rw [if_neg n10] at hq
          exact ih m (x2 + 1) (q + 1) cf (cs + 1) nf (ns + 1) x h w r (upd f cs.toNatClampNeg v1) (upd k cs.toNatClampNeg v2) _ _ (by omega) (by omega) (by omega) (by omega) (by omega) hf hd2 (by omega) (by omega) (by omega) (by omega) (by omega) (by omega) (by omega) hac (SC_s hsc hsd.1 (by omega) y10) hbe (BS_u hbs (by omega) hsd.1) h9 hq
        · have e3 := tk_n c3
          have es : nf + (ns + 1) = x2 := i32 (by have := aAD nf (ns + 1) (by omega); omega)
          rw [pas_eq hs, e3] at h9 ⊢
          rw [e3] at hq
          dsimp only at h9 hq ⊢
          rw [if_pos rfl] at hq
          exact or_good (c := (x2, q, cf, (cs + 1), x, h, w, r, (upd f cs.toNatClampNeg v1), (upd k cs.toNatClampNeg v2))) hs hl hfr hsd (by rw [es]) (by omega) (by omega) (by omega) (by omega) (by omega) (by omega) hac (SC_s hsc hsd.1 (by omega) y10) hbe (BS_u hbs (by omega) hsd.1) h9 hq
      · have wq : ¬ q = -1 := ne_m1 (by omega)
        rw [hM.1, hM.2] at h9 ⊢
        rw [hC] at hq
        dsimp only at hq
        rw [if_pos rfl] at hq
        rw [pas_w wq] at h9 ⊢
        dsimp only at h9 ⊢
        have ecf := cl_n cf
        have ecs := cl_n cs
        refine or_end (c := (-1, q, cf', cs', x', h', w', r', f', k')) wq ⟨rfl, rfl, Or.inl rfl⟩ ?_ ?_ h9 hq
        · intro j hj
          obtain ⟨u1, u2, u3, u4⟩ := g3 j (by omega)
          show x' j = _ ∧ h' j = _ ∧ w' j = _ ∧ r' j = _
          rw [u1, u2, u3, u4]
          exact hbe j hj
        · intro j hj
          obtain ⟨u1, u2⟩ := g4 j (by omega)
          show f' j = _ ∧ k' j = _
          rw [u1, u2]
          exact hbs j hj

