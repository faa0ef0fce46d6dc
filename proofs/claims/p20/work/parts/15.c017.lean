theorem or_good {P Q : Int32 → Int32 → Int32 → Int32 → Int32 → Nat → Int32 → Int32 → Int32 → Int32 → Int32 → Int32 → Int32 → Int32 → (Nat → Int32) → (Nat → Int32) → (Nat → Int32) → (Nat → Int32) → (Nat → Int32) → (Nat → Int32) → (Nat → Int32) → (Nat → Int32) → (Nat → Int32) → Prop} {l fr sd und came : Int32} {sg tx ru now mx mh mw mr mf mk : Nat → Int32} {c : Int32 × Int32 × Int32 × Int32 × (Nat → Int32) × (Nat → Int32) × (Nat → Int32) × (Nat → Int32) × (Nat → Int32) × (Nat → Int32)} {n : Nat} {nf ns cf cs q : Int32} {nF nS x h w r f k : Nat → Int32} (hs : ∀ k : Nat, sg k = tx k &&& 255) (hl : 0 ≤ l.toInt ∧ l.toInt ≤ 80) (hfr : 0 ≤ fr.toInt ∧ fr.toInt ≤ 16) (hsd : 0 ≤ sd.toInt ∧ sd.toInt ≤ 8) (hc : c = (nf + ns, q, cf, cs, x, h, w, r, f, k)) (hq0 : 0 ≤ q.toInt ∧ q.toInt ≤ l.toInt) (hnf : 0 ≤ nf.toInt) (hns : 0 ≤ ns.toInt) (hln : 0 < nf.toInt + ns.toInt) (hcf : cf.toInt = fr.toInt + nf.toInt ∧ cf.toInt ≤ 16) (hcs : cs.toInt = sd.toInt + ns.toInt ∧ cs.toInt ≤ 8)
    (hac : AC fr nf x h w r nF) (hsc : SC sd ns f k nS) (hbe : BE fr x h w r mx mh mw mr) (hbs : BS sd f k mf mk) (h : aU1 P tx ru n 0 fr sd 0 0 1 l 76 q (-1) nf ns und came now mx mh mw mr mf mk nF nS) (hq : (∀ (ans fr' sd' ty th : Int32) (rd : Nat) (le to at' wr' nf' ns' und' came' : Int32) (now' mx' mh' mw' mr' mf' mk' nF' nS' : Nat → Int32), P ans fr' sd' ty th rd le to at' wr' nf' ns' und' came' now' mx' mh' mw' mr' mf' mk' nF' nS' → ty = 0 → ORB l fr sd und came now mx mh mw mr mf mk (c) ans fr' sd' und' came' now' mx' mh' mw' mr' mf' mk' → Q ans fr' sd' ty th rd le to at' wr' nf' ns' und' came' now' mx' mh' mw' mr' mf' mk' nF' nS')) : aU1 Q tx ru n 0 fr sd 0 0 1 l 76 q (-1) nf ns und came now mx mh mw mr mf mk nF nS := by
  have l0 : Int32.toInt (0 : Int32) = 0 := by decide
  have lm : Int32.toInt (-1 : Int32) = -1 := by decide
  have ea := aAD nf ns (by omega)
  have k1 : ¬ nf + ns = -1 := ne_m1 (by omega)
  cases n with
  | zero => exact False.elim h
  | succ n =>
    refine And.intro (fun _ => ?_) (fun c1 => absurd rfl c1)
    have h := And.left h rfl
    unfold ws_X10_orchard_70 at h ⊢
    refine And.intro (fun c2 => ?_) (fun c2 => ?_)
    · have h := And.left h c2
      have d2 := (aAO _ _).mp c2
      obtain rfl : q = l := i32 (by omega)
      unfold bBT at h ⊢
      refine du_X10_fine h ?_
      intro h
      refine And.intro (fun c3 => ?_) (fun c3 => absurd c3 fine_m)
      have h := And.left h c3
      obtain ⟨n1, h⟩ := h
      refine ⟨n1, dl_X10_orchard_105 (a := (fr, now, mx, mh, mw, mr)) (i := 0) (by decide) ?_ n1 0 0 (by decide) (Nat.zero_le _) h⟩
      intro c9 s9 ec es h
      obtain ⟨n2, h⟩ := h
      refine ⟨n2, dl_X10_orchard_215 (a := (sd, mf, mk)) (i := 0) (by decide) ?_ n2 0 0 (by decide) (Nat.zero_le _) h⟩
      intro c8 s8 ec8 es8 h
      refine ae ?_
      have h := h _ rfl
      have z1 : (Int32.toInt nf - ((0 : Nat) : Int)).toNat = nf.toInt.toNat := by omega
      have z2 : (Int32.toInt ns - ((0 : Nat) : Int)).toNat = ns.toInt.toNat := by omega
      rw [z1] at es
      rw [z2] at es8
      obtain ⟨a1, a2, a3⟩ := cp105 (fr := fr) (now := now) (x := mx) (h := mh) (w := mw) (r := mr) (qT := nF) hfr.1 nf.toInt.toNat (by omega)
      rw [← es] at a1 a2 a3
      obtain ⟨b1, b2, b3⟩ := cp215 (sd := sd) (f := mf) (k0 := mk) (qA := nS) hsd.1 ns.toInt.toNat (by omega)
      rw [← es8] at b1 b2 b3
      have f1 : s9.1 = cf := i32 (by omega)
      have f2 : s8.1 = cs := i32 (by omega)
      refine hq _ _ _ _ _ _ _ _ _ _ _ _ _ _ _ _ _ _ _ _ _ _ _ h rfl (Or.inr ?_)
      rw [hc]
      refine ⟨k1, fun c4 => by have c5 : nf + ns ≤ 0 := c4; have := (aAO _ _).mp c5; omega, rfl, rfl, f1, f2, rfl, rfl, ?_, ?_, by omega, by omega, fun j hj => (a2 j (by omega)).1, fun j h1 h2 => ?_⟩
      · intro j hj
        by_cases hj2 : (j : Int) < fr.toInt
        · obtain ⟨_, u1, u2, u3, u4⟩ := a2 j (by omega)
          rw [u1, u2, u3, u4]
          exact hbe j hj2
        · obtain ⟨_, u1, u2, u3, u4⟩ := a3 (j - fr.toInt.toNat) (by omega)
          have v := hac (j - fr.toInt.toNat) (by omega)
          have ej : fr.toInt.toNat + (j - fr.toInt.toNat) = j := by omega
          rw [ej] at u1 u2 u3 u4 v
          rw [u1, u2, u3, u4]
          exact v
      · intro j hj
        by_cases hj2 : (j : Int) < sd.toInt
        · obtain ⟨u1, u2⟩ := b2 j hj2
          rw [u1, u2]
          exact hbs j hj2
        · obtain ⟨u1, u2⟩ := b3 (j - sd.toInt.toNat) (by omega)
          have v := hsc (j - sd.toInt.toNat) (by omega)
          have ej : sd.toInt.toNat + (j - sd.toInt.toNat) = j := by omega
          rw [ej] at u1 u2 v
          rw [u1, u2]
          exact v
      · have u := (a3 (j - fr.toInt.toNat) (by omega)).1
        have ej : fr.toInt.toNat + (j - fr.toInt.toNat) = j := by omega
        rw [ej] at u
        exact u
    · refine du_X10_fault (And.right h c2) ?_
      intro h
      have d2 := mt (aAO _ _).mpr c2
      rw [fault_m] at h ⊢
      have hbe' : BE fr c.2.2.2.2.1 c.2.2.2.2.2.1 c.2.2.2.2.2.2.1 c.2.2.2.2.2.2.2.1 mx mh mw mr := by rw [hc]; exact hbe
      have hbs' : BS sd c.2.2.2.2.2.2.2.2.1 c.2.2.2.2.2.2.2.2.2 mf mk := by rw [hc]; exact hbs
      refine or_bad (c := c) (ne_m1 hq0.1) ⟨by rw [hc], rfl, Or.inr ?_⟩ hbe' hbs' h hq
      rw [hc]
      exact fun e => by have := congrArg Int32.toInt (show q = l from e); omega
