/-! orchard(): what class and reference have behind it (printed by orch2.py) -/
def ORS (fr sd und mund came : Int32) (isK now : Nat → Int32) (o : Int32 × Int32 × Int32 × Int32 × Int32 × Int32 × Int32 × Int32 × (Nat → Int32) × (Nat → Int32) × (Nat → Int32) × (Nat → Int32) × (Nat → Int32) × (Nat → Int32) × Int32 × (Nat → Int32)) (ans fr' sd' und' came' : Int32) (now' mx' mh' mw' mr' mf' mk' : Nat → Int32) : Prop :=
  ans = o.1 ∧ o.2.1 = 0 ∧ fr' = o.2.2.2.2.1 ∧ sd' = o.2.2.2.2.2.1 ∧ BE fr' o.2.2.2.2.2.2.2.2.1 o.2.2.2.2.2.2.2.2.2.1 o.2.2.2.2.2.2.2.2.2.2.1 o.2.2.2.2.2.2.2.2.2.2.2.1 mx' mh' mw' mr' ∧ BS sd' o.2.2.2.2.2.2.2.2.2.2.2.2.1 o.2.2.2.2.2.2.2.2.2.2.2.2.2.1 mf' mk' ∧
  ((o.2.2.2.2.2.2.2.2.2.2.2.2.2.2.1 = und ∧ o.2.2.2.2.2.2.2.2.2.2.2.2.2.2.2 = isK ∧ und' = mund ∧ came' = came ∧ now' = now ∧ fr' = fr ∧ sd' = sd)
  ∨ (o.2.2.2.2.2.2.2.2.2.2.2.2.2.2.1 = 0 ∧ o.2.2.2.2.2.2.2.2.2.2.2.2.2.2.2 0 = 0 ∧ o.2.2.2.2.2.2.2.2.2.2.2.2.2.2.2 1 = 0 ∧ und' = 0 ∧ came' = came + 1 ∧ fr.toInt ≤ fr'.toInt ∧ fr'.toInt ≤ 16 ∧ (∀ j : Nat, ((j : Int) < fr.toInt ∨ fr'.toInt ≤ (j : Int)) → now' j = now j) ∧ (∀ j : Nat, fr.toInt ≤ (j : Int) → (j : Int) < fr'.toInt → now' j = 0)))
theorem fga (u : Int32) (k : Nat → Int32) : (aYm u k).1 = 0 ∧ (aYm u k).2 0 = 0 ∧ (aYm u k).2 1 = 0 := by
  have z : (Int32.toInt 2 - ((0 : Nat) : Int)).toNat = 2 := by decide
  have n0 : (nI (0 + 0)).toNatClampNeg = 0 := by decide
  have n1 : (nI (0 + 1)).toNatClampNeg = 1 := by decide
  have b : vp_nar .boolean 0 = 0 := by decide
  rw [aYm, z, ex_X4_forgetAll_7, show (2 : Nat) = 1 + 1 from rfl, itr_s, aXt, show itr (aXt 0) k 0 1 = aXt 0 (nI (0 + 0)) k from rfl, aXt, n0, n1, b]
  refine ⟨rfl, ?_, ?_⟩
  · show upd (upd k 0 0) 1 0 0 = 0
    rw [aGi _ _ (by decide), upd_i]
  · show upd (upd k 0 0) 1 0 1 = 0
    rw [upd_i]
set_option maxHeartbeats 1000000 in
theorem orchard_rel {P Q : Int32 → Int32 → Int32 → Int32 → Int32 → Nat → Int32 → Int32 → Int32 → Int32 → Int32 → Int32 → Int32 → Int32 → (Nat → Int32) → (Nat → Int32) → (Nat → Int32) → (Nat → Int32) → (Nat → Int32) → (Nat → Int32) → (Nat → Int32) → (Nat → Int32) → (Nat → Int32) → Prop} {l pl sp fr sd cF cS und th0 le0 to0 at0 wr0 nf0 ns0 mund came : Int32} {rd0 : Nat} {sg x h w r f k isK now mx mh mw mr mf mk tx nF nS ru : Nat → Int32} (hs : ∀ k : Nat, sg k = tx k &&& 255) (hl : 0 ≤ l.toInt ∧ l.toInt ≤ 80) (hfr : 0 ≤ fr.toInt ∧ fr.toInt ≤ 16) (hsd : 0 ≤ sd.toInt ∧ sd.toInt ≤ 8) (hbe : BE fr x h w r mx mh mw mr) (hbs : BS sd f k mf mk)
    (h9 : wp_X10_orchard P fr sd l th0 rd0 le0 to0 at0 wr0 nf0 ns0 mund came now mx mh mw mr mf mk tx nF nS ru) (hq : ∀ (ans fr' sd' ty th : Int32) (rd : Nat) (le to at' wr' nf' ns' und' came' : Int32) (now' mx' mh' mw' mr' mf' mk' nF' nS' : Nat → Int32), P ans fr' sd' ty th rd le to at' wr' nf' ns' und' came' now' mx' mh' mw' mr' mf' mk' nF' nS' → ty = 0 → ORS fr sd und mund came isK now (aFs l pl sp sg fr sd cF cS x h w r f k und isK) ans fr' sd' und' came' now' mx' mh' mw' mr' mf' mk' → Q ans fr' sd' ty th rd le to at' wr' nf' ns' und' came' now' mx' mh' mw' mr' mf' mk' nF' nS') : wp_X10_orchard Q fr sd l th0 rd0 le0 to0 at0 wr0 nf0 ns0 mund came now mx mh mw mr mf mk tx nF nS ru := by
  unfold wp_X10_orchard at h9 ⊢
  refine du_X10_begin h9 ?_
  intro h9
  have l0 : Int32.toInt (0 : Int32) = 0 := by decide
  have l1 : Int32.toInt (1 : Int32) = 1 := by decide
  refine And.intro (fun c1 => ?_) (fun c1 => ?_)
  · have h9 := And.left h9 c1
    have c1 : ¬ l = 0 := c1
    rw [aFs, if_neg c1] at hq
    obtain ⟨n, h9⟩ := h9
    refine ⟨n, ?_⟩
    obtain ⟨c, ec⟩ : ∃ c, c = aFK 0 (stp l 76) sg fr sd cF cS x h w r f k := ⟨_, rfl⟩
    have ec2 := ec
    rw [aFK] at ec2
    refine or_loop (P := P) (Q := Q) (sg := sg) (d := fun _ _ _ _ _ _ _ _ _ _ => (0, 0, 0, 0, (fun _ => 0), (fun _ => 0), (fun _ => 0), (fun _ => 0), (fun _ => 0), (fun _ => 0))) hs hl hfr hsd n 77 1 0 fr sd 0 0 x h w r f k nF nS (by decide) (by decide) (by decide) (by decide) (by decide) (Int32.add_zero _) (Int32.add_zero _) (by decide) (by decide) (by decide) (by omega) (by omega) hfr.2 hsd.2 (fun j hj => by exfalso; omega) (fun j hj => by exfalso; omega) hbe hbs h9 ?_
    rw [← ec2]
    intro ans fr' sd' ty th rd le to at' wr' nf' ns' und' came' now' mx' mh' mw' mr' mf' mk' nF' nS' hP ety hO
    refine hq ans fr' sd' ty th rd le to at' wr' nf' ns' und' came' now' mx' mh' mw' mr' mf' mk' nF' nS' hP ety ?_
    have e0 : aJ0 76 l pl sp = (0, stp l 76) := rfl
    rw [e0]
    dsimp only
    rw [← ec]
    have bad : (c.1 = -1 ∨ ¬ c.2.1 = l) → ∀ (po : Int32 × Int32 × Int32 × Int32 × Int32 × Int32 × Int32 × Int32 × (Nat → Int32) × (Nat → Int32) × (Nat → Int32) × (Nat → Int32) × (Nat → Int32) × (Nat → Int32) × Int32 × (Nat → Int32) → Prop), po (-1 - c.2.1, 0, c.2.1, stp l 76, fr, sd, c.2.2.1, c.2.2.2.1, c.2.2.2.2.1, c.2.2.2.2.2.1, c.2.2.2.2.2.2.1, c.2.2.2.2.2.2.2.1, c.2.2.2.2.2.2.2.2.1, c.2.2.2.2.2.2.2.2.2, und, isK) → po (j_X9_orchard_34 (fun o0 o1 o2 o3 o4 o5 o6 o7 o8 o9 o10 o11 o12 o13 o14 o15 => (o0, o1, o2, o3, o4, o5, o6, o7, o8, o9, o10, o11, o12, o13, o14, o15)) sg c.1 l c.2.1 (stp l 76) fr sd c.2.2.1 c.2.2.2.1 c.2.2.2.2.1 c.2.2.2.2.2.1 c.2.2.2.2.2.2.1 c.2.2.2.2.2.2.2.1 c.2.2.2.2.2.2.2.2.1 c.2.2.2.2.2.2.2.2.2 und isK) := by
      intro hb po hp
      rw [j_X9_orchard_34]
      by_cases b1 : c.1 = -1
      · rw [if_pos b1, j_X9_orchard_54, aXM, if_pos rfl, aLa, if_pos rfl, aDR, F_X8_wrong, F_X8_clear]
        exact hp
      · have b2 : ¬ c.2.1 = l := by
          rcases hb with hb | hb
          · exact absurd hb b1
          · exact hb
        rw [if_neg b1, F_X8_isThrough, if_neg b2, if_pos rfl, j_X9_orchard_54, aXM, if_pos rfl, aLa, if_pos rfl, aDR, F_X8_wrong, F_X8_clear]
        exact hp
    rcases hO with ⟨hb, u1, u2, u3, u4, u5, u6, u7, u8, u9, u10, u11, u12, hb1, hb2⟩ | ⟨k1, k2, k3, u1, u2, u3, u4, u5, hb1, hb2, g1, g2, g3, g4⟩
    · refine bad hb (fun o => ORS fr sd und mund came isK now o ans fr' sd' und' came' now' mx' mh' mw' mr' mf' mk') ?_
      subst u2 u3 u7 u8 u9 u10 u11 u12
      exact ⟨u1, rfl, rfl, rfl, hb1, hb2, Or.inl ⟨rfl, rfl, u4, u5, u6, rfl, rfl⟩⟩
    · rw [j_X9_orchard_34, if_neg k1, F_X8_isThrough, if_pos k3, if_neg n10, aXM, if_neg n10, aLa, if_neg n10, if_neg k2, aDR, F_X3_takeLines, F_X8_clear]
      obtain ⟨f1, f2, f3⟩ := fga und isK
      exact ⟨u1, rfl, u2, u3, hb1, hb2, Or.inr ⟨f1, f2, f3, u4, u5, g1, g2, g3, g4⟩⟩
  · have h9 := And.right h9 c1
    have c1 : l = 0 := c1
    rw [aFs, if_pos c1, j_X9_orchard_34, if_neg nm0, F_X8_isThrough, if_pos (show (aJ0 76 l pl sp).1 = l by rw [c1]; rfl), if_neg n10, aXM, if_neg n10, aLa, if_neg n10, if_pos (show (0 : Int32) ≤ 0 by decide), aDR, F_X8_clear] at hq
    exact hq _ _ _ _ _ _ _ _ _ _ _ _ _ _ _ _ _ _ _ _ _ _ _ h9 rfl ⟨rfl, rfl, rfl, rfl, hbe, hbs, Or.inl ⟨rfl, rfl, rfl, rfl, rfl, rfl, rfl⟩⟩
theorem orchard_w {Q : Int32 → Int32 → Int32 → Int32 → Int32 → Nat → Int32 → Int32 → Int32 → Int32 → Int32 → Int32 → Int32 → Int32 → (Nat → Int32) → (Nat → Int32) → (Nat → Int32) → (Nat → Int32) → (Nat → Int32) → (Nat → Int32) → (Nat → Int32) → (Nat → Int32) → (Nat → Int32) → Prop} {l9 fr9 sd9 l pl sp fr sd cF cS und th0 le0 to0 at0 wr0 nf0 ns0 mund came : Int32} {rd0 : Nat} {sg x h w r f k isK now mx mh mw mr mf mk tx nF nS ru : Nat → Int32} (eT : l9.toInt = l.toInt) (eF : fr9 = fr) (eN : sd9 = sd) (hs : ∀ k : Nat, sg k = tx k &&& 255) (hl : 0 ≤ l.toInt ∧ l.toInt ≤ 80) (hfr : 0 ≤ fr.toInt ∧ fr.toInt ≤ 16) (hsd : 0 ≤ sd.toInt ∧ sd.toInt ≤ 8) (hbe : BE fr x h w r mx mh mw mr) (hbs : BS sd f k mf mk)
    (h9 : wp_X10_orchard (fun ans fr' sd' ty th rd le to at' wr' nf' ns' und' came' now' mx' mh' mw' mr' mf' mk' nF' nS' => ty = 0 → ORS fr sd und mund came isK now (aFs l9 pl sp sg fr9 sd9 cF cS x h w r f k und isK) ans fr' sd' und' came' now' mx' mh' mw' mr' mf' mk' → Q ans fr' sd' ty th rd le to at' wr' nf' ns' und' came' now' mx' mh' mw' mr' mf' mk' nF' nS') fr sd l th0 rd0 le0 to0 at0 wr0 nf0 ns0 mund came now mx mh mw mr mf mk tx nF nS ru) : wp_X10_orchard Q fr sd l th0 rd0 le0 to0 at0 wr0 nf0 ns0 mund came now mx mh mw mr mf mk tx nF nS ru := by
  obtain rfl : l9 = l := i32 eT
  subst eF eN
  exact orchard_rel hs hl hfr hsd hbe hbs h9 (fun ans fr' sd' ty th rd le to at' wr' nf' ns' und' came' now' mx' mh' mw' mr' mf' mk' nF' nS' hp e hO => hp e hO)
