theorem sheet_rel {p n v s p' n' v' s' fr fr' th r1 r2 th2 : Int32} {x h w r mx mh mw mr w1 mw1 : Nat → Int32} (e9 : (r1, w1) = F_X9_sheet p n v s fr w) (e10 : (r2, th2, mw1) = F_X10_sheet p' n' v' s' fr' th mw) (hp : p' = p) (hn : n' = n) (hv : v' = v) (hs : s' = s) (hfr : fr = fr') (hb : BE fr' x h w r mx mh mw mr) (hf : 0 ≤ fr.toInt ∧ fr.toInt ≤ 16) : r1 = r2 ∧ BE fr' x h w1 r mx mh mw1 mr := by
  subst hp hn hv hs hfr
  have l0 : Int32.toInt (0 : Int32) = 0 := by decide
  have l3 : Int32.toInt (3 : Int32) = 3 := by decide
  have fin : ∀ (a : Int32) (f g : Nat → Int32), (r1, w1) = (a, f) → (r2, th2, mw1) = (a, 0, g) → (∀ j : Nat, (j : Int) < fr.toInt → f j = g j) → r1 = r2 ∧ BE fr x h w1 r mx mh mw1 mr := by
    intro a f g q1 q2 q3
    have g1 := congrArg Prod.fst q1
    have g2 := congrArg Prod.snd q1
    have g3 := congrArg Prod.fst q2
    have g4 := congrArg (fun z => z.2.2) q2
    dsimp only at g1 g2 g3 g4
    rw [g1, g2, g3, g4]
    refine ⟨rfl, fun j hj => ?_⟩
    obtain ⟨b1, b2, _, b4⟩ := hb j hj
    exact ⟨b1, b2, q3 j hj, b4⟩
  have same : ∀ j : Nat, (j : Int) < fr.toInt → w j = mw j := fun j hj => (hb j hj).2.2.1
  rw [F_X9_sheet] at e9
  rw [F_X10_sheet] at e10
  rcases in01 p' 0 3 with ⟨q, q2⟩ | ⟨q, q2⟩
  · rw [if_pos q] at e10
    by_cases c : p' < 0
    · rw [if_pos c] at e9; exact fin _ _ _ e9 e10 same
    · have d := mt (aAd _ _).mpr c
      rw [if_neg c, if_pos ((aAd _ _).mpr (by omega))] at e9; exact fin _ _ _ e9 e10 same
  · rw [if_neg (neg1 q)] at e10
    rw [if_neg (fun c => by have := (aAd _ _).mp c; omega), if_neg (fun c => by have := (aAd _ _).mp c; omega)] at e9
    by_cases c16 : n' ≤ 16
    · rw [if_pos c16] at e9 e10
      by_cases c3 : p' = 3
      · rw [if_pos c3, aYl, ex_X3_fillWorths_9] at e9
        subst c3
        rw [if_pos (by decide), j_X10_sheet_34, ex_X10_sheet_43, if_pos rfl] at e10
        exact fin _ _ _ e9 e10 (fun j hj => by rw [sheet_0c hf _ (by omega) j (by omega), sheet_0m hf _ (by omega) j (by omega)])
      · have d3 := mt (zJ _ _).mpr c3
        rw [if_neg c3] at e9
        rw [if_neg (fun c => by have := (aAO _ _).mp c; omega)] at e10
        by_cases cn : 0 ≤ n'
        · rw [if_pos cn, aYl, ex_X3_fillWorths_9] at e9
          rw [if_pos cn, j_X10_sheet_34, ex_X10_sheet_43, if_neg c3] at e10
          obtain ⟨s1, s2⟩ := sheet_itr (fr := fr) (p := p') (n := n') (st := s') (v0 := v') (w := w) (mw := mw) hf c3
          rw [← s1] at e10
          exact fin _ _ _ e9 e10 s2
        · rw [if_neg cn] at e9 e10; exact fin _ _ _ e9 e10 same
    · rw [if_neg c16] at e9 e10; exact fin _ _ _ e9 e10 same

