/-! fruit -/
section QO
variable {fr sd ap ba gr br la he td cl : Int32} {x h w r ft fk mx mh mw mr mf mk st told now : Nat → Int32}
theorem whi_v (hm : MO fr ap ba gr now) (bf : 0 ≤ fr.toInt ∧ fr.toInt ≤ 16) {p : Int32} (hp : 0 ≤ p.toInt ∧ p.toInt < fr.toInt) : F_X2_whereIs p ap ba gr = now p.toInt.toNat := by
  rw [F_X2_whereIs, has_v ap p (by omega), has_v ba p (by omega), has_v gr p (by omega)]
  rcases hm.1 p.toInt.toNat (by omega) with ⟨v, a, b, c⟩ | ⟨v, a, b, c⟩ | ⟨v, a, b, c⟩ | ⟨v, a, b, c⟩
  · rw [v, a, b, c]; decide
  · rw [v, a, b, c]; decide
  · rw [v, a, b, c]; decide
  · rw [v, a, b, c]; decide
theorem frt_eq (T : TR fr sd x h w r ft fk mx mh mw mr mf mk) (hm : MR fr sd ap ba gr br la he td now) {p a p' a' fr9 th r2 th2 : Int32} (hp : p' = p) (ha : a' = a) (e1 : fr9 = fr) (e10 : (r2, th2) = F_X10_fruit p' a' fr th now mx mh mw mr) : (F_X9_fruit p a fr9 x h w r ap ba gr br = none ∧ th2 = 1) ∨ (F_X9_fruit p a fr9 x h w r ap ba gr br = some r2 ∧ th2 = 0) := by
  subst hp ha e1
  have bf := T.2.2.1
  have l0 : Int32.toInt (0 : Int32) = 0 := by decide
  have l6 : Int32.toInt (6 : Int32) = 6 := by decide
  have ls : Int32.toInt (1 : Int32) = 1 ∧ Int32.toInt (2 : Int32) = 2 ∧ Int32.toInt (3 : Int32) = 3 ∧ Int32.toInt (4 : Int32) = 4 ∧ Int32.toInt (5 : Int32) = 5 := by decide
  have fin : ∀ v u : Int32, v = u → (r2, th2) = (u, 0) → (some v = none ∧ th2 = 1) ∨ (some v = some r2 ∧ th2 = 0) := by
    intro v u e q
    have g1 : r2 = u := congrArg Prod.fst q
    have g2 : th2 = 0 := congrArg Prod.snd q
    exact Or.inr ⟨by rw [e, g1], g2⟩
  rw [F_X10_fruit] at e10
  rw [F_X9_fruit]
  rcases hfr (p := p') (fr := fr9) (by omega) with ⟨a1, b1, _⟩ | ⟨a1, b1, g⟩
  · rw [if_pos b1, j_X10_fruit_23, F_X10_lost] at e10
    rw [if_pos a1]
    exact Or.inl ⟨rfl, congrArg Prod.snd e10⟩
  · rw [if_neg (neg1 b1)] at e10
    rw [if_neg (neg1 a1)]
    have c := cl_n p'
    obtain ⟨t1, t2, t3, t4⟩ := T.1 p'.toNatClampNeg (by omega)
    rcases in01 a' 0 6 with ⟨q, q2⟩ | ⟨q, q2⟩
    · rw [if_pos q, j_X10_fruit_23, F_X10_lost] at e10
      have nn : ∀ z : Int32, 0 ≤ z.toInt ∧ z.toInt ≤ 6 → ¬ a' = z := fun z hz e => by have := congrArg Int32.toInt e; omega
      rw [if_neg (nn 0 (by decide)), if_neg (nn 1 (by decide)), if_neg (nn 2 (by decide)), if_neg (nn 3 (by decide)), if_neg (nn 4 (by decide)), if_neg (nn 5 (by decide)), if_neg (nn 6 (by decide))]
      exact Or.inl ⟨rfl, congrArg Prod.snd e10⟩
    · rw [if_neg (neg1 q)] at e10
      by_cases c0 : a' = 0
      · rw [if_pos c0] at e10 ⊢; exact fin _ _ t1 e10
      · rw [if_neg c0] at e10 ⊢
        by_cases c1 : a' = 1
        · rw [if_pos c1] at e10 ⊢; exact fin _ _ t2 e10
        · rw [if_neg c1] at e10 ⊢
          by_cases c2 : a' = 2
          · rw [if_pos c2] at e10 ⊢; exact fin _ _ t3 e10
          · rw [if_neg c2] at e10 ⊢
            by_cases c3 : a' = 3
            · rw [if_pos c3] at e10 ⊢; exact fin _ _ t4 e10
            · rw [if_neg c3] at e10 ⊢
              by_cases c4 : a' = 4
              · rw [if_pos c4] at e10 ⊢
                exact fin _ _ (by rw [c]; exact whi_v hm.1.1 bf g) e10
              · rw [if_neg c4] at e10 ⊢
                by_cases c5 : a' = 5
                · rw [if_pos c5] at e10 ⊢
                  exact fin _ _ (by rw [c16, ← hm.1.2.1]) e10
                · rw [if_neg c5] at e10 ⊢
                  have d0 := mt (fa_eq _ _).mpr c0
                  have d1 := mt (fa_eq _ _).mpr c1
                  have d2 := mt (fa_eq _ _).mpr c2
                  have d3 := mt (fa_eq _ _).mpr c3
                  have d4 := mt (fa_eq _ _).mpr c4
                  have d5 := mt (fa_eq _ _).mpr c5
                  have c6 : a' = 6 := i32 (by omega)
                  rw [if_pos c6]
                  rw [c] at e10
                  have hb := hs_i (F_X0_hanging fr9 ap ba gr) (f := p') (by omega)
                  have m0 := mo_0 hm.1.1 (j := p'.toInt.toNat) (by omega)
                  have h9 := hg_bt (ap := ap) (ba := ba) (gr := gr) bf p'.toInt.toNat
                  rw [decide_eq_true (show p'.toInt.toNat < fr9.toInt.toNat by omega), Bool.true_and] at h9
                  by_cases c7 : now p'.toInt.toNat = 0
                  · have hbt : bt (F_X0_hanging fr9 ap ba gr) p'.toInt.toNat = true := by
                      obtain ⟨g1, g2, g3⟩ := m0.mp c7
                      rw [h9, g1, g2, g3]; rfl
                    rw [if_pos c7] at e10
                    exact fin _ _ (by rw [mo_hg hm.1.1 bf]; exact lw_eq T g hbt) e10
                  · have hbf : bt (F_X0_hanging fr9 ap ba gr) p'.toInt.toNat = false := by
                      cases hx : bt (F_X0_hanging fr9 ap ba gr) p'.toInt.toNat
                      · rfl
                      · exact absurd (m0.mpr (hg_in bf hx).2) c7
                    rw [if_neg c7] at e10
                    exact fin _ _ (by rw [F_X3_lowerThan, if_pos (hb.mpr hbf)]) e10
end QO
