section
variable {fr sd : Int32} {x h w r ft fk mx mh mw mr mf mk st told : Nat → Int32}
theorem nearest_eq (T : TR fr sd x h w r ft fk mx mh mw mr mf mk) (hst2 : ∀ k : Nat, k < 5 → st k = told k) {f f' fr9 sd9 th rs rm : Int32} {rn row : Nat → Int32} (ef : f' = f) (e1 : fr9 = fr) (e2 : sd9 = sd) : (F_X9_nearest f fr9 sd9 x h ft fk st rs rn).1 = (aZM f' fr sd rm th mx mh mf mk told row).1 := by
  subst ef e1 e2
  have bf := T.2.2.1
  have bd := T.2.2.2.1
  have l0 : Int32.toInt (0 : Int32) = 0 := by decide
  have l30 : Int32.toInt (30 : Int32) = 30 := by decide
  have l31 : Int32.toInt (31 : Int32) = 31 := by decide
  have lm : Int32.toInt (-2 : Int32) = -2 := by decide
  rw [F_X9_nearest, aZM]
  rcases hfr (p := f') (fr := fr9) (by omega) with ⟨a, b, _⟩ | ⟨a, b, g1⟩
  · rw [if_pos a, if_pos b]
  · rw [if_neg (neg1 a), if_neg (neg1 b)]
    have key := itr_rel (i := 0) (f := aZO fr9 sd9 x h ft fk st f' rs rn) (g := bd_X10_nearest_20 fr9 sd9 mx mh mf mk told f' rm 0 row) (a := ((-2), 31)) (b := -2) (fun k s t => s.1 = t ∧ ((t = -2 ∧ s.2 = 31) ∨ (0 ≤ t.toInt ∧ t.toInt < (k : Int) ∧ s.2 = aM3 f' t mx mh mf mk told ∧ s.2.toInt ≤ 30))) ⟨rfl, Or.inl ⟨rfl, rfl⟩⟩ (Int32.toInt sd9 - ((0 : Nat) : Int)).toNat (fun k s t hk hR => by
      have i := (nI_0c (k := k) (by omega)).2
      have gs : 0 ≤ Int32.toInt (nI (0 + k)) ∧ Int32.toInt (nI (0 + k)) < sd9.toInt := by omega
      rw [aZO, bd_X10_nearest_20, j_X9_nearest_63, j_X9_nearest_63, bCW, j_X10_nearest_58, bCW]
      obtain ⟨q0, q | q⟩ := ln_eq T hst2 g1 gs
      · have k1 : ¬ aM3 f' (nI (0 + k)) mx mh mf mk told < 0 := fun c => by have := (aAd _ _).mp c; omega
        have k2 : ¬ 30 < aM3 f' (nI (0 + k)) mx mh mf mk told := fun c => by have := (aAd _ _).mp c; omega
        rw [q.2, if_neg k1, if_neg k2]
        obtain ⟨r1, ⟨r2, r3⟩ | ⟨r2, r3, r4, r5⟩⟩ := hR
        · have k4 : ¬ s.2 ≤ aM3 f' (nI (0 + k)) mx mh mf mk told := fun c => by have := (aAO _ _).mp c; rw [r3] at this; omega
          have k5 : t < 0 := by rw [r2]; decide
          rw [if_neg k4, if_pos k5]
          exact ⟨rfl, Or.inr ⟨by omega, by omega, rfl, q.1⟩⟩
        · have k5 : ¬ t < 0 := fun c => by have := (aAd _ _).mp c; omega
          rw [if_neg k5, ← r4]
          by_cases c : s.2 ≤ aM3 f' (nI (0 + k)) mx mh mf mk told
          · rw [if_pos c, if_pos c]
            exact ⟨r1, Or.inr ⟨r2, by omega, r4, r5⟩⟩
          · rw [if_neg c, if_neg c]
            exact ⟨rfl, Or.inr ⟨by omega, by omega, rfl, q.1⟩⟩
      · have k3 : 30 < aM3 f' (nI (0 + k)) mx mh mf mk told := (aAd _ _).mpr (by omega)
        rw [q.2, if_pos (show (-2 : Int32) < 0 by decide), if_pos k3]
        obtain ⟨r1, ⟨r2, r3⟩ | ⟨r2, r3, r4, r5⟩⟩ := hR
        · exact ⟨r1, Or.inl ⟨r2, r3⟩⟩
        · exact ⟨r1, Or.inr ⟨r2, by omega, r4, r5⟩⟩)
    rw [ex_X9_nearest_22, ex_X10_nearest_20]
    obtain ⟨r1, ⟨r2, r3⟩ | ⟨r2, r3, r4, r5⟩⟩ := key
    · rw [r1, r2, if_pos (by decide), if_neg (by decide)]
    · rw [r1, if_neg (fun c => by have := (aAd _ _).mp c; omega), if_pos ((aAO _ _).mpr (by omega))]
end
