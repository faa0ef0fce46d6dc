section
variable {fr sd : Int32} {x h w r ft fk mx mh mw mr mf mk st told : Nat → Int32}
theorem leaned_eq (T : TR fr sd x h w r ft fk mx mh mw mr mf mk) (hst2 : ∀ k : Nat, k < 5 → st k = told k) {f s f' s' fr9 sd9 th : Int32} (ef : f' = f) (es : s' = s) (e1 : fr9 = fr) (e2 : sd9 = sd) : F_X9_leaned f s fr9 sd9 x h ft fk st = (F_X10_leaned f' s' fr sd th mx mh mf mk told).1 := by
  subst ef es e1 e2
  have bf := T.2.2.1
  have bd := T.2.2.2.1
  have l30 : Int32.toInt (30 : Int32) = 30 := by decide
  rw [F_X9_leaned, F_X10_leaned]
  rcases hfr (p := f') (fr := fr9) (by omega) with ⟨a, b, _⟩ | ⟨a, b, g1⟩
  · rw [if_pos a, if_pos b]
  · rw [if_neg (neg1 a), if_neg (neg1 b)]
    rcases hst (p := s') (sd := sd9) (by omega) with ⟨a, b, _⟩ | ⟨a, b, g2⟩
    · rw [if_pos a, if_pos b]
    · rw [if_neg (neg1 a), if_neg (neg1 b)]
      obtain ⟨_, q | q⟩ := ln_eq T hst2 g1 g2
      · rw [if_pos ((aAO _ _).mpr (by omega))]; exact q.2
      · rw [if_neg (fun c => by have := (aAO _ _).mp c; omega)]; exact q.2
end
