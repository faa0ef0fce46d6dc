section
variable {fr sd : Int32} {x h w r ft fk mx mh mw mr mf mk st told : Nat → Int32}
theorem reached_eq (T : TR fr sd x h w r ft fk mx mh mw mr mf mk) (hst2 : ∀ k : Nat, k < 5 → st k = told k) {s s' fr9 sd9 th rs rm : Int32} {rn row : Nat → Int32} (es : s' = s) (e1 : fr9 = fr) (e2 : sd9 = sd) : (F_X9_reached s fr9 sd9 x h ft fk st rs rn).1 = (aZN s' fr sd rm th mx mh mf mk told row).1 := by
  subst es e1 e2
  have bd := T.2.2.2.1
  rw [F_X9_reached, aZN]
  rcases hst (p := s') (sd := sd9) (by omega) with ⟨a, b, _⟩ | ⟨a, b, g2⟩
  · rw [if_pos a, if_pos b]
  · rw [if_neg (neg1 a), if_neg (neg1 b)]
    exact wi_eq T hst2 0 0 g2
end
