theorem marks_eq {p e p' e' sd sd' th : Int32} {ft fk mf mk : Nat → Int32} (hp : p' = p) (he : e' = e) (hd : sd = sd') (h : BS sd' ft fk mf mk) (hs : 0 ≤ sd.toInt ∧ sd.toInt ≤ 8) : F_X9_marks p e sd ft = (F_X10_marks p' e' sd' th mf).1 := by
  subst hp he hd
  have l0 : Int32.toInt (0 : Int32) = 0 := by decide
  have l99 : Int32.toInt (99 : Int32) = 99 := by decide
  rw [F_X9_marks, F_X10_marks]
  rcases in01 p' 0 99 with ⟨a, b⟩ | ⟨a, b⟩
  · rw [if_pos a]
    by_cases c : p' < 0
    · rw [if_pos c]
    · have d := mt (aAd _ _).mpr c
      rw [if_neg c, if_pos ((aAd _ _).mpr (by omega))]
  · rw [if_neg (neg1 a), if_neg (fun c => by have := (aAd _ _).mp c; omega), if_neg (fun c => by have := (aAd _ _).mp c; omega)]
    rcases in01 e' 0 99 with ⟨a2, b2⟩ | ⟨a2, b2⟩
    · rw [if_pos a2]
      by_cases c : e' < 0
      · rw [if_pos c]
      · have d := mt (aAd _ _).mpr c
        rw [if_neg c, if_neg (fun c => by have := (aAO _ _).mp c; omega)]
    · rw [if_neg (neg1 a2), if_neg (fun c => by have := (aAd _ _).mp c; omega), if_pos ((aAO _ _).mpr (by omega)), F_X3_standingsAt, ex_X3_standingsAt_5, ex_X10_marks_32]
      show itr _ _ _ _ = itr _ _ _ _
      refine itr_cg _ (fun k s hk => ?_)
      have i := (nI_0c (k := k) (by omega)).1
      rw [bd_X3_standingsAt_5, bd_X10_marks_32, i, (h k (by omega)).1, j_X3_standingsAt_37, j_X3_standingsAt_37, j_X10_marks_66, j_X10_marks_66, or0]
