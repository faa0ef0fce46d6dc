theorem std_eq {p a p' a' sd sd' th r2 th2 : Int32} {ft fk mf mk : Nat → Int32} (hp : p' = p) (ha : a' = a) (hd : sd = sd') (h : BS sd' ft fk mf mk) (hs : 0 ≤ sd.toInt ∧ sd.toInt ≤ 8) (e10 : (r2, th2) = F_X10_standing p' a' sd' th mf mk) : (F_X9_standing p a sd ft fk = none ∧ th2 = 1) ∨ (F_X9_standing p a sd ft fk = some r2 ∧ th2 = 0) := by
  subst hp ha hd
  have l0 : Int32.toInt (0 : Int32) = 0 := by decide
  have l1 : Int32.toInt (1 : Int32) = 1 := by decide
  have l2 : Int32.toInt (2 : Int32) = 2 := by decide
  rw [F_X10_standing] at e10
  rw [F_X9_standing]
  rcases hst (p := p') (sd := sd) (by omega) with ⟨a1, b1, _⟩ | ⟨a1, b1, g2⟩
  · rw [if_pos b1, j_X10_standing_22, F_X10_lost] at e10
    rw [if_pos a1]
    exact Or.inl ⟨rfl, congrArg Prod.snd e10⟩
  · rw [if_neg (neg1 b1)] at e10
    rw [if_neg (neg1 a1)]
    have c := cl_n p'
    obtain ⟨e1, e2⟩ := h p'.toNatClampNeg (by omega)
    rcases in01 a' 0 2 with ⟨q, q2⟩ | ⟨q, q2⟩
    · rw [if_pos q, j_X10_standing_22, F_X10_lost] at e10
      rw [if_neg (fun e => by have := congrArg Int32.toInt e; omega), if_neg (fun e => by have := congrArg Int32.toInt e; omega), if_neg (fun e => by have := congrArg Int32.toInt e; omega)]
      exact Or.inl ⟨rfl, congrArg Prod.snd e10⟩
    · rw [if_neg (neg1 q)] at e10
      by_cases c0 : a' = 0
      · rw [if_pos c0] at e10 ⊢
        have g := congrArg Prod.fst e10
        dsimp only at g
        exact Or.inr ⟨by rw [g, e1], congrArg Prod.snd e10⟩
      · rw [if_neg c0] at e10 ⊢
        by_cases c1 : a' = 1
        · rw [if_pos c1] at e10 ⊢
          have g := congrArg Prod.fst e10
          dsimp only at g
          exact Or.inr ⟨by rw [g, e2], congrArg Prod.snd e10⟩
        · rw [if_neg c1] at e10 ⊢
          have d0 := mt (zJ _ _).mpr c0
          have d1 := mt (zJ _ _).mpr c1
          have c2 : a' = 2 := i32 (by omega)
          rw [if_pos c2]
          have g := congrArg Prod.fst e10
          dsimp only at g
          exact Or.inr ⟨by rw [g, F_X3_downSeconds, F_X10_downOf, e2], congrArg Prod.snd e10⟩
