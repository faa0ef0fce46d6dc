/-! move, foot, down, shake, sleep, undo: class against reference -/
theorem hid_n {a und free : Int32} (h : a.toInt < 0) : aIP a und free = (a, und, free) := by
  have l0 : Int32.toInt (0 : Int32) = 0 := by decide
  rw [aIP, if_pos ((aAd _ _).mpr (by omega))]
theorem hid_y {a und free : Int32} (h : 0 ≤ a.toInt) : aIP a und free = (a, (F_X4_hold und free).1, (F_X4_hold und free).2) := by
  have l0 : Int32.toInt (0 : Int32) = 0 := by decide
  rw [aIP, if_neg (fun c => by have := (aAd _ _).mp c; omega)]
theorem i_m1 : Int32.toInt (-1 : Int32) < 0 := by decide
theorem i_m2 : Int32.toInt (-2 : Int32) < 0 := by decide
section ACT
variable {fr sd ap ba gr br la he td cl : Int32} {x h w r ft fk mx mh mw mr mf mk st told now cells u : Nat → Int32}
theorem mv_eq (T : TR fr sd x h w r ft fk mx mh mw mr mf mk) (hst2 : ∀ k : Nat, k < 5 → st k = told k) {a p : Int32} (ha : -1 ≤ a.toInt ∧ a.toInt < sd.toInt) (hp : 0 ≤ p.toInt ∧ p.toInt < sd.toInt) : F_X3_moveSeconds a p ft st = F_X10_moveOf a p mf told := by
  have lm : Int32.toInt (-1 : Int32) = -1 := by decide
  obtain ⟨_, bs, _⟩ := T
  rw [F_X3_moveSeconds, F_X10_moveOf, hst2 _ (by decide)]
  by_cases c : a = -1
  · rw [if_pos c, if_pos c]
  · have d := mt (zJ _ _).mpr c
    have e1 := cl_n a
    have e2 := cl_n p
    rw [if_neg c, if_neg c, (bs a.toNatClampNeg (by omega)).1, (bs p.toNatClampNeg (by omega)).1]
theorem mv_r (T : TR fr sd x h w r ft fk mx mh mw mr mf mk) (ht : ∀ k : Nat, k = 3 → 0 ≤ Int32.toInt (told k) ∧ Int32.toInt (told k) ≤ 9) (a p : Int32) : 9 ≤ Int32.toInt (F_X10_moveOf a p mf told) ∧ Int32.toInt (F_X10_moveOf a p mf told) ≤ 900 := mvo_rng T.2.2.2.2.2.2.1 ht a p
theorem dn_eq (T : TR fr sd x h w r ft fk mx mh mw mr mf mk) {a : Int32} (ha : 0 ≤ a.toInt ∧ a.toInt < sd.toInt) : F_X3_downSeconds a fk = F_X10_downOf a mk ∧ 3 ≤ Int32.toInt (F_X10_downOf a mk) ∧ Int32.toInt (F_X10_downOf a mk) ≤ 20 := by
  obtain ⟨_, bs, _, _, _, _, _, bk⟩ := T
  have l3 : Int32.toInt (3 : Int32) = 3 := by decide
  have l9 : Int32.toInt (9 : Int32) = 9 := by decide
  have l10 : Int32.toInt (10 : Int32) = 10 := by decide
  have e1 := cl_n a
  have b := bk a.toNatClampNeg
  rw [F_X3_downSeconds, F_X10_downOf, (bs a.toNatClampNeg (by omega)).2]
  have s := aAD (mk a.toNatClampNeg) 9 (by omega)
  have d := ti_div (mk a.toNatClampNeg + 9) 10 l10 (by omega) (by omega)
  have s2 := aAD 3 ((mk a.toNatClampNeg + 9) / 10) (by omega)
  refine ⟨rfl, ?_, ?_⟩ <;> omega
theorem lad_g (T : TR fr sd x h w r ft fk mx mh mw mr mf mk) (hst2 : ∀ k : Nat, k < 5 → st k = told k) (ht : ∀ k : Nat, k = 3 → 0 ≤ Int32.toInt (told k) ∧ Int32.toInt (told k) ≤ 9) (p : Int32) (hm : MR fr sd ap ba gr br la he td now) :
    (Int32.toInt (aJn p sd ft fk st ap ba la cl).1 < 0 ∧ F_X10_refusesMove p sd now = (aJn p sd ft fk st ap ba la cl).1 ∧ (aJn p sd ft fk st ap ba la cl).2 = (ap, ba, la, cl))
    ∨ (0 ≤ Int32.toInt (aJn p sd ft fk st ap ba la cl).1 ∧ F_X10_refusesMove p sd now = 0 ∧ (F_X10_goMove p fr now mf mk told).1 = (aJn p sd ft fk st ap ba la cl).1 ∧ MR fr sd (aJn p sd ft fk st ap ba la cl).2.1 (aJn p sd ft fk st ap ba la cl).2.2.1 gr br (aJn p sd ft fk st ap ba la cl).2.2.2.1 he td (F_X10_goMove p fr now mf mk told).2) := by
  have bf := T.2.2.1
  have bd := T.2.2.2.1
  have lm : Int32.toInt (-1 : Int32) = -1 := by decide
  obtain ⟨mq, lq⟩ := hm
  have h17 := mq.2.2.1
  rw [aJn, F_X10_refusesMove, c17, ← h17]
  rcases hst (p := p) (sd := sd) (by omega) with ⟨a, b, _⟩ | ⟨a, b, g⟩
  · rw [if_pos a, if_pos b]
    exact Or.inl ⟨i_m1, rfl, rfl⟩
  · rw [if_neg (neg1 a), if_neg (neg1 b)]
    by_cases c : p = la
    · rw [if_pos c, if_pos c.symm]
      exact Or.inl ⟨i_m2, rfl, rfl⟩
    · have c' : ¬ la = p := fun e => c e.symm
      rw [if_neg c, if_neg c', F_X10_goMove, mo_ap mq.1 bf, c17, ← h17, mv_eq T hst2 lq.1 g]
      have r9 := mv_r T ht la p
      have fin : ∀ v : Int32, 0 ≤ v.toInt → MR fr sd 0 (ba ||| ap) gr br p he td (F_X10_passBy v (upd (F_X10_empty fr now).2 (17 : Int32).toNatClampNeg p)) := fun v _ => ⟨MQm_pass (MQm_17 (MQm_emp mq bf) bf.2 _) bf.2 _, ⟨by omega, by omega⟩, lq.2⟩
      by_cases ca : ap = 0
      · rw [if_pos ca, if_pos ca, j_X0_setLadder_81, j_X10_goMove_50]
        exact Or.inr ⟨by show 0 ≤ Int32.toInt (F_X10_moveOf la p mf told); omega, rfl, rfl, fin _ (by omega)⟩
      · rw [if_neg ca, if_neg ca]
        by_cases cb : la = -1
        · rw [if_pos cb, if_pos cb, j_X0_setLadder_81, j_X10_goMove_50]
          exact Or.inr ⟨by show 0 ≤ Int32.toInt (F_X10_moveOf la p mf told); omega, rfl, rfl, fin _ (by omega)⟩
        · have d := mt (zJ _ _).mpr cb
          have hla : 0 ≤ la.toInt ∧ la.toInt < sd.toInt := by have := lq.1; omega
          obtain ⟨q1, q2, q3⟩ := dn_eq T hla
          have sa := aAD (F_X10_moveOf la p mf told) (F_X10_downOf la mk) (by omega)
          rw [if_neg cb, if_neg cb, j_X0_setLadder_81, j_X10_goMove_50, q1]
          exact Or.inr ⟨by show 0 ≤ Int32.toInt (F_X10_moveOf la p mf told + F_X10_downOf la mk); omega, rfl, rfl, fin _ (by omega)⟩
theorem move_rel (T : TR fr sd x h w r ft fk mx mh mw mr mf mk) (hst2 : ∀ k : Nat, k < 5 → st k = told k) (ht : ∀ k : Nat, k = 3 → 0 ≤ Int32.toInt (told k) ∧ Int32.toInt (told k) ≤ 9) {p p' sd9 th und free mund r1 ap1 ba1 la1 cl1 und1 free1 r2 th2 mund1 : Int32} {cells1 now1 u1 : Nat → Int32} (e9 : (r1, ap1, ba1, la1, cl1, und1, free1, cells1) = F_X9_move p sd9 ft fk st ap ba gr br la he td cl und free cells) (e10 : (r2, th2, mund1, now1, u1) = F_X10_move p' fr sd th mund now mf mk told u) (hp : p' = p) (hd : sd9 = sd) (hm : MR fr sd ap ba gr br la he td now) (hu : UR fr sd und free mund cells u) : r1 = r2 ∧ MR fr sd ap1 ba1 gr br la1 he td now1 ∧ UR fr sd und1 free1 mund1 cells1 u1 := by
  subst hp hd
  have l0 : Int32.toInt (0 : Int32) = 0 := by decide
  have bf := T.2.2.1
  rw [F_X9_move] at e9
  rw [F_X10_move] at e10
  rcases lad_g (cl := cl) T hst2 ht p' hm with ⟨a, b, c⟩ | ⟨a, b, c, d⟩
  · rw [hid_n a, c] at e9
    rw [b, if_neg (fun c => by have := (aAO _ _).mp c; omega)] at e10
    simp only [Prod.mk.injEq] at e9 e10
    obtain ⟨rfl, rfl, rfl, rfl, rfl, rfl, rfl, rfl⟩ := e9
    obtain ⟨rfl, rfl, rfl, rfl, rfl⟩ := e10
    exact ⟨rfl, hm, UR_note hu bf.2⟩
  · rw [hid_y a] at e9
    rw [b, if_pos (by decide), c] at e10
    simp only [Prod.mk.injEq] at e9 e10
    obtain ⟨rfl, rfl, rfl, rfl, rfl, rfl, rfl, rfl⟩ := e9
    obtain ⟨rfl, rfl, rfl, rfl, rfl⟩ := e10
    exact ⟨rfl, d, UR_hold hu bf.2 hm⟩
theorem foot_rel {p p' th und free mund r1 he1 und1 free1 r2 th2 mund1 : Int32} {cells1 now1 u1 : Nat → Int32} (bf : 0 ≤ fr.toInt ∧ fr.toInt ≤ 16) (e9 : (r1, he1, und1, free1, cells1) = F_X9_foot p ap ba gr br la he td cl und free cells) (e10 : (r2, th2, mund1, now1, u1) = F_X10_foot p' th mund now u) (hp : p' = p) (hm : MR fr sd ap ba gr br la he td now) (hu : UR fr sd und free mund cells u) : r1 = r2 ∧ MR fr sd ap ba gr br la he1 td now1 ∧ UR fr sd und1 free1 mund1 cells1 u1 := by
  subst hp
  have l0 : Int32.toInt (0 : Int32) = 0 := by decide
  have l1 : Int32.toInt (1 : Int32) = 1 := by decide
  obtain ⟨mq, lq⟩ := hm
  have h18 := mq.2.2.2.1
  rw [F_X9_foot, bBa, F_X9_isYesOrNo, j_X9_isYesOrNo_9] at e9
  rw [F_X10_foot, c18, ← h18] at e10
  have no : ¬ (p' = 0 ∨ p' = 1) → aUe p' 0 1 = 0 := by
    intro hn
    rcases in01 p' 0 1 with ⟨q, _⟩ | ⟨_, q⟩
    · exact q
    · exfalso; apply hn
      rcases (show p'.toInt = 0 ∨ p'.toInt = 1 by omega) with e | e
      · exact Or.inl (i32 (by omega))
      · exact Or.inr (i32 (by omega))
  have yes : (p' = 0 ∨ p' = 1) → ¬ aUe p' 0 1 = 0 := by
    intro hy
    rcases hy with rfl | rfl <;> decide
  have h0 : 0 ≤ he.toInt := by rcases lq.2.2 with e | e <;> rw [e] <;> decide
  have fin : (p' = 0 ∨ p' = 1) → (r1, he1, und1, free1, cells1) = ((aIP he und free).1, p', (aIP he und free).2.1, (aIP he und free).2.2, F_X4_note ap ba gr br la he td cl free cells) → r1 = r2 ∧ MR fr sd ap ba gr br la he1 td now1 ∧ UR fr sd und1 free1 mund1 cells1 u1 := by
    intro hy f9
    rw [if_neg (yes hy)] at e10
    rw [hid_y h0] at f9
    simp only [Prod.mk.injEq] at f9 e10
    obtain ⟨rfl, rfl, rfl, rfl, rfl⟩ := f9
    obtain ⟨rfl, rfl, rfl, rfl, rfl⟩ := e10
    exact ⟨rfl, ⟨MQm_18 mq bf.2 _, lq.1, lq.2.1, hy⟩, UR_hold hu bf.2 ⟨mq, lq⟩⟩
  by_cases c0 : p' = 0
  · rw [if_pos c0, if_neg n10] at e9
    exact fin (Or.inl c0) e9
  · by_cases c1 : p' = 1
    · rw [if_neg c0, if_pos c1, if_neg n10] at e9
      exact fin (Or.inr c1) e9
    · rw [if_neg c0, if_neg c1, if_pos rfl, hid_n i_m1] at e9
      rw [if_pos (no (fun h9 => by rcases h9 with h9 | h9; exact c0 h9; exact c1 h9))] at e10
      simp only [Prod.mk.injEq] at e9 e10
      obtain ⟨rfl, rfl, rfl, rfl, rfl⟩ := e9
      obtain ⟨rfl, rfl, rfl, rfl, rfl⟩ := e10
      exact ⟨rfl, ⟨mq, lq⟩, UR_note hu bf.2⟩
theorem down_g (T : TR fr sd x h w r ft fk mx mh mw mr mf mk) (hm : MR fr sd ap ba gr br la he td now) :
    (Int32.toInt (aVR fk ap ba la cl).1 < 0 ∧ (aVR fk ap ba la cl).1 = -2 ∧ F_X10_canDown fr now = 0 ∧ (aVR fk ap ba la cl).2 = (ap, ba, cl))
    ∨ ((aVR fk ap ba la cl).1 = aLS ap ∧ F_X10_canDown fr now = 1 ∧ ¬ ap = 0 ∧ MR fr sd (aVR fk ap ba la cl).2.1 (aVR fk ap ba la cl).2.2.1 gr br la he td (F_X10_goDown fr now mk).2) := by
  have bf := T.2.2.1
  obtain ⟨mq, lq⟩ := hm
  have h17 := mq.2.2.1
  rw [aVR, F_X10_canDown, c17, ← h17, mo_ap mq.1 bf, F_X10_goDown]
  by_cases c : la = -1
  · rw [if_pos c, if_pos c]
    exact Or.inl ⟨i_m2, rfl, rfl, rfl⟩
  · rw [if_neg c, if_neg c]
    by_cases c2 : ap = 0
    · rw [if_pos c2, if_pos c2]
      exact Or.inl ⟨i_m2, rfl, rfl, rfl⟩
    · rw [if_neg c2, if_neg c2]
      exact Or.inr ⟨rfl, rfl, c2, MQm_emp (MQm_pass mq bf.2 _) bf, lq⟩
theorem down_rel (T : TR fr sd x h w r ft fk mx mh mw mr mf mk) {th und free mund r1 ap1 ba1 cl1 und1 free1 r2 th2 mund1 : Int32} {cells1 now1 u1 : Nat → Int32} (e9 : (r1, ap1, ba1, cl1, und1, free1, cells1) = F_X9_down fk ap ba gr br la he td cl und free cells) (e10 : (r2, th2, mund1, now1, u1) = F_X10_down fr th mund now mk u) (hm : MR fr sd ap ba gr br la he td now) (hu : UR fr sd und free mund cells u) : MR fr sd ap1 ba1 gr br la he td now1 ∧ UR fr sd und1 free1 mund1 cells1 u1 := by
  have bf := T.2.2.1
  rw [F_X9_down] at e9
  rw [F_X10_down] at e10
  rcases down_g (cl := cl) T hm with ⟨a, _, b, c⟩ | ⟨a, b, _, d⟩
  · rw [hid_n a, c] at e9
    rw [if_pos b] at e10
    simp only [Prod.mk.injEq] at e9 e10
    obtain ⟨rfl, rfl, rfl, rfl, rfl, rfl, rfl⟩ := e9
    obtain ⟨rfl, rfl, rfl, rfl, rfl⟩ := e10
    exact ⟨hm, UR_note hu bf.2⟩
  · rw [hid_y (by rw [a]; exact (bc_r ap).1)] at e9
    rw [if_neg (neg1 b)] at e10
    simp only [Prod.mk.injEq] at e9 e10
    obtain ⟨rfl, rfl, rfl, rfl, rfl, rfl, rfl⟩ := e9
    obtain ⟨rfl, rfl, rfl, rfl, rfl⟩ := e10
    exact ⟨d, UR_hold hu bf.2 hm⟩
theorem sleep_g (bf : 0 ≤ fr.toInt ∧ fr.toInt ≤ 16) (bd : 0 ≤ sd.toInt ∧ sd.toInt ≤ 8) (hm : MR fr sd ap ba gr br la he td now) :
    (Int32.toInt (aH2 ap ba la td cl).1 < 0 ∧ (aH2 ap ba la td cl).1 = -1 ∧ now 19 = 9 ∧ (aH2 ap ba la td cl).2 = (ap, ba, la, td, cl))
    ∨ (0 ≤ Int32.toInt (aH2 ap ba la td cl).1 ∧ ¬ now 19 = 9 ∧ (F_X10_goSleep fr now).1 = (aH2 ap ba la td cl).1 ∧ MR fr sd (aH2 ap ba la td cl).2.1 (aH2 ap ba la td cl).2.2.1 gr br (aH2 ap ba la td cl).2.2.2.1 he (aH2 ap ba la td cl).2.2.2.2.1 (F_X10_goSleep fr now).2) := by
  have l9 : Int32.toInt (9 : Int32) = 9 := by decide
  have l1 : Int32.toInt (1 : Int32) = 1 := by decide
  have lm : Int32.toInt (-1 : Int32) = -1 := by decide
  obtain ⟨mq, lq⟩ := hm
  have h19 := mq.2.2.2.2
  have bt9 := lq.2.1
  rw [aH2, ← h19]
  by_cases c : td < 9
  · have d := (aAd _ _).mp c
    have a := aAD td 1 (by omega)
    have q := MQm_20 (MQm_17 (MQm_emp mq bf) bf.2 (-1)) bf.2 0
    have e : (upd (upd (F_X10_empty fr now).2 (17 : Int32).toNatClampNeg (-1)) (20 : Int32).toNatClampNeg 0) (19 : Int32).toNatClampNeg = td := q.2.2.2.2.symm
    rw [if_pos c, F_X10_goSleep, e]
    have lq9 : LQ sd (-1) he (td + 1) := ⟨⟨by omega, by omega⟩, by omega, lq.2.2⟩
    exact Or.inr ⟨by show 0 ≤ Int32.toInt (td + 1); omega, fun e9 => by have := congrArg Int32.toInt e9; omega, show upd (upd (upd (F_X10_empty fr now).2 (17 : Int32).toNatClampNeg (-1)) (20 : Int32).toNatClampNeg 0) (19 : Int32).toNatClampNeg (td + 1) (19 : Int32).toNatClampNeg = td + 1 from upd_i _ _ _, MQm_19 q bf.2 (td + 1), lq9⟩
  · have d := mt (aAd _ _).mpr c
    rw [if_neg c]
    exact Or.inl ⟨i_m1, rfl, i32 (by omega), rfl⟩
theorem sleep_rel (bf : 0 ≤ fr.toInt ∧ fr.toInt ≤ 16) (bd : 0 ≤ sd.toInt ∧ sd.toInt ≤ 8) {th und free mund r1 ap1 ba1 la1 td1 cl1 und1 free1 r2 th2 mund1 : Int32} {cells1 now1 u1 : Nat → Int32} (e9 : (r1, ap1, ba1, la1, td1, cl1, und1, free1, cells1) = F_X9_sleep ap ba gr br la he td cl und free cells) (e10 : (r2, th2, mund1, now1, u1) = F_X10_sleep fr th mund now u) (hm : MR fr sd ap ba gr br la he td now) (hu : UR fr sd und free mund cells u) : r1 = r2 ∧ MR fr sd ap1 ba1 gr br la1 he td1 now1 ∧ UR fr sd und1 free1 mund1 cells1 u1 := by
  rw [F_X9_sleep] at e9
  rw [F_X10_sleep, c19] at e10
  rcases sleep_g (cl := cl) bf bd hm with ⟨a, a2, b, c⟩ | ⟨a, b, c, d⟩
  · rw [hid_n a, c, a2] at e9
    rw [if_pos b] at e10
    simp only [Prod.mk.injEq] at e9 e10
    obtain ⟨rfl, rfl, rfl, rfl, rfl, rfl, rfl, rfl, rfl⟩ := e9
    obtain ⟨rfl, rfl, rfl, rfl, rfl⟩ := e10
    exact ⟨rfl, hm, UR_note hu bf.2⟩
  · rw [hid_y a] at e9
    rw [if_neg b, c] at e10
    simp only [Prod.mk.injEq] at e9 e10
    obtain ⟨rfl, rfl, rfl, rfl, rfl, rfl, rfl, rfl, rfl⟩ := e9
    obtain ⟨rfl, rfl, rfl, rfl, rfl⟩ := e10
    exact ⟨rfl, d, UR_hold hu bf.2 hm⟩
end ACT
