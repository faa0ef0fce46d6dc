/-! shake, undo -/
section ACT2
variable {fr sd ap ba gr br la he td cl : Int32} {x h w r ft fk mx mh mw mr mf mk st told now cells u : Nat → Int32}
theorem rd_eq (T : TR fr sd x h w r ft fk mx mh mw mr mf mk) (hst2 : ∀ k : Nat, k < 5 → st k = told k) (hm : MR fr sd ap ba gr br la he td now) (hl : ¬ la = -1) : F_X0_readyHere fr x h r ft fk st ap ba gr la he td = F_X10_hereWanted fr now mx mh mr mf mk told := by
  have lm : Int32.toInt (-1 : Int32) = -1 := by decide
  have bf := T.2.2.1
  obtain ⟨mq, lq⟩ := hm
  have d := mt (zJ _ _).mpr hl
  have hla : 0 ≤ la.toInt ∧ la.toInt < sd.toInt := by have := lq.1; omega
  rw [F_X0_readyHere, if_neg hl, F_X10_hereWanted, F_X10_byHand, c17, c18, c19, ← mq.2.2.1, ← mq.2.2.2.1, ← mq.2.2.2.2, mo_hg mq.1 bf, rp_eq T, wi_eq T hst2 _ _ hla]
theorem rd_sub (T : TR fr sd x h w r ft fk mx mh mw mr mf mk) {j : Nat} (hj : bt (F_X0_readyHere fr x h r ft fk st ap ba gr la he td) j = true) : bt (aVS fr ap ba gr) j = true := by
  rw [F_X0_readyHere] at hj
  by_cases c : la = -1
  · rw [if_pos c, bt_zero] at hj; exact absurd hj (by decide)
  · rw [if_neg c, bt_and, bt_and] at hj
    cases hh : bt (aVS fr ap ba gr) j
    · rw [hh] at hj; simp at hj
    · rfl
theorem hg_in (bf : 0 ≤ fr.toInt ∧ fr.toInt ≤ 16) {j : Nat} (hj : bt (aVS fr ap ba gr) j = true) : j < fr.toInt.toNat ∧ bt ap j = false ∧ bt ba j = false ∧ bt gr j = false := by
  rw [hg_bt bf] at hj
  by_cases h1 : j < fr.toInt.toNat
  · rw [decide_eq_true h1] at hj
    refine ⟨h1, ?_⟩
    cases a : bt ap j <;> cases b : bt ba j <;> cases c : bt gr j <;> rw [a, b, c] at hj <;> simp at hj ⊢
  · rw [decide_eq_false h1] at hj; simp at hj
theorem shk_v {fl sy : Int32} (bf : 0 ≤ fr.toInt ∧ fr.toInt ≤ 16) : ∀ k : Nat, k ≤ fr.toInt.toNat → (∀ j : Nat, j ≠ 16 → itr (bd_X10_goShake_50 fr mx mh mr mf mk told fl sy) now 0 k j = if j < k ∧ bt fl j = true then 3 else now j) ∧ (∀ j : Nat, bt (itr (bd_X10_goShake_50 fr mx mh mr mf mk told fl sy) now 0 k 16) j = true ↔ bt (now 16) j = true ∨ ∃ i : Nat, i < k ∧ bt fl i = true ∧ (j = i ∨ bt (F_X10_below (nI i) sy fr mx mh) j = true)) := by
  intro k
  induction k with
  | zero => intro _; exact ⟨fun j _ => by rw [if_neg (fun h9 => by omega)]; rfl, fun j => ⟨fun h9 => Or.inl h9, fun h9 => by rcases h9 with h9 | ⟨i, hi, _⟩; exact h9; exact absurd hi (by omega)⟩⟩
  | succ k ih =>
    intro hk
    obtain ⟨i1, i2⟩ := ih (by omega)
    have i := nI_0c (k := k) (by omega)
    have ii : (Int32.toInt (nI (0 + k))).toNat = k := by omega
    rw [itr_s, bd_X10_goShake_50, hs_10 fl (f := nI (0 + k)) (by omega), ii, j_X10_goShake_96, j_X10_goShake_96]
    generalize itr (bd_X10_goShake_50 fr mx mh mr mf mk told fl sy) now 0 k = s at i1 i2 ⊢
    by_cases c : bt fl k = true
    · rw [if_pos c, if_neg n10, i.1, c16, aGi s 3 (show 16 ≠ k by omega)]
      refine ⟨fun j hj => ?_, fun j => ?_⟩
      · rw [aGi _ _ hj]
        by_cases hk2 : j = k
        · rw [hk2, upd_i, if_pos ⟨by omega, c⟩]
        · rw [aGi _ _ hk2, i1 j hj]
          by_cases c2 : j < k ∧ bt fl j = true
          · rw [if_pos c2, if_pos ⟨by omega, c2.2⟩]
          · rw [if_neg c2, if_neg (fun h9 => c2 ⟨by omega, h9.2⟩)]
      · rw [upd_i, bt_or, bt_or, Bool.or_eq_true, Bool.or_eq_true, i2 j, Nat.zero_add, bt_shlN k (by omega), decide_eq_true_iff]
        constructor
        · rintro ((h9 | ⟨i9, a1, a2, a3⟩) | (h9 | h9))
          · exact Or.inl h9
          · exact Or.inr ⟨i9, by omega, a2, a3⟩
          · exact Or.inr ⟨k, by omega, c, Or.inl h9⟩
          · exact Or.inr ⟨k, by omega, c, Or.inr h9⟩
        · rintro (h9 | ⟨i9, a1, a2, a3⟩)
          · exact Or.inl (Or.inl h9)
          · by_cases e : i9 = k
            · subst e; exact Or.inr a3
            · exact Or.inl (Or.inr ⟨i9, by omega, a2, a3⟩)
    · rw [if_neg c, if_pos rfl]
      refine ⟨fun j hj => ?_, fun j => ?_⟩
      · rw [i1 j hj]
        by_cases c2 : j < k ∧ bt fl j = true
        · rw [if_pos c2, if_pos ⟨by omega, c2.2⟩]
        · rw [if_neg c2, if_neg (fun h9 => by
            by_cases e : j = k
            · rw [e] at h9; exact c h9.2
            · exact c2 ⟨by omega, h9.2⟩)]
      · rw [i2 j]
        constructor
        · rintro (h9 | ⟨i9, a1, a2, a3⟩)
          · exact Or.inl h9
          · exact Or.inr ⟨i9, by omega, a2, a3⟩
        · rintro (h9 | ⟨i9, a1, a2, a3⟩)
          · exact Or.inl h9
          · by_cases e : i9 = k
            · subst e; exact absurd a2 c
            · exact Or.inr ⟨i9, by omega, a2, a3⟩
theorem hit_v (T : TR fr sd x h w r ft fk mx mh mw mr mf mk) {fl H : Int32} (hs : ∀ j : Nat, bt fl j = true → bt H j = true) (j : Nat) : bt (itr (bd_X0_shakeTree_29 fr x h r ft fk st ap ba la he td H fl gr br cl) fl 0 fr.toInt.toNat) j = true ↔ bt fl j = true ∨ ∃ k : Nat, k < fr.toInt.toNat ∧ bt fl k = true ∧ bt (F_X3_lowerThan (nI k) H fr x h) j = true := by
  have bf := T.2.2.1
  exact itr_or (c := fun k => bt fl k = true) (v := fun k => F_X3_lowerThan (nI k) H fr x h) fr.toInt.toNat (fun k s hk hc => by
    rw [bd_X0_shakeTree_29, Nat.zero_add, if_neg (fun c => by have := (hs_0 fl (k := k) (by omega)).mp c; rw [hc] at this; exact absurd this (by decide)), j_X0_shakeTree_63]) (fun k s hk hc => by
    rw [bd_X0_shakeTree_29, Nat.zero_add, if_pos ((hs_0 fl (k := k) (by omega)).mpr (by cases hb : bt fl k; rfl; exact absurd hb hc)), j_X0_shakeTree_63]) j
theorem shake_g (T : TR fr sd x h w r ft fk mx mh mw mr mf mk) (hst2 : ∀ k : Nat, k < 5 → st k = told k) (hm : MR fr sd ap ba gr br la he td now) :
    (Int32.toInt (aMv fr x h r ft fk st ap ba gr br la he td cl).1 < 0 ∧ (aMv fr x h r ft fk st ap ba gr br la he td cl).1 = -2 ∧ now 17 = -1 ∧ (aMv fr x h r ft fk st ap ba gr br la he td cl).2 = (gr, br, cl))
    ∨ (0 ≤ Int32.toInt (aMv fr x h r ft fk st ap ba gr br la he td cl).1 ∧ ¬ now 17 = -1 ∧ (F_X10_goShake fr now mx mh mr mf mk told).1 = (aMv fr x h r ft fk st ap ba gr br la he td cl).1 ∧ MR fr sd ap ba (aMv fr x h r ft fk st ap ba gr br la he td cl).2.1 (aMv fr x h r ft fk st ap ba gr br la he td cl).2.2.1 la he td (F_X10_goShake fr now mx mh mr mf mk told).2) := by
  have bf := T.2.2.1
  have hm0 := hm
  obtain ⟨mq, lq⟩ := hm
  obtain ⟨z, z2, z3⟩ := z16 bf
  rw [aMv, ← mq.2.2.1]
  by_cases c : la = -1
  · rw [if_pos c]
    exact Or.inl ⟨i_m2, rfl, c, rfl⟩
  · have re := rd_eq T hst2 hm0 c
    rw [F_X10_hereWanted] at re
    rw [if_neg c, ex_X0_shakeTree_29, F_X10_goShake, ← re, ex_X10_goShake_50, mo_hg mq.1 bf, z]
    have sub : ∀ j : Nat, bt (F_X0_readyHere fr x h r ft fk st ap ba gr la he td) j = true → bt (aVS fr ap ba gr) j = true := fun j hj => rd_sub T hj
    have hv := fun j => hit_v (st := st) (ap := ap) (ba := ba) (gr := gr) (br := br) (la := la) (he := he) (td := td) (cl := cl) T sub j
    obtain ⟨s1, s2⟩ := shk_v (mx := mx) (mh := mh) (mr := mr) (mf := mf) (mk := mk) (told := told) (now := now) (fl := F_X0_readyHere fr x h r ft fk st ap ba gr la he td) (sy := aVS fr ap ba gr &&& (F_X0_readyHere fr x h r ft fk st ap ba gr la he td ^^^ (-1))) bf fr.toInt.toNat (Nat.le_refl _)
    refine Or.inr ⟨(bc_r _).1, c, rfl, ?_, lq⟩
    refine MQm_pass ?_ bf.2 5
    show MQm fr ap ba (gr ||| _) (br ||| _) la he td (itr _ now 0 fr.toInt.toNat)
    generalize F_X0_readyHere fr x h r ft fk st ap ba gr la he td = fl at sub hv s1 s2 ⊢
    refine ⟨⟨fun j hj => ?_, fun j hj => ?_⟩, ?_, ?_, ?_, ?_⟩
    · rw [s1 j (by omega), bt_or]
      by_cases c2 : bt fl j = true
      · obtain ⟨g0, g1, g2, g3⟩ := hg_in bf (sub j c2)
        rw [if_pos ⟨g0, c2⟩, g1, g2, g3, c2]
        exact Or.inr (Or.inr (Or.inr ⟨rfl, rfl, rfl, rfl⟩))
      · rw [if_neg (fun h9 => c2 h9.2)]
        have cf : bt fl j = false := by cases hb : bt fl j; rfl; exact absurd hb c2
        rw [cf, Bool.or_false]
        exact mq.1.1 j hj
    · obtain ⟨a, b, c9⟩ := mq.1.2 j hj
      have cf : bt fl j = false := by
        cases hb : bt fl j
        · rfl
        · exact absurd (hg_in bf (sub j hb)).1 (by omega)
      rw [bt_or, c9, cf]
      exact ⟨a, b, rfl⟩
    · apply bt_eq
      intro j
      apply b_iff
      rw [s2 j, bt_or, Bool.or_eq_true, hv j, ← mq.2.1]
      have ix : ∀ k : Nat, k < fr.toInt.toNat → (0 ≤ Int32.toInt (nI k) ∧ Int32.toInt (nI k) < fr.toInt) ∧ (Int32.toInt (nI k)).toNat = k := by
        intro k hk
        have := nI_toInt (n := k) (by omega)
        omega
      constructor
      · rintro (h9 | h9 | ⟨k, hk, a1, a2⟩)
        · exact Or.inl h9
        · exact Or.inr ⟨j, (hg_in bf (sub j h9)).1, h9, Or.inl rfl⟩
        · obtain ⟨i1, i2⟩ := ix k hk
          obtain ⟨q, q1, ⟨q2, q3⟩, q4⟩ := (lw_bt T i1 (by rw [i2]; exact sub k a1) j).mp a2
          subst q4
          by_cases cj : bt fl j = true
          · exact Or.inr ⟨j, q1, cj, Or.inl rfl⟩
          · refine Or.inr ⟨k, hk, a1, Or.inr ?_⟩
            refine (bl_bt bf T.2.2.2.2.1 i1 j).mpr ⟨j, q1, ⟨q2, ?_⟩, rfl⟩
            rw [bt_and, q3, bt_not _ _ (by omega)]
            cases hb : bt fl j
            · rfl
            · exact absurd hb cj
      · rintro (h9 | ⟨k, hk, a1, a2 | a2⟩)
        · exact Or.inl h9
        · subst a2; exact Or.inr (Or.inl a1)
        · obtain ⟨i1, i2⟩ := ix k hk
          obtain ⟨q, q1, ⟨q2, q3⟩, q4⟩ := (bl_bt bf T.2.2.2.2.1 i1 j).mp a2
          subst q4
          rw [bt_and] at q3
          have q5 : bt (aVS fr ap ba gr) j = true := by
            cases hb : bt (aVS fr ap ba gr) j
            · rw [hb] at q3; simp at q3
            · rfl
          exact Or.inr (Or.inr ⟨k, hk, a1, (lw_bt T i1 (by rw [i2]; exact sub k a1) j).mpr ⟨j, q1, ⟨q2, q5⟩, rfl⟩⟩)
    · rw [s1 17 (by decide), if_neg (fun h9 => by omega)]; exact mq.2.2.1
    · rw [s1 18 (by decide), if_neg (fun h9 => by omega)]; exact mq.2.2.2.1
    · rw [s1 19 (by decide), if_neg (fun h9 => by omega)]; exact mq.2.2.2.2
theorem shake_rel (T : TR fr sd x h w r ft fk mx mh mw mr mf mk) (hst2 : ∀ k : Nat, k < 5 → st k = told k) {fr9 th und free mund r1 gr1 br1 cl1 und1 free1 r2 th2 mund1 : Int32} {cells1 now1 u1 : Nat → Int32} (e9 : (r1, gr1, br1, cl1, und1, free1, cells1) = F_X9_shake fr9 x h r ft fk st ap ba gr br la he td cl und free cells) (e10 : (r2, th2, mund1, now1, u1) = F_X10_shake fr th mund now mx mh mr mf mk told u) (hf : fr9 = fr) (hm : MR fr sd ap ba gr br la he td now) (hu : UR fr sd und free mund cells u) : r1 = r2 ∧ MR fr sd ap ba gr1 br1 la he td now1 ∧ UR fr sd und1 free1 mund1 cells1 u1 := by
  subst hf
  have bf := T.2.2.1
  rw [F_X9_shake] at e9
  rw [F_X10_shake, c17] at e10
  rcases shake_g (cl := cl) T hst2 hm with ⟨a, a2, b, c⟩ | ⟨a, b, c, d⟩
  · rw [hid_n a, c, a2] at e9
    rw [if_pos b] at e10
    simp only [Prod.mk.injEq] at e9 e10
    obtain ⟨rfl, rfl, rfl, rfl, rfl, rfl, rfl⟩ := e9
    obtain ⟨rfl, rfl, rfl, rfl, rfl⟩ := e10
    exact ⟨rfl, hm, UR_note hu bf.2⟩
  · rw [hid_y a] at e9
    rw [if_neg b, c] at e10
    simp only [Prod.mk.injEq] at e9 e10
    obtain ⟨rfl, rfl, rfl, rfl, rfl, rfl, rfl⟩ := e9
    obtain ⟨rfl, rfl, rfl, rfl, rfl⟩ := e10
    exact ⟨rfl, d, UR_hold hu bf.2 hm⟩
end ACT2
