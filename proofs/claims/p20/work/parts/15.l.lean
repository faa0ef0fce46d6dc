/-! undo, keep, again -/
section ACT3
variable {fr sd ap ba gr br la he td cl : Int32} {now cells u : Nat → Int32}
theorem re_v {p : Int32} (h : 0 ≤ p.toInt ∧ p.toInt ≤ 96) : F_X2_read p ap ba gr br la he td cl cells = (cells p.toInt.toNat, cells (p.toInt.toNat + 1), cells (p.toInt.toNat + 2), cells (p.toInt.toNat + 3), cells (p.toInt.toNat + 4), cells (p.toInt.toNat + 5), cells (p.toInt.toNat + 6), cells (p.toInt.toNat + 7)) := by
  have l0 : Int32.toInt (0 : Int32) = 0 := by decide
  have l96 : Int32.toInt (104 - 8 : Int32) = 96 := by decide
  have a : ∀ (c : Int32) (n : Nat), c.toInt = (n : Int) → n ≤ 7 → (p + c).toNatClampNeg = p.toInt.toNat + n := by
    intro c n hc hn
    rw [cl_n, aAD _ _ (by omega)]; omega
  rw [F_X2_read, if_neg (fun c => by have := (aAd _ _).mp c; omega), if_pos ((aAO _ _).mpr (by omega)), cl_n p, a 1 1 (by decide) (by decide), a 2 2 (by decide) (by decide), a 3 3 (by decide) (by decide), a 4 4 (by decide) (by decide), a 5 5 (by decide) (by decide), a 6 6 (by decide) (by decide), a 7 7 (by decide) (by decide)]
theorem bk_v {m : Int32} {f : Int32 → (Nat → Int32) → (Nat → Int32)} {v : Nat → Int32} (hm : 0 ≤ m.toInt ∧ m.toInt ≤ 12) (hf : ∀ (c : Int32) (s : Nat → Int32), f c s = upd s c.toNatClampNeg (v ((21 * m) + c).toNatClampNeg)) (j : Nat) (hj : j < 21) : itr f now 0 21 j = v (21 * m.toInt.toNat + j) := by
  have e := m21 (m := m) (by omega)
  have q := itr_lay (f := f) (g := fun k => k) (v := fun k => v (21 * m.toInt.toNat + k)) 21 now (fun k s hk => by
    have i := nI_0c (k := k) (by omega)
    rw [hf, i.1, pc_n (p := 21 * m) (c := nI (0 + k)) (by omega) (by omega)]
    have e2 : (21 * m).toInt.toNat + (Int32.toInt (nI (0 + k))).toNat = 21 * m.toInt.toNat + k := by omega
    rw [e2]) (fun a b _ _ h => h)
  exact q.1 j hj
theorem undo_rel {th und free mund r1 ap1 ba1 gr1 br1 la1 he1 td1 cl1 und1 free1 r2 th2 mund1 : Int32} {now1 : Nat → Int32} (bf : 0 ≤ fr.toInt ∧ fr.toInt ≤ 16) (e9 : (r1, ap1, ba1, gr1, br1, la1, he1, td1, cl1, und1, free1) = F_X9_undo ap ba gr br la he td cl und free cells) (e10 : (r2, th2, mund1, now1) = F_X10_undo th mund now u) (hm : MR fr sd ap ba gr br la he td now) (hu : UR fr sd und free mund cells u) : r1 = r2 ∧ MR fr sd ap1 ba1 gr1 br1 la1 he1 td1 now1 ∧ UR fr sd und1 free1 mund1 cells u := by
  have l0 : Int32.toInt (0 : Int32) = 0 := by decide
  have l1 : Int32.toInt (1 : Int32) = 1 := by decide
  have l13 : Int32.toInt (13 : Int32) = 13 := by decide
  obtain ⟨h1, h2, h3, h4⟩ := hu
  have hmu : mund = und := i32 h1.symm
  subst hmu
  rw [F_X9_undo] at e9
  rw [F_X10_undo] at e10
  by_cases c : mund = 0
  · rw [if_pos c] at e9 e10
    simp only [Prod.mk.injEq] at e9 e10
    obtain ⟨rfl, rfl, rfl, rfl, rfl, rfl, rfl, rfl, rfl, rfl, rfl⟩ := e9
    obtain ⟨rfl, rfl, rfl, rfl⟩ := e10
    exact ⟨rfl, hm, h1, h2, h3, h4⟩
  · have d := mt (zJ _ _).mpr c
    have a1 := aAD free 13 (by omega)
    have a2 := aCA (free + 13) 1 (by omega)
    have a3 := ti_rem (free + 13 - 1) 13 l13 (by omega) (by omega)
    have a4 := f8 (free := (free + 13 - 1) - (free + 13 - 1) / 13 * 13) (by omega)
    have a5 := aCA mund 1 (by omega)
    have hf : (Int32.toInt ((free + 13 - 1) - (free + 13 - 1) / 13 * 13)).toNat = (free.toInt.toNat + 12) % 13 := by omega
    have hn : (Int32.toInt (mund - 1)).toNat = mund.toInt.toNat - 1 := by omega
    obtain ⟨b1, b2⟩ := URn_b h4 (by omega) (by omega) (by omega)
    rw [if_neg c, aOx, re_v (by omega)] at e9
    rw [if_neg c, ex_X10_undo_26, z21] at e10
    have p8 : (Int32.toInt (((free + 13 - 1) - (free + 13 - 1) / 13 * 13) * 8)).toNat = 8 * ((free.toInt.toNat + 12) % 13) := by omega
    rw [p8] at e9
    simp only [Prod.mk.injEq] at e9 e10
    obtain ⟨rfl, rfl, rfl, rfl, rfl, rfl, rfl, rfl, rfl, rfl, rfl⟩ := e9
    obtain ⟨rfl, rfl, rfl, rfl⟩ := e10
    refine ⟨rfl, MR_c b1 bf.2 (fun j hj => ?_), rfl, by omega, by omega, ?_⟩
    · rw [bk_v (m := mund - 1) (v := u) (by omega) (fun c s => by rw [bd_X10_undo_26]) j hj, hn]
    · rw [hf, hn]; exact b2
end ACT3
/-! what is kept -/
def KR (fr sd came : Int32) (kc isK mk9 isM kcm : Nat → Int32) : Prop := ∀ i : Nat, i < 2 → (isK i = 1 ∧ isM i = 1 ∧ kcm i = came ∧ MRC fr sd kc (8 * i) mk9 (21 * i)) ∨ (isK i = 0 ∧ (isM i = 0 ∨ Int32.toInt (kcm i) < came.toInt))
section KEEP
variable {fr sd ap ba gr br la he td cl came : Int32} {now kc isK mk9 isM kcm : Nat → Int32}
theorem wr2_v {p : Int32} (h : 0 ≤ p.toInt ∧ p.toInt ≤ 8) : (F_X2_write_b2 p ap ba gr br la he td cl kc p.toInt.toNat = ap ∧ F_X2_write_b2 p ap ba gr br la he td cl kc (p.toInt.toNat + 1) = ba ∧ F_X2_write_b2 p ap ba gr br la he td cl kc (p.toInt.toNat + 2) = gr ∧ F_X2_write_b2 p ap ba gr br la he td cl kc (p.toInt.toNat + 3) = br ∧ F_X2_write_b2 p ap ba gr br la he td cl kc (p.toInt.toNat + 4) = la ∧ F_X2_write_b2 p ap ba gr br la he td cl kc (p.toInt.toNat + 5) = he ∧ F_X2_write_b2 p ap ba gr br la he td cl kc (p.toInt.toNat + 6) = td) ∧ (∀ i : Nat, (i < p.toInt.toNat ∨ p.toInt.toNat + 8 ≤ i) → F_X2_write_b2 p ap ba gr br la he td cl kc i = kc i) := by
  have l0 : Int32.toInt (0 : Int32) = 0 := by decide
  have l8 : Int32.toInt (16 - 8 : Int32) = 8 := by decide
  have l96 : Int32.toInt (104 - 8 : Int32) = 96 := by decide
  have e : F_X2_write_b2 p ap ba gr br la he td cl kc = F_X2_write p ap ba gr br la he td cl kc := by
    have k1 : ¬ p < 0 := fun c => by have := (aAd _ _).mp c; omega
    have k2 : p ≤ 16 - 8 := (aAO _ _).mpr (by omega)
    have k3 : p ≤ 104 - 8 := (aAO _ _).mpr (by omega)
    rw [F_X2_write_b2, F_X2_write, if_neg k1, if_neg k1, if_pos k2, if_pos k3]
  rw [e]
  exact wr_v (by omega)
theorem keep_rel {p p' th r1 r2 th2 : Int32} {kc1 isK1 mk1 isM1 kcm1 : Nat → Int32} (bf : 0 ≤ fr.toInt ∧ fr.toInt ≤ 16) (e9 : (r1, kc1, isK1) = F_X9_keep p ap ba gr br la he td cl kc isK) (e10 : (r2, th2, mk1, isM1, kcm1) = F_X10_keep p' th came now mk9 isM kcm) (hp : p' = p) (hm : MR fr sd ap ba gr br la he td now) (hk : KR fr sd came kc isK mk9 isM kcm) : r1 = r2 ∧ KR fr sd came kc1 isK1 mk1 isM1 kcm1 := by
  subst hp
  have l0 : Int32.toInt (0 : Int32) = 0 := by decide
  have l1 : Int32.toInt (1 : Int32) = 1 := by decide
  have l2 : Int32.toInt (2 : Int32) = 2 := by decide
  have b1 : vp_nar .boolean 1 = 1 := by decide
  rw [F_X9_keep, F_X4_store] at e9
  rw [F_X10_keep] at e10
  rcases in01 p' 0 1 with ⟨q, q2⟩ | ⟨q, q2⟩
  · rw [if_pos q] at e10
    have f : (r1, kc1, isK1) = ((0 : Int32), kc, isK) := by
      by_cases c : p' < 0
      · rw [if_pos c] at e9; exact e9
      · have d := mt (aAd _ _).mpr c
        rw [if_neg c, if_neg (fun c2 => by have := (aAd _ _).mp c2; omega)] at e9
        exact e9
    simp only [Prod.mk.injEq] at f e10
    obtain ⟨rfl, rfl, rfl⟩ := f
    obtain ⟨rfl, rfl, rfl, rfl, rfl⟩ := e10
    exact ⟨rfl, hk⟩
  · rw [if_neg (neg1 q), b1] at e10
    rw [if_neg (fun c2 => by have := (aAd _ _).mp c2; omega), if_pos ((aAd _ _).mpr (by omega)), b1] at e9
    simp only [Prod.mk.injEq] at e9 e10
    obtain ⟨rfl, rfl, rfl⟩ := e9
    obtain ⟨rfl, rfl, rfl, rfl, rfl⟩ := e10
    have e8 := f8 (free := p') (by omega)
    have e21 := m21 (m := p') (by omega)
    have en := cl_n p'
    obtain ⟨w1, w2⟩ := wr2_v (p := p' * 8) (ap := ap) (ba := ba) (gr := gr) (br := br) (la := la) (he := he) (td := td) (cl := cl) (kc := kc) (by omega)
    obtain ⟨y1, y2⟩ := lay4_v (p := 21 * p') (now := now) (u := mk9) (by omega)
    have p8 : (p' * 8).toInt.toNat = 8 * p'.toInt.toNat := by omega
    have p21 : (21 * p').toInt.toNat = 21 * p'.toInt.toNat := by omega
    rw [p8] at w1 w2
    rw [p21] at y1 y2
    refine ⟨rfl, fun i hi => ?_⟩
    by_cases c : i = p'.toInt.toNat
    · left
      rw [en, c, upd_i, upd_i, upd_i]
      refine ⟨rfl, rfl, rfl, ?_⟩
      unfold MRC
      obtain ⟨v0, v1, v2, v3, v4, v5, v6⟩ := w1
      rw [v0, v1, v2, v3, v4, v5, v6]
      exact MR_c hm bf.2 y1
    · rw [en, aGi _ _ c, aGi _ _ c, aGi _ _ c]
      rcases hk i hi with ⟨k1, k2, k3, k4⟩ | k
      · exact Or.inl ⟨k1, k2, k3, MRC_c k4 bf.2 (fun j hj => w2 _ (by omega)) (fun j hj => y2 _ (by omega))⟩
      · exact Or.inr k
theorem re2_v {p : Int32} (h : 0 ≤ p.toInt ∧ p.toInt ≤ 8) : aRH p ap ba gr br la he td cl kc = (kc p.toInt.toNat, kc (p.toInt.toNat + 1), kc (p.toInt.toNat + 2), kc (p.toInt.toNat + 3), kc (p.toInt.toNat + 4), kc (p.toInt.toNat + 5), kc (p.toInt.toNat + 6), kc (p.toInt.toNat + 7)) := by
  have l0 : Int32.toInt (0 : Int32) = 0 := by decide
  have l8 : Int32.toInt (16 - 8 : Int32) = 8 := by decide
  have l96 : Int32.toInt (104 - 8 : Int32) = 96 := by decide
  have e : aRH p ap ba gr br la he td cl kc = F_X2_read p ap ba gr br la he td cl kc := by
    have k1 : ¬ p < 0 := fun c => by have := (aAd _ _).mp c; omega
    have k2 : p ≤ 16 - 8 := (aAO _ _).mpr (by omega)
    have k3 : p ≤ 104 - 8 := (aAO _ _).mpr (by omega)
    rw [aRH, F_X2_read, if_neg k1, if_neg k1, if_pos k2, if_pos k3]
  rw [e]
  exact re_v (by omega)
theorem UR_0 {und free mund : Int32} {cells u : Nat → Int32} (hf : 0 ≤ free.toInt ∧ free.toInt ≤ 12) (h1 : und = 0) (h2 : mund = 0) : UR fr sd und free mund cells u := by
  subst h1 h2
  have z : (Int32.toInt (0 : Int32)).toNat = 0 := by decide
  exact ⟨rfl, by decide, hf, fun i hi => by exfalso; omega⟩
theorem again_rel {p p' th und mund free r1 ap1 ba1 gr1 br1 la1 he1 td1 cl1 und1 r2 th2 mund1 : Int32} {now1 cells u : Nat → Int32} (bf : 0 ≤ fr.toInt ∧ fr.toInt ≤ 16) (e9 : (r1, ap1, ba1, gr1, br1, la1, he1, td1, cl1, und1) = F_X9_again p ap ba gr br la he td cl und kc isK) (e10 : (r2, th2, mund1, now1) = F_X10_again p' th mund came now mk9 isM kcm) (hp : p' = p) (hm : MR fr sd ap ba gr br la he td now) (hu : UR fr sd und free mund cells u) (hk : KR fr sd came kc isK mk9 isM kcm) : r1 = r2 ∧ MR fr sd ap1 ba1 gr1 br1 la1 he1 td1 now1 ∧ UR fr sd und1 free mund1 cells u := by
  subst hp
  have l0 : Int32.toInt (0 : Int32) = 0 := by decide
  have l1 : Int32.toInt (1 : Int32) = 1 := by decide
  have l2 : Int32.toInt (2 : Int32) = 2 := by decide
  have no : (r1, ap1, ba1, gr1, br1, la1, he1, td1, cl1, und1) = ((0 : Int32), ap, ba, gr, br, la, he, td, cl, und) → (r2, th2, mund1, now1) = ((0 : Int32), (0 : Int32), mund, now) → r1 = r2 ∧ MR fr sd ap1 ba1 gr1 br1 la1 he1 td1 now1 ∧ UR fr sd und1 free mund1 cells u := by
    intro f9 f10
    simp only [Prod.mk.injEq] at f9 f10
    obtain ⟨rfl, rfl, rfl, rfl, rfl, rfl, rfl, rfl, rfl, rfl⟩ := f9
    obtain ⟨rfl, rfl, rfl, rfl⟩ := f10
    exact ⟨rfl, hm, hu⟩
  rw [F_X9_again, aUd] at e9
  rw [F_X10_again] at e10
  rcases in01 p' 0 1 with ⟨q, q2⟩ | ⟨q, q2⟩
  · rw [if_pos q] at e10
    by_cases c : p' < 0
    · rw [if_pos c] at e9; exact no e9 e10
    · have d := mt (aAd _ _).mpr c
      rw [if_neg c, if_pos ((aAO _ _).mpr (by omega))] at e9
      exact no e9 e10
  · have en := cl_n p'
    rw [if_neg (neg1 q)] at e10
    rw [if_neg (fun c2 => by have := (aAd _ _).mp c2; omega), if_neg (fun c2 => by have := (aAO _ _).mp c2; omega)] at e9
    rcases hk p'.toNatClampNeg (by omega) with ⟨k1, k2, k3, k4⟩ | ⟨k1, k2⟩
    · rw [if_neg (neg1 k1)] at e9
      rw [if_neg (neg1 k2), if_pos k3, ex_X10_again_40, z21] at e10
      have e8 := f8 (free := p') (by omega)
      rw [re2_v (by omega)] at e9
      have p8 : (p' * 8).toInt.toNat = 8 * p'.toInt.toNat := by omega
      rw [p8] at e9
      rw [en] at k4
      simp only [Prod.mk.injEq] at e9 e10
      obtain ⟨rfl, rfl, rfl, rfl, rfl, rfl, rfl, rfl, rfl, rfl⟩ := e9
      obtain ⟨rfl, rfl, rfl, rfl⟩ := e10
      exact ⟨rfl, MR_c k4 bf.2 (fun j hj => bk_v (m := p') (v := mk9) (by omega) (fun c s => by rw [bd_X10_again_40]) j hj), UR_0 hu.2.2.1 rfl rfl⟩
    · rw [if_pos k1] at e9
      rcases k2 with k2 | k2
      · rw [if_pos k2] at e10; exact no e9 e10
      · by_cases c : isM p'.toNatClampNeg = 0
        · rw [if_pos c] at e10; exact no e9 e10
        · rw [if_neg c, if_neg (fun e => by rw [e] at k2; omega)] at e10
          exact no e9 e10
end KEEP
