/-! reading a text, by the functions: signs, numbers, both readers alike -/
def stp (l t : Int32) : Int32 := if t < l then t else l
theorem stp_r (l t : Int32) : (stp l t).toInt <= l.toInt /\ (stp l t).toInt <= t.toInt /\ ((stp l t).toInt = l.toInt \/ (stp l t).toInt = t.toInt) := ti_min l t
theorem n10 : ¬ (1 : Int32) = 0 := by decide
theorem hr_in {p st : Int32} {sg : Nat -> Int32} (h : ¬ aE7 p st sg = -1) : p.toInt < st.toInt := by
  rw [aE7] at h
  by_cases c : st <= p
  · rw [if_pos c] at h; exact absurd rfl h
  · have := mt (aAO _ _).mpr c; omega
theorem hr_c {p st c : Int32} {sg : Nat -> Int32} (h : aE7 p st sg = c) (hc : ¬ c = -1) : p.toInt < st.toInt := hr_in (by rw [h]; exact hc)
theorem hr_eq {l t a : Int32} {sg tx ru : Nat -> Int32} (hs : ∀ k : Nat, sg k = tx k &&& 255) : aRs 1 l t a tx ru = aE7 a (stp l t) sg := by
  rw [aRs, aE7]
  have h := stp_r l t
  by_cases c : l <= a
  · have d := (aAO _ _).mp c
    rw [if_pos c, if_pos ((aAO _ _).mpr (by omega))]
  · have d := mt (aAO _ _).mpr c
    rw [if_neg c]
    by_cases c2 : t <= a
    · have d2 := (aAO _ _).mp c2
      rw [if_pos c2, if_pos ((aAO _ _).mpr (by omega))]
    · have d2 := mt (aAO _ _).mpr c2
      rw [if_neg c2, if_pos rfl, if_neg (fun c3 => by have := (aAO _ _).mp c3; omega), hs]
theorem dg_eq (p st : Int32) (sg : Nat -> Int32) : aC7 p st sg = if aE7 p st sg < 48 then -1 else if 57 < aE7 p st sg then -1 else aE7 p st sg - 48 := by
  rw [aC7, aE7]
  by_cases c : st <= p
  · rw [if_pos c, if_pos c, j_X8_digitHere_24]
  · rw [if_neg c, if_neg c, j_X8_digitHere_24]
theorem dg_in {p st : Int32} {sg : Nat -> Int32} (h : ¬ aC7 p st sg = -1) : p.toInt < st.toInt := by
  rw [dg_eq] at h
  by_cases c : aE7 p st sg = -1
  · rw [c] at h; exact absurd (by decide) h
  · exact hr_in c
theorem dg_ok {p st : Int32} {sg : Nat -> Int32} (h : ¬ aC7 p st sg = -1) : ¬ aE7 p st sg < 48 /\ ¬ 57 < aE7 p st sg /\ aC7 p st sg = aE7 p st sg - 48 := by
  rw [dg_eq] at h ⊢
  by_cases c : aE7 p st sg < 48
  · rw [if_pos c] at h; exact absurd rfl h
  · rw [if_neg c] at h ⊢
    by_cases c2 : 57 < aE7 p st sg
    · rw [if_pos c2] at h; exact absurd rfl h
    · rw [if_neg c2]; exact ⟨c, c2, rfl⟩
theorem dg_r {p st : Int32} {sg : Nat -> Int32} (h : ¬ aC7 p st sg = -1) : 0 <= Int32.toInt (aC7 p st sg) /\ Int32.toInt (aC7 p st sg) <= 9 := by
  obtain ⟨h1, h2, h3⟩ := dg_ok h
  have l48 : Int32.toInt (48 : Int32) = 48 := by decide
  have l57 : Int32.toInt (57 : Int32) = 57 := by decide
  have h1 := mt (aAd _ _).mpr h1
  have h2 := mt (aAd _ _).mpr h2
  rw [h3, aCA _ _ (by omega)]
  omega
theorem in_no {p st : Int32} {sg : Nat -> Int32} (h : aC7 p st sg = -1) : aUe (aE7 p st sg) 48 57 = 0 := by
  rw [aUe]
  by_cases c : aE7 p st sg < 48
  · rw [if_pos c]
  · rw [if_neg c]
    by_cases c2 : 57 < aE7 p st sg
    · rw [if_pos c2]
    · exfalso
      rw [dg_eq, if_neg c, if_neg c2] at h
      have l48 : Int32.toInt (48 : Int32) = 48 := by decide
      have l57 : Int32.toInt (57 : Int32) = 57 := by decide
      have lm : Int32.toInt (-1 : Int32) = -1 := by decide
      have c := mt (aAd _ _).mpr c
      have c2 := mt (aAd _ _).mpr c2
      have h := congrArg Int32.toInt h
      rw [aCA _ _ (by omega)] at h
      omega
theorem in_ok {p st : Int32} {sg : Nat -> Int32} (h : ¬ aC7 p st sg = -1) : ¬ aUe (aE7 p st sg) 48 57 = 0 := by
  obtain ⟨h1, h2, _⟩ := dg_ok h
  rw [aUe, if_neg h1, if_neg h2]
  decide
theorem sk_in {p st : Int32} (h : p.toInt < st.toInt) : aVj p st = p + 1 := by
  rw [aVj, if_neg (fun c => by have := (aAO _ _).mp c; omega)]
noncomputable def np2 (st : Int32) (sg : Nat -> Int32) (p : Int32) : Int32 := if aC7 (p + 1) st sg = -1 then p + 1 else p + 1 + 1
noncomputable def nv2 (st : Int32) (sg : Nat -> Int32) (p : Int32) : Int32 := if aC7 (p + 1) st sg = -1 then aC7 p st sg else aC7 p st sg * 10 + aC7 (p + 1) st sg
theorem c_no {p st d : Int32} {sg : Nat -> Int32} (h : aC7 p st sg = -1) : aCW d p st sg = (-1, p) := by
  rw [aCW, if_pos h]
theorem c1_ok {p st : Int32} {sg : Nat -> Int32} (h : ¬ aC7 p st sg = -1) : aCW 1 p st sg = (aC7 p st sg, p + 1) := by
  rw [aCW, if_neg h, sk_in (dg_in h), show (4 : Nat) = 3 + 1 from rfl, flp_s, fs_X8_readNumber_18, if_pos (by decide)]
theorem c2_ok {p st : Int32} {sg : Nat -> Int32} (h : ¬ aC7 p st sg = -1) : aCW 2 p st sg = (nv2 st sg p, np2 st sg p) := by
  rw [aCW, if_neg h, sk_in (dg_in h), show (4 : Nat) = 3 + 1 from rfl, flp_s, fs_X8_readNumber_18, if_neg (by decide), nv2, np2]
  by_cases c : aC7 (p + 1) st sg = -1
  · rw [if_pos c, if_pos c, if_pos c]
  · rw [if_neg c, if_neg c, if_neg c, sk_in (dg_in c), show (3 : Nat) = 2 + 1 from rfl, flp_s, fs_X8_readNumber_18, if_pos (by decide)]
theorem p1_r {p st : Int32} (hp : 0 <= p.toInt) (hs : st.toInt <= 80) (h : p.toInt < st.toInt) : (p + 1).toInt = p.toInt + 1 := by
  have l1 : Int32.toInt (1 : Int32) = 1 := by decide
  have := aAD p 1 (by omega)
  omega
theorem np2_r {p st : Int32} {sg : Nat -> Int32} (hp : 0 <= p.toInt) (hs : st.toInt <= 80) (h : ¬ aC7 p st sg = -1) : p.toInt + 1 <= (np2 st sg p).toInt /\ (np2 st sg p).toInt <= p.toInt + 2 /\ (np2 st sg p).toInt <= st.toInt := by
  have q := p1_r hp hs (dg_in h)
  have q0 := dg_in h
  rw [np2]
  by_cases c : aC7 (p + 1) st sg = -1
  · rw [if_pos c]; omega
  · rw [if_neg c]
    have q2 := dg_in c
    have q3 := p1_r (p := p + 1) (by omega) hs q2
    omega
theorem nv2_r {p st : Int32} {sg : Nat -> Int32} (h : ¬ aC7 p st sg = -1) : 0 <= (nv2 st sg p).toInt /\ (nv2 st sg p).toInt <= 99 := by
  have q := dg_r h
  rw [nv2]
  by_cases c : aC7 (p + 1) st sg = -1
  · rw [if_pos c]; omega
  · rw [if_neg c]
    have q2 := dg_r c
    have l10 : Int32.toInt (10 : Int32) = 10 := by decide
    have m := ta_mulc (aC7 p st sg) 10 l10 (by omega)
    have a := aAD (aC7 p st sg * 10) (aC7 (p + 1) st sg) (by omega)
    omega
theorem ne_m1 {v : Int32} (h : 0 <= v.toInt) : ¬ v = -1 := fun e => by
  have lm : Int32.toInt (-1 : Int32) = -1 := by decide
  rw [e] at h
  omega
theorem fine_m : ¬ F_X10_fine (-1) = 0 := by rw [F_X10_fine, if_pos rfl]; decide
theorem fine_w {w : Int32} (h : ¬ w = -1) : F_X10_fine w = 0 := by rw [F_X10_fine, if_neg h]
theorem fault_m (p : Int32) : F_X10_fault p (-1) = p := by rw [F_X10_fault, if_neg fine_m]
theorem fault_w {p w : Int32} (h : ¬ w = -1) : F_X10_fault p w = w := by rw [F_X10_fault, if_pos (fine_w h)]
theorem num_w {d l t a w : Int32} {r : Nat} {tx ru : Nat -> Int32} (h : ¬ w = -1) : aBD d r l t a w tx ru = (0, a, w) := by rw [aBD, if_pos (fine_w h)]
theorem pas_w {c l t a w : Int32} {r : Nat} {tx ru : Nat -> Int32} (h : ¬ w = -1) : aH1 c r l t a w tx ru = (0, a) := by rw [aH1, if_pos (fine_w h)]
theorem need_w {c l t a w : Int32} {r : Nat} {tx ru : Nat -> Int32} (h : ¬ w = -1) : aD5 c r l t a w tx ru = (a, w) := by
  rw [aD5, pas_w h, fault_w h, if_pos rfl]
theorem m_lt {a b : Int32} (ha : 0 <= a.toInt /\ a.toInt <= 100) (hb : 1 <= b.toInt /\ b.toInt <= 3) : ¬ (a + b) <= a := fun c => by
  have := (aAO _ _).mp c
  have := aAD a b (by omega)
  omega
theorem i_a0 (a b : Int32) : (10 * 0 + a) - b = a - b := by
  rw [show (10 * 0 : Int32) = 0 by decide, Int32.zero_add]
theorem i_asc2 (a b c : Int32) : (10 * a + b) - c = a * 10 + (b - c) := by
  rw [Int32.sub_eq_add_neg, Int32.sub_eq_add_neg, Int32.add_assoc, Int32.mul_comm]
section RD
variable {l t a : Int32} {sg tx ru : Nat -> Int32}
theorem pas_eq (hs : ∀ k : Nat, sg k = tx k &&& 255) (c : Int32) : aH1 c 1 l t a (-1) tx ru = aGm c a (stp l t) sg := by
  rw [aH1, if_neg fine_m, hr_eq hs, aGm]
theorem m_no (hs : ∀ k : Nat, sg k = tx k &&& 255) (ha : 0 <= a.toInt /\ a.toInt <= 100) {d : Int32} (hd : 1 <= d.toInt /\ d.toInt <= 3) (h : aC7 a (stp l t) sg = -1) : aBD d 1 l t a (-1) tx ru = (0, a, a) := by
  rw [aBD, if_neg fine_m, show (4 : Nat) = 3 + 1 from rfl, flp_s, bCU, if_neg (m_lt ha hd), hr_eq hs, if_pos (in_no h), j_X10_number_66, if_pos rfl, fault_m]
theorem m1_ok (hs : ∀ k : Nat, sg k = tx k &&& 255) (ha : 0 <= a.toInt /\ a.toInt <= 100) (h : ¬ aC7 a (stp l t) sg = -1) : aBD 1 1 l t a (-1) tx ru = (aC7 a (stp l t) sg, a + 1, -1) := by
  have l1 : Int32.toInt (1 : Int32) = 1 := by decide
  have q := aAD a 1 (by omega)
  rw [aBD, if_neg fine_m, show (4 : Nat) = 3 + 1 from rfl, flp_s, bCU, if_neg (m_lt ha (by decide)), hr_eq hs, if_neg (in_ok h), show (3 : Nat) = 2 + 1 from rfl, flp_s, bCU, if_pos ((aAO _ _).mpr (by omega)), j_X10_number_66, if_neg (fun e => by have := congrArg Int32.toInt e; omega), i_a0, (dg_ok h).2.2]
theorem m2_ok (hs : ∀ k : Nat, sg k = tx k &&& 255) (ha : 0 <= a.toInt /\ a.toInt <= 100) (h : ¬ aC7 a (stp l t) sg = -1) : aBD 2 1 l t a (-1) tx ru = (nv2 (stp l t) sg a, np2 (stp l t) sg a, -1) := by
  have l1 : Int32.toInt (1 : Int32) = 1 := by decide
  have l2 : Int32.toInt (2 : Int32) = 2 := by decide
  have q := aAD a 1 (by omega)
  have q1 := aAD a 2 (by omega)
  have q2 := aAD (a + 1) 1 (by omega)
  rw [aBD, if_neg fine_m, show (4 : Nat) = 3 + 1 from rfl, flp_s, bCU, if_neg (m_lt ha (by decide)), hr_eq hs, if_neg (in_ok h), show (3 : Nat) = 2 + 1 from rfl, flp_s, bCU, if_neg (fun c => by have := (aAO _ _).mp c; omega), hr_eq hs, i_a0, <- (dg_ok h).2.2, nv2, np2]
  by_cases c : aC7 (a + 1) (stp l t) sg = -1
  · rw [if_pos (in_no c), if_pos c, if_pos c, j_X10_number_66, if_neg (fun e => by have := congrArg Int32.toInt e; omega)]
  · rw [if_neg (in_ok c), if_neg c, if_neg c, show (2 : Nat) = 1 + 1 from rfl, flp_s, bCU, if_pos ((aAO _ _).mpr (by omega)), j_X10_number_66, if_neg (fun e => by have := congrArg Int32.toInt e; omega), i_asc2, <- (dg_ok c).2.2]
theorem need_y (hs : ∀ k : Nat, sg k = tx k &&& 255) {c : Int32} (h : aE7 a (stp l t) sg = c) : aD5 c 1 l t a (-1) tx ru = (a + 1, -1) := by
  rw [aD5, pas_eq hs, aGm, if_pos h, if_neg n10]
theorem need_n (hs : ∀ k : Nat, sg k = tx k &&& 255) {c : Int32} (h : ¬ aE7 a (stp l t) sg = c) : aD5 c 1 l t a (-1) tx ru = (a, a) := by
  rw [aD5, pas_eq hs, aGm, if_neg h, if_pos rfl, fault_m]
end RD
theorem tk_y {c p st : Int32} {sg : Nat -> Int32} (h : aE7 p st sg = c) : aGm c p st sg = (1, p + 1) := by rw [aGm, if_pos h]
theorem tk_n {c p st : Int32} {sg : Nat -> Int32} (h : ¬ aE7 p st sg = c) : aGm c p st sg = (0, p) := by rw [aGm, if_neg h]
/-! one LINE: both readers alike (printed by line.py) -/
theorem pair_rel {l t a : Int32} {sg tx ru : Nat -> Int32} (hs : ∀ k : Nat, sg k = tx k &&& 255) (hl : l.toInt <= 80) (ha : 0 <= a.toInt /\ a.toInt <= 100) :
    (∃ v1 v2 p4 : Int32, (∀ (i : Int32) (x h : Nat -> Int32), 0 <= i.toInt /\ i.toInt < 16 -> aHt i a (stp l t) sg x h = (1, p4, upd x i.toNatClampNeg v1, upd h i.toNatClampNeg v2)) /\ (∀ (i : Int32) (x h : Nat -> Int32), 0 <= i.toInt /\ i.toInt < 8 -> aHL i a (stp l t) sg x h = (1, p4, upd x i.toNatClampNeg v1, upd h i.toNatClampNeg v2)) /\ (aBD 2 1 l t a (-1) tx ru).1 = v1 /\ (aBD 2 1 l t (aD5 44 1 l t (aBD 2 1 l t a (-1) tx ru).2.1 (aBD 2 1 l t a (-1) tx ru).2.2 tx ru).1 (aD5 44 1 l t (aBD 2 1 l t a (-1) tx ru).2.1 (aBD 2 1 l t a (-1) tx ru).2.2 tx ru).2 tx ru) = (v2, p4, -1) /\ a.toInt < p4.toInt /\ p4.toInt <= (stp l t).toInt)
    \/ (∃ q g : Int32, (∀ (i : Int32) (x h : Nat -> Int32), aHt i a (stp l t) sg x h = (0, q, x, h)) /\ (∀ (i : Int32) (x h : Nat -> Int32), aHL i a (stp l t) sg x h = (0, q, x, h)) /\ (aBD 2 1 l t (aD5 44 1 l t (aBD 2 1 l t a (-1) tx ru).2.1 (aBD 2 1 l t a (-1) tx ru).2.2 tx ru).1 (aD5 44 1 l t (aBD 2 1 l t a (-1) tx ru).2.1 (aBD 2 1 l t a (-1) tx ru).2.2 tx ru).2 tx ru) = (g, q, q) /\ a.toInt <= q.toInt /\ q.toInt <= 100) := by
  have hst := stp_r l t
  by_cases c1 : aC7 a (stp l t) sg = -1
  · refine Or.inr ⟨a, 0, fun i x h => ?_, fun i x h => ?_, ?_, by omega, by omega⟩
    · rw [aHt, c_no c1, if_pos rfl]
    · rw [aHL, c_no c1, if_pos rfl]
    · rw [m_no hs ha (by decide) c1]
      have w := ne_m1 ha.1
      rw [need_w (show ¬ ((0 : Int32), a, a).2.2 = -1 from w)]
      exact num_w w
  · have e1 := c2_ok c1
    have e2 := m2_ok (ru := ru) hs ha c1
    have v1 := nv2_r c1
    have b1 := np2_r ha.1 (by omega) c1
    have b0 := dg_in c1
    obtain ⟨u1, hu1⟩ : ∃ u, u = nv2 (stp l t) sg a := ⟨_, rfl⟩
    obtain ⟨p2, hp2⟩ : ∃ u, u = np2 (stp l t) sg a := ⟨_, rfl⟩
    rw [<- hu1, <- hp2] at e1 e2
    rw [<- hu1] at v1
    rw [<- hp2] at b1
    have u1n := ne_m1 v1.1
    by_cases c2 : aE7 p2 (stp l t) sg = 44
    · have e3 := tk_y c2
      have e4 := need_y (ru := ru) hs c2
      have b2 := hr_c c2 (by decide)
      have b3 := p1_r (p := p2) (st := (stp l t)) (by omega) (by omega) b2
      by_cases c3 : aC7 (p2 + 1) (stp l t) sg = -1
      · refine Or.inr ⟨p2 + 1, 0, fun i x h => ?_, fun i x h => ?_, ?_, by omega, by omega⟩
        · rw [aHt, e1, if_neg u1n, e3, if_neg n10, c_no c3, if_pos rfl]
        · rw [aHL, e1, if_neg u1n, e3, if_neg n10, c_no c3, if_pos rfl]
        · rw [e2]
          show aBD 2 1 l t (aD5 44 1 l t p2 (-1) tx ru).1 (aD5 44 1 l t p2 (-1) tx ru).2 tx ru = _
          rw [e4]
          show aBD 2 1 l t (p2 + 1) (-1) tx ru = _
          exact m_no hs (by omega) (by decide) c3
      · have e5 := c2_ok c3
        have e6 := m2_ok (ru := ru) hs (show 0 <= (p2 + 1).toInt /\ (p2 + 1).toInt <= 100 by omega) c3
        have v2 := nv2_r c3
        have b4 := np2_r (p := p2 + 1) (by omega) (by omega) c3
        obtain ⟨u2, hu2⟩ : ∃ u, u = nv2 (stp l t) sg (p2 + 1) := ⟨_, rfl⟩
        obtain ⟨p4, hp4⟩ : ∃ u, u = np2 (stp l t) sg (p2 + 1) := ⟨_, rfl⟩
        rw [<- hu2, <- hp4] at e5 e6
        rw [<- hu2] at v2
        rw [<- hp4] at b4
        have u2n := ne_m1 v2.1
        have l0 : Int32.toInt (0 : Int32) = 0 := by decide
        have l16 : Int32.toInt (16 : Int32) = 16 := by decide
        have l8 : Int32.toInt (8 : Int32) = 8 := by decide
        refine Or.inl ⟨u1, u2, p4, fun i x h hi => ?_, fun i x h hi => ?_, ?_, ?_, by omega, by omega⟩
        · rw [aHt, e1, if_neg u1n, e3, if_neg n10, e5, if_neg u2n, if_neg (fun c => by have := (aAd _ _).mp c; omega), if_neg (fun c => by have := (aAO _ _).mp c; omega), if_pos ((aAd _ _).mpr (by omega))]
        · rw [aHL, e1, if_neg u1n, e3, if_neg n10, e5, if_neg u2n, if_neg (fun c => by have := (aAd _ _).mp c; omega), if_neg (fun c => by have := (aAO _ _).mp c; omega), if_pos ((aAd _ _).mpr (by omega))]
        · rw [e2]
        · rw [e2]
          show aBD 2 1 l t (aD5 44 1 l t p2 (-1) tx ru).1 (aD5 44 1 l t p2 (-1) tx ru).2 tx ru = _
          rw [e4]
          show aBD 2 1 l t (p2 + 1) (-1) tx ru = _
          exact e6
    · have e3 := tk_n c2
      have e4 := need_n (ru := ru) hs c2
      refine Or.inr ⟨p2, 0, fun i x h => ?_, fun i x h => ?_, ?_, by omega, by omega⟩
      · rw [aHt, e1, if_neg u1n, e3, if_pos rfl]
      · rw [aHL, e1, if_neg u1n, e3, if_pos rfl]
      · rw [e2]
        show aBD 2 1 l t (aD5 44 1 l t p2 (-1) tx ru).1 (aD5 44 1 l t p2 (-1) tx ru).2 tx ru = _
        rw [e4]
        show aBD 2 1 l t p2 p2 tx ru = _
        exact num_w (ne_m1 (by omega))
theorem opt_rel {l t a : Int32} {sg tx ru : Nat -> Int32} (hs : ∀ k : Nat, sg k = tx k &&& 255) (hl : l.toInt <= 80) (ha : 0 <= a.toInt /\ a.toInt <= 100) (c : Int32) (hc : ¬ c = -1) :
    (aGm c a (stp l t) sg = (0, a) /\ aH1 c 1 l t a (-1) tx ru = (0, a))
    \/ (∃ v p : Int32, aGm c a (stp l t) sg = (1, a + 1) /\ aH1 c 1 l t a (-1) tx ru = (1, a + 1) /\ aCW 1 (a + 1) (stp l t) sg = (v, p) /\ aBD 1 1 l t (a + 1) (-1) tx ru = (v, p, -1) /\ ¬ v = -1 /\ a.toInt < p.toInt /\ p.toInt <= (stp l t).toInt)
    \/ (aGm c a (stp l t) sg = (1, a + 1) /\ aH1 c 1 l t a (-1) tx ru = (1, a + 1) /\ aCW 1 (a + 1) (stp l t) sg = (-1, a + 1) /\ aBD 1 1 l t (a + 1) (-1) tx ru = (0, a + 1, a + 1) /\ (a + 1).toInt = a.toInt + 1 /\ a.toInt < (stp l t).toInt) := by
  have hst := stp_r l t
  by_cases c1 : aE7 a (stp l t) sg = c
  · have b := hr_c c1 hc
    have b1 := p1_r (p := a) (st := (stp l t)) ha.1 (by omega) b
    have e1 := tk_y c1
    have e2 : aH1 c 1 l t a (-1) tx ru = (1, a + 1) := (pas_eq hs c).trans e1
    by_cases c2 : aC7 (a + 1) (stp l t) sg = -1
    · exact Or.inr (Or.inr ⟨e1, e2, c_no c2, m_no hs (by omega) (by decide) c2, b1, b⟩)
    · have b2 := dg_in c2
      have b3 := p1_r (p := a + 1) (st := (stp l t)) (by omega) (by omega) b2
      exact Or.inr (Or.inl ⟨_, _, e1, e2, c1_ok c2, m1_ok hs (by omega) c2, ne_m1 (dg_r c2).1, by omega, by omega⟩)
  · exact Or.inl ⟨tk_n c1, (pas_eq hs c).trans (tk_n c1)⟩
theorem upd_i (f : Nat -> Int32) (i : Nat) (v : Int32) : upd f i v i = v := by unfold upd; rw [if_pos rfl]
theorem aGi (f : Nat -> Int32) {i k : Nat} (v : Int32) (h : k ≠ i) : upd f i v k = f k := by unfold upd; rw [if_neg h]
theorem nm0 : ¬ (0 : Int32) = -1 := by decide
theorem nm1 : ¬ (1 : Int32) = -1 := by decide
theorem line_f {l t a cf cs nf ns fr sd : Int32} {sg tx ru x h w r f k nF nS : Nat -> Int32} (hs : ∀ k : Nat, sg k = tx k &&& 255) (hl : l.toInt <= 80) (ha : 0 <= a.toInt /\ a.toInt <= 100) (hf : fr + nf = cf) (hd : sd + ns = cs) (hcf : 0 <= cf.toInt) (hcs : 0 <= cs.toInt) (h1 : aE7 a (stp l t) sg = 102) (h2 : ¬ 16 <= cf) : (∃ v1 v2 v3 v4 q : Int32, aCs a (stp l t) sg cf cs x h w r f k = (1, q, cf + 1, cs, upd x cf.toNatClampNeg v1, upd h cf.toNatClampNeg v2, upd w cf.toNatClampNeg v3, upd r cf.toNatClampNeg v4, f, k) /\ aGL fr sd 1 l t a (-1) nf ns tx nF nS ru = (q, -1, nf + 1, ns, upd (upd (upd (upd nF (4 * nf).toNatClampNeg v1) (4 * nf + 1).toNatClampNeg v2) (4 * nf + 2).toNatClampNeg v3) (4 * nf + 3).toNatClampNeg v4, nS) /\ a.toInt < q.toInt /\ q.toInt <= (stp l t).toInt /\ 0 <= cf.toInt /\ cf.toInt < 16) \/ (∃ (q cf' cs' : Int32) (x' h' w' r' f' k' : Nat -> Int32), aCs a (stp l t) sg cf cs x h w r f k = (0, q, cf', cs', x', h', w', r', f', k') /\ ((aGL fr sd 1 l t a (-1) nf ns tx nF nS ru).1 = q /\ (aGL fr sd 1 l t a (-1) nf ns tx nF nS ru).2.1 = q) /\ a.toInt <= q.toInt /\ q.toInt <= 101 /\ (∀ j : Nat, j ≠ cf.toNatClampNeg -> x' j = x j /\ h' j = h j /\ w' j = w j /\ r' j = r j) /\ (∀ j : Nat, j ≠ cs.toNatClampNeg -> f' j = f j /\ k' j = k j)) := by
  have l16 : Int32.toInt (16 : Int32) = 16 := by decide
  have hst := stp_r l t
  have d2 := mt (aAO _ _).mpr h2
  have b0 := hr_c h1 (by decide)
  have b1 := p1_r (p := a) (st := stp l t) ha.1 (by omega) b0
  rw [aCs, if_pos h1, if_neg h2, sk_in b0, aIU, aGL, hr_eq hs, if_pos h1, hf, if_neg h2]
  rcases pair_rel (t := t) (ru := ru) hs hl (show 0 <= (a + 1).toInt /\ (a + 1).toInt <= 100 by omega) with ⟨v1, v2, p4, hc, _, hm1, hm2, g1, g2⟩ | ⟨q, g, hc, _, hm2, g1, g2⟩
  · have hc := hc cf x h (by omega)
    rcases opt_rel (t := t) (ru := ru) hs hl (show 0 <= p4.toInt /\ p4.toInt <= 100 by omega) 42 (by decide) with ⟨o1, o2⟩ | ⟨v3, p6, o1, o2, o3, o4, o5, g3, g4⟩ | ⟨o1, o2, o3, o4, g3, g4⟩
    · skip
      rcases opt_rel (t := t) (ru := ru) hs hl (show 0 <= p4.toInt /\ p4.toInt <= 100 by omega) 64 (by decide) with ⟨s1, s2⟩ | ⟨v4, p8, s1, s2, s3, s4, s5, g5, g6⟩ | ⟨s1, s2, s3, s4, g5, g6⟩
      · refine Or.inl ⟨v1, v2, 1, 0, p4, ?_, ?_, by omega, by omega, hcf, by omega⟩
        · simp only [↓reduceIte, hc, o1, o2, s1, n10, nm0, nm1, aUo, aRk, upd_i]
        · simp only [↓reduceIte, hc, o1, o2, s2, hm1, hm2, n10, aRi, aLp]
      · refine Or.inl ⟨v1, v2, 1, v4, p8, ?_, ?_, by omega, by omega, hcf, by omega⟩
        · simp only [↓reduceIte, hc, o1, o2, s1, s3, s5, n10, nm0, nm1, aUo, aRk, upd_i]
        · simp only [↓reduceIte, hc, o1, o2, s2, s4, hm1, hm2, n10, aRi, aLp]
      · refine Or.inr ⟨p4 + 1, cf, cs, upd x cf.toNatClampNeg v1, upd h cf.toNatClampNeg v2, upd w cf.toNatClampNeg 1, upd r cf.toNatClampNeg (-1), f, k, ?_, ?_, by omega, by omega, (fun j hj => ⟨aGi _ _ hj, aGi _ _ hj, aGi _ _ hj, aGi _ _ hj⟩), (fun j _ => ⟨rfl, rfl⟩)⟩
        · simp only [↓reduceIte, hc, o1, o2, s1, s3, n10, nm0, nm1, aUo, aRk, upd_i]
        · refine ⟨?_, ?_⟩ <;> simp only [↓reduceIte, hc, o1, o2, s2, s4, hm1, hm2, n10, aRi, aLp]
    · skip
      rcases opt_rel (t := t) (ru := ru) hs hl (show 0 <= p6.toInt /\ p6.toInt <= 100 by omega) 64 (by decide) with ⟨s1, s2⟩ | ⟨v4, p8, s1, s2, s3, s4, s5, g5, g6⟩ | ⟨s1, s2, s3, s4, g5, g6⟩
      · refine Or.inl ⟨v1, v2, v3, 0, p6, ?_, ?_, by omega, by omega, hcf, by omega⟩
        · simp only [↓reduceIte, hc, o1, o2, o3, o4, o5, s1, n10, nm0, nm1, aUo, aRk, upd_i]
        · simp only [↓reduceIte, hc, o1, o2, o3, o4, o5, s2, hm1, hm2, n10, aRi, aLp]
      · refine Or.inl ⟨v1, v2, v3, v4, p8, ?_, ?_, by omega, by omega, hcf, by omega⟩
        · simp only [↓reduceIte, hc, o1, o2, o3, o4, o5, s1, s3, s5, n10, nm0, nm1, aUo, aRk, upd_i]
        · simp only [↓reduceIte, hc, o1, o2, o3, o4, o5, s2, s4, hm1, hm2, n10, aRi, aLp]
      · refine Or.inr ⟨p6 + 1, cf, cs, upd x cf.toNatClampNeg v1, upd h cf.toNatClampNeg v2, upd w cf.toNatClampNeg v3, upd r cf.toNatClampNeg (-1), f, k, ?_, ?_, by omega, by omega, (fun j hj => ⟨aGi _ _ hj, aGi _ _ hj, aGi _ _ hj, aGi _ _ hj⟩), (fun j _ => ⟨rfl, rfl⟩)⟩
        · simp only [↓reduceIte, hc, o1, o2, o3, o4, o5, s1, s3, n10, nm0, nm1, aUo, aRk, upd_i]
        · refine ⟨?_, ?_⟩ <;> simp only [↓reduceIte, hc, o1, o2, o3, o4, o5, s2, s4, hm1, hm2, n10, aRi, aLp]
    · have w1 : ¬ p4 + 1 = -1 := ne_m1 (by omega)
      refine Or.inr ⟨p4 + 1, cf, cs, upd x cf.toNatClampNeg v1, upd h cf.toNatClampNeg v2, upd w cf.toNatClampNeg (-1), r, f, k, ?_, ?_, by omega, by omega, (fun j hj => ⟨aGi _ _ hj, aGi _ _ hj, aGi _ _ hj, rfl⟩), (fun j _ => ⟨rfl, rfl⟩)⟩
      · simp only [↓reduceIte, hc, o1, o3, n10, aUo, upd_i]
      · refine ⟨?_, ?_⟩ <;> simp only [↓reduceIte, o2, o4, hm1, hm2, n10, aRi, aLp, pas_w w1]
  · have w1 : ¬ q = -1 := ne_m1 (by omega)
    have hc := hc cf x h
    refine Or.inr ⟨q, cf, cs, x, h, w, r, f, k, ?_, ?_, by omega, by omega, (fun j _ => ⟨rfl, rfl, rfl, rfl⟩), (fun j _ => ⟨rfl, rfl⟩)⟩
    · simp only [↓reduceIte, hc]
    · refine ⟨?_, ?_⟩ <;> simp only [↓reduceIte, hm2, n10, aRi, aLp, pas_w w1]
theorem line_s {l t a cf cs nf ns fr sd : Int32} {sg tx ru x h w r f k nF nS : Nat -> Int32} (hs : ∀ k : Nat, sg k = tx k &&& 255) (hl : l.toInt <= 80) (ha : 0 <= a.toInt /\ a.toInt <= 100) (hf : fr + nf = cf) (hd : sd + ns = cs) (hcf : 0 <= cf.toInt) (hcs : 0 <= cs.toInt) (h1 : aE7 a (stp l t) sg = 115) (h2 : ¬ 8 <= cs) (h3 : ¬ aE7 a (stp l t) sg = 102) : (∃ v1 v2 q : Int32, aCs a (stp l t) sg cf cs x h w r f k = (1, q, cf, cs + 1, x, h, w, r, upd f cs.toNatClampNeg v1, upd k cs.toNatClampNeg v2) /\ aGL fr sd 1 l t a (-1) nf ns tx nF nS ru = (q, -1, nf, ns + 1, nF, upd (upd nS (2 * ns).toNatClampNeg v1) (2 * ns + 1).toNatClampNeg v2) /\ a.toInt < q.toInt /\ q.toInt <= (stp l t).toInt /\ 0 <= cs.toInt /\ cs.toInt < 8) \/ (∃ (q cf' cs' : Int32) (x' h' w' r' f' k' : Nat -> Int32), aCs a (stp l t) sg cf cs x h w r f k = (0, q, cf', cs', x', h', w', r', f', k') /\ ((aGL fr sd 1 l t a (-1) nf ns tx nF nS ru).1 = q /\ (aGL fr sd 1 l t a (-1) nf ns tx nF nS ru).2.1 = q) /\ a.toInt <= q.toInt /\ q.toInt <= 101 /\ (∀ j : Nat, j ≠ cf.toNatClampNeg -> x' j = x j /\ h' j = h j /\ w' j = w j /\ r' j = r j) /\ (∀ j : Nat, j ≠ cs.toNatClampNeg -> f' j = f j /\ k' j = k j)) := by
  have l8 : Int32.toInt (8 : Int32) = 8 := by decide
  have hst := stp_r l t
  have d2 := mt (aAO _ _).mpr h2
  have b0 := hr_c h1 (by decide)
  have b1 := p1_r (p := a) (st := stp l t) ha.1 (by omega) b0
  rw [aCs, if_neg h3, j_X3_readLine_28, if_pos h1, if_neg h2, sk_in b0, aJG, aGL, hr_eq hs, if_neg h3, bBh, hr_eq hs, if_pos h1, hd, if_neg h2]
  rcases pair_rel (t := t) (ru := ru) hs hl (show 0 <= (a + 1).toInt /\ (a + 1).toInt <= 100 by omega) with ⟨v1, v2, p4, _, hc, hm1, hm2, g1, g2⟩ | ⟨q, g, _, hc, hm2, g1, g2⟩
  · have hc := hc cs f k (by omega)
    refine Or.inl ⟨v1, v2, p4, ?_, ?_, by omega, by omega, hcs, by omega⟩
    · simp only [↓reduceIte, hc, n10]
    · simp only [hm1, hm2]
  · have w1 : ¬ q = -1 := ne_m1 (by omega)
    have hc := hc cs f k
    refine Or.inr ⟨q, cf, cs, x, h, w, r, f, k, ?_, ?_, by omega, by omega, (fun j _ => ⟨rfl, rfl, rfl, rfl⟩), (fun j _ => ⟨rfl, rfl⟩)⟩
    · simp only [↓reduceIte, hc]
    · refine ⟨?_, ?_⟩ <;> simp only [hm2]
theorem line_rel {l t a cf cs nf ns fr sd : Int32} {sg tx ru x h w r f k nF nS : Nat -> Int32} (hs : ∀ k : Nat, sg k = tx k &&& 255) (hl : l.toInt <= 80) (ha : 0 <= a.toInt /\ a.toInt <= 100) (hf : fr + nf = cf) (hd : sd + ns = cs) (hcf : 0 <= cf.toInt) (hcs : 0 <= cs.toInt) : (∃ v1 v2 v3 v4 q : Int32, aCs a (stp l t) sg cf cs x h w r f k = (1, q, cf + 1, cs, upd x cf.toNatClampNeg v1, upd h cf.toNatClampNeg v2, upd w cf.toNatClampNeg v3, upd r cf.toNatClampNeg v4, f, k) /\ aGL fr sd 1 l t a (-1) nf ns tx nF nS ru = (q, -1, nf + 1, ns, upd (upd (upd (upd nF (4 * nf).toNatClampNeg v1) (4 * nf + 1).toNatClampNeg v2) (4 * nf + 2).toNatClampNeg v3) (4 * nf + 3).toNatClampNeg v4, nS) /\ a.toInt < q.toInt /\ q.toInt <= (stp l t).toInt /\ 0 <= cf.toInt /\ cf.toInt < 16) \/ (∃ v1 v2 q : Int32, aCs a (stp l t) sg cf cs x h w r f k = (1, q, cf, cs + 1, x, h, w, r, upd f cs.toNatClampNeg v1, upd k cs.toNatClampNeg v2) /\ aGL fr sd 1 l t a (-1) nf ns tx nF nS ru = (q, -1, nf, ns + 1, nF, upd (upd nS (2 * ns).toNatClampNeg v1) (2 * ns + 1).toNatClampNeg v2) /\ a.toInt < q.toInt /\ q.toInt <= (stp l t).toInt /\ 0 <= cs.toInt /\ cs.toInt < 8) \/ (∃ (q cf' cs' : Int32) (x' h' w' r' f' k' : Nat -> Int32), aCs a (stp l t) sg cf cs x h w r f k = (0, q, cf', cs', x', h', w', r', f', k') /\ ((aGL fr sd 1 l t a (-1) nf ns tx nF nS ru).1 = q /\ (aGL fr sd 1 l t a (-1) nf ns tx nF nS ru).2.1 = q) /\ a.toInt <= q.toInt /\ q.toInt <= 101 /\ (∀ j : Nat, j ≠ cf.toNatClampNeg -> x' j = x j /\ h' j = h j /\ w' j = w j /\ r' j = r j) /\ (∀ j : Nat, j ≠ cs.toNatClampNeg -> f' j = f j /\ k' j = k j)) := by
  have wa := ne_m1 ha.1
  by_cases h1 : aE7 a (stp l t) sg = 102
  · by_cases h2 : 16 <= cf
    · refine Or.inr (Or.inr ⟨a, cf, cs, x, h, w, r, f, k, ?_, ?_, by omega, by omega, (fun j _ => ⟨rfl, rfl, rfl, rfl⟩), (fun j _ => ⟨rfl, rfl⟩)⟩)
      · rw [aCs, if_pos h1, if_pos h2, j_X3_readLine_28, if_neg (by rw [h1]; decide)]
      · rw [aGL, hr_eq hs, if_pos h1, hf, if_pos h2, bBh, hr_eq hs, if_neg (by rw [h1]; decide), aYZ, fault_m]; exact ⟨rfl, rfl⟩
    · rcases line_f hs hl ha hf hd hcf hcs h1 h2 with q | q
      · exact Or.inl q
      · exact Or.inr (Or.inr q)
  · by_cases h2 : aE7 a (stp l t) sg = 115
    · by_cases h3 : 8 <= cs
      · refine Or.inr (Or.inr ⟨a, cf, cs, x, h, w, r, f, k, ?_, ?_, by omega, by omega, (fun j _ => ⟨rfl, rfl, rfl, rfl⟩), (fun j _ => ⟨rfl, rfl⟩)⟩)
        · rw [aCs, if_neg h1, j_X3_readLine_28, if_pos h2, if_pos h3]
        · rw [aGL, hr_eq hs, if_neg h1, bBh, hr_eq hs, if_pos h2, hd, if_pos h3, aYZ, fault_m]; exact ⟨rfl, rfl⟩
      · rcases line_s hs hl ha hf hd hcf hcs h2 h3 h1 with q | q
        · exact Or.inr (Or.inl q)
        · exact Or.inr (Or.inr q)
    · refine Or.inr (Or.inr ⟨a, cf, cs, x, h, w, r, f, k, ?_, ?_, by omega, by omega, (fun j _ => ⟨rfl, rfl, rfl, rfl⟩), (fun j _ => ⟨rfl, rfl⟩)⟩)
      · rw [aCs, if_neg h1, j_X3_readLine_28, if_neg h2]
      · rw [aGL, hr_eq hs, if_neg h1, bBh, hr_eq hs, if_neg h2, aYZ, fault_m]; exact ⟨rfl, rfl⟩
/-! orchard(): class against reference (printed by orch.py) -/
def BE (n : Int32) (x h w r mx mh mw mr : Nat -> Int32) : Prop := ∀ j : Nat, (j : Int) < n.toInt -> x j = mx j /\ h j = mh j /\ w j = mw j /\ r j = mr j
def BS (n : Int32) (f k mf mk : Nat -> Int32) : Prop := ∀ j : Nat, (j : Int) < n.toInt -> f j = mf j /\ k j = mk j
def AC (fr nf : Int32) (x h w r nF : Nat -> Int32) : Prop := ∀ j : Nat, (j : Int) < nf.toInt -> x (fr.toInt.toNat + j) = nF (4 * j) /\ h (fr.toInt.toNat + j) = nF (4 * j + 1) /\ w (fr.toInt.toNat + j) = nF (4 * j + 2) /\ r (fr.toInt.toNat + j) = nF (4 * j + 3)
def SC (sd ns : Int32) (f k nS : Nat -> Int32) : Prop := ∀ j : Nat, (j : Int) < ns.toInt -> f (sd.toInt.toNat + j) = nS (2 * j) /\ k (sd.toInt.toNat + j) = nS (2 * j + 1)
theorem cl_n (x : Int32) : x.toNatClampNeg = x.toInt.toNat := rfl
theorem q4 {x : Int32} (h : 0 <= x.toInt /\ x.toInt <= 16) : (4 * x).toNatClampNeg = 4 * x.toInt.toNat /\ (4 * x + 1).toNatClampNeg = 4 * x.toInt.toNat + 1 /\ (4 * x + 2).toNatClampNeg = 4 * x.toInt.toNat + 2 /\ (4 * x + 3).toNatClampNeg = 4 * x.toInt.toNat + 3 := by
  have l4 : Int32.toInt (4 : Int32) = 4 := by decide
  have l1 : Int32.toInt (1 : Int32) = 1 := by decide
  have l2 : Int32.toInt (2 : Int32) = 2 := by decide
  have l3 : Int32.toInt (3 : Int32) = 3 := by decide
  have m := ta_cmul 4 x l4 (by omega)
  have a1 := aAD (4 * x) 1 (by omega)
  have a2 := aAD (4 * x) 2 (by omega)
  have a3 := aAD (4 * x) 3 (by omega)
  rw [cl_n, cl_n, cl_n, cl_n]
  omega
theorem q2 {x : Int32} (h : 0 <= x.toInt /\ x.toInt <= 16) : (2 * x).toNatClampNeg = 2 * x.toInt.toNat /\ (2 * x + 1).toNatClampNeg = 2 * x.toInt.toNat + 1 := by
  have l1 : Int32.toInt (1 : Int32) = 1 := by decide
  have l2 : Int32.toInt (2 : Int32) = 2 := by decide
  have m := ta_cmul 2 x l2 (by omega)
  have a1 := aAD (2 * x) 1 (by omega)
  rw [cl_n, cl_n]
  omega
theorem AC_s {fr nf cf v1 v2 v3 v4 : Int32} {x h w r nF : Nat -> Int32} (ha : AC fr nf x h w r nF) (h0 : 0 <= fr.toInt) (h1 : 0 <= nf.toInt /\ nf.toInt < 16) (hc : cf.toInt = fr.toInt + nf.toInt) : AC fr (nf + 1) (upd x cf.toNatClampNeg v1) (upd h cf.toNatClampNeg v2) (upd w cf.toNatClampNeg v3) (upd r cf.toNatClampNeg v4) (upd (upd (upd (upd nF (4 * nf).toNatClampNeg v1) (4 * nf + 1).toNatClampNeg v2) (4 * nf + 2).toNatClampNeg v3) (4 * nf + 3).toNatClampNeg v4) := by
  intro j hj
  have l1 : Int32.toInt (1 : Int32) = 1 := by decide
  have e := aAD nf 1 (by omega)
  obtain ⟨e0, e1, e2, e3⟩ := q4 (x := nf) (by omega)
  have ec := cl_n cf
  rw [e0, e1, e2, e3]
  by_cases hn : j = nf.toInt.toNat
  · have i : fr.toInt.toNat + j = cf.toNatClampNeg := by omega
    rw [i, upd_i, upd_i, upd_i, upd_i, hn]
    refine ⟨?_, ?_, ?_, ?_⟩
    · rw [aGi _ _ (by omega), aGi _ _ (by omega), aGi _ _ (by omega), upd_i]
    · rw [aGi _ _ (by omega), aGi _ _ (by omega), upd_i]
    · rw [aGi _ _ (by omega), upd_i]
    · rw [upd_i]
  · have q := ha j (by omega)
    have i : fr.toInt.toNat + j ≠ cf.toNatClampNeg := by omega
    rw [aGi _ _ i, aGi _ _ i, aGi _ _ i, aGi _ _ i]
    refine ⟨?_, ?_, ?_, ?_⟩ <;> rw [aGi _ _ (by omega), aGi _ _ (by omega), aGi _ _ (by omega), aGi _ _ (by omega)]
    · exact q.1
    · exact q.2.1
    · exact q.2.2.1
    · exact q.2.2.2
theorem SC_s {sd ns cs v1 v2 : Int32} {f k nS : Nat -> Int32} (ha : SC sd ns f k nS) (h0 : 0 <= sd.toInt) (h1 : 0 <= ns.toInt /\ ns.toInt < 8) (hc : cs.toInt = sd.toInt + ns.toInt) : SC sd (ns + 1) (upd f cs.toNatClampNeg v1) (upd k cs.toNatClampNeg v2) (upd (upd nS (2 * ns).toNatClampNeg v1) (2 * ns + 1).toNatClampNeg v2) := by
  intro j hj
  have l1 : Int32.toInt (1 : Int32) = 1 := by decide
  have e := aAD ns 1 (by omega)
  obtain ⟨e0, e1⟩ := q2 (x := ns) (by omega)
  have ec := cl_n cs
  rw [e0, e1]
  by_cases hn : j = ns.toInt.toNat
  · have i : sd.toInt.toNat + j = cs.toNatClampNeg := by omega
    rw [i, upd_i, upd_i, hn]
    refine ⟨?_, ?_⟩
    · rw [aGi _ _ (by omega), upd_i]
    · rw [upd_i]
  · have q := ha j (by omega)
    have i : sd.toInt.toNat + j ≠ cs.toNatClampNeg := by omega
    rw [aGi _ _ i, aGi _ _ i]
    refine ⟨?_, ?_⟩ <;> rw [aGi _ _ (by omega), aGi _ _ (by omega)]
    · exact q.1
    · exact q.2
theorem BE_u {n i v1 v2 v3 v4 : Int32} {x h w r mx mh mw mr : Nat -> Int32} (hb : BE n x h w r mx mh mw mr) (h0 : n.toInt <= i.toInt) (h1 : 0 <= n.toInt) : BE n (upd x i.toNatClampNeg v1) (upd h i.toNatClampNeg v2) (upd w i.toNatClampNeg v3) (upd r i.toNatClampNeg v4) mx mh mw mr := by
  intro j hj
  have ec := cl_n i
  have i2 : j ≠ i.toNatClampNeg := by omega
  rw [aGi _ _ i2, aGi _ _ i2, aGi _ _ i2, aGi _ _ i2]
  exact hb j hj
theorem BS_u {n i v1 v2 : Int32} {f k mf mk : Nat -> Int32} (hb : BS n f k mf mk) (h0 : n.toInt <= i.toInt) (h1 : 0 <= n.toInt) : BS n (upd f i.toNatClampNeg v1) (upd k i.toNatClampNeg v2) mf mk := by
  intro j hj
  have ec := cl_n i
  have i2 : j ≠ i.toNatClampNeg := by omega
  rw [aGi _ _ i2, aGi _ _ i2]
  exact hb j hj
theorem cp105 {qO qQ : Nat -> Int32} {aG jC bY : Int32} {jD : Nat} {mLn oF rP dQ aJ aB bU oX : Int32} {nG oO qT qA : Nat -> Int32} {fr : Int32} {now x h w r : Nat -> Int32} (h0 : 0 <= fr.toInt) : ∀ k : Nat, fr.toInt + (k : Int) <= 16 ->
    Int32.toInt (itr (aEe qO qQ aG jC bY jD mLn oF rP dQ aJ aB bU oX nG oO qT qA) (fr, now, x, h, w, r) 0 k).1 = fr.toInt + (k : Int)
    /\ (∀ j : Nat, ((j : Int) < fr.toInt \/ fr.toInt + (k : Int) <= (j : Int)) -> (itr (aEe qO qQ aG jC bY jD mLn oF rP dQ aJ aB bU oX nG oO qT qA) (fr, now, x, h, w, r) 0 k).2.1 j = now j /\ (itr (aEe qO qQ aG jC bY jD mLn oF rP dQ aJ aB bU oX nG oO qT qA) (fr, now, x, h, w, r) 0 k).2.2.1 j = x j /\ (itr (aEe qO qQ aG jC bY jD mLn oF rP dQ aJ aB bU oX nG oO qT qA) (fr, now, x, h, w, r) 0 k).2.2.2.1 j = h j /\ (itr (aEe qO qQ aG jC bY jD mLn oF rP dQ aJ aB bU oX nG oO qT qA) (fr, now, x, h, w, r) 0 k).2.2.2.2.1 j = w j /\ (itr (aEe qO qQ aG jC bY jD mLn oF rP dQ aJ aB bU oX nG oO qT qA) (fr, now, x, h, w, r) 0 k).2.2.2.2.2 j = r j)
    /\ (∀ j : Nat, j < k -> (itr (aEe qO qQ aG jC bY jD mLn oF rP dQ aJ aB bU oX nG oO qT qA) (fr, now, x, h, w, r) 0 k).2.1 (fr.toInt.toNat + j) = 0 /\ (itr (aEe qO qQ aG jC bY jD mLn oF rP dQ aJ aB bU oX nG oO qT qA) (fr, now, x, h, w, r) 0 k).2.2.1 (fr.toInt.toNat + j) = qT (4 * j) /\ (itr (aEe qO qQ aG jC bY jD mLn oF rP dQ aJ aB bU oX nG oO qT qA) (fr, now, x, h, w, r) 0 k).2.2.2.1 (fr.toInt.toNat + j) = qT (4 * j + 1) /\ (itr (aEe qO qQ aG jC bY jD mLn oF rP dQ aJ aB bU oX nG oO qT qA) (fr, now, x, h, w, r) 0 k).2.2.2.2.1 (fr.toInt.toNat + j) = qT (4 * j + 2) /\ (itr (aEe qO qQ aG jC bY jD mLn oF rP dQ aJ aB bU oX nG oO qT qA) (fr, now, x, h, w, r) 0 k).2.2.2.2.2 (fr.toInt.toNat + j) = qT (4 * j + 3)) := by
  intro k
  induction k with
  | zero =>
    intro _
    refine ⟨?_, fun j _ => ⟨rfl, rfl, rfl, rfl, rfl⟩, fun j hj => absurd hj (by omega)⟩
    show fr.toInt = fr.toInt + ((0 : Nat) : Int)
    omega
  | succ k ih =>
    intro hk
    obtain ⟨i1, i2, i3⟩ := ih (by omega)
    rw [itr_s, aEe]
    generalize itr (aEe qO qQ aG jC bY jD mLn oF rP dQ aJ aB bU oX nG oO qT qA) (fr, now, x, h, w, r) 0 k = s at i1 i2 i3 ⊢
    have l1 : Int32.toInt (1 : Int32) = 1 := by decide
    have es := aAD s.1 1 (by omega)
    have ec := cl_n s.1
    have en : Int32.toInt (nI (0 + k)) = ((0 + k : Nat) : Int) := nI_toInt (by omega)
    obtain ⟨e0, e1, e2, e3⟩ := q4 (x := nI (0 + k)) (by omega)
    have en2 : (Int32.toInt (nI (0 + k))).toNat = k := by omega
    rw [en2] at e0 e1 e2 e3
    rw [e0, e1, e2, e3]
    refine ⟨?_, fun j hj => ?_, fun j hj => ?_⟩
    · show Int32.toInt (s.1 + 1) = _
      omega
    · show upd s.2.1 _ _ j = _ /\ upd s.2.2.1 _ _ j = _ /\ upd s.2.2.2.1 _ _ j = _ /\ upd s.2.2.2.2.1 _ _ j = _ /\ upd s.2.2.2.2.2 _ _ j = _
      have i : j ≠ s.1.toNatClampNeg := by omega
      rw [aGi _ _ i, aGi _ _ i, aGi _ _ i, aGi _ _ i, aGi _ _ i]
      exact i2 j (by omega)
    · show upd s.2.1 _ _ _ = _ /\ upd s.2.2.1 _ _ _ = _ /\ upd s.2.2.2.1 _ _ _ = _ /\ upd s.2.2.2.2.1 _ _ _ = _ /\ upd s.2.2.2.2.2 _ _ _ = _
      by_cases hn : j = k
      · have i : fr.toInt.toNat + j = s.1.toNatClampNeg := by omega
        rw [i, upd_i, upd_i, upd_i, upd_i, upd_i, hn]
        exact ⟨rfl, rfl, rfl, rfl, rfl⟩
      · have i : fr.toInt.toNat + j ≠ s.1.toNatClampNeg := by omega
        rw [aGi _ _ i, aGi _ _ i, aGi _ _ i, aGi _ _ i, aGi _ _ i]
        exact i3 j (by omega)
theorem cp215 {qO qQ : Nat -> Int32} {bT jC bY : Int32} {jD : Nat} {mLn oF rP dQ aJ aB bU oX : Int32} {qG m_x gR pW qR qT qA : Nat -> Int32} {sd : Int32} {f k0 : Nat -> Int32} (h0 : 0 <= sd.toInt) : ∀ k : Nat, sd.toInt + (k : Int) <= 8 ->
    Int32.toInt (itr (aIz qO qQ bT jC bY jD mLn oF rP dQ aJ aB bU oX qG m_x gR pW qR qT qA) (sd, f, k0) 0 k).1 = sd.toInt + (k : Int)
    /\ (∀ j : Nat, (j : Int) < sd.toInt -> (itr (aIz qO qQ bT jC bY jD mLn oF rP dQ aJ aB bU oX qG m_x gR pW qR qT qA) (sd, f, k0) 0 k).2.1 j = f j /\ (itr (aIz qO qQ bT jC bY jD mLn oF rP dQ aJ aB bU oX qG m_x gR pW qR qT qA) (sd, f, k0) 0 k).2.2 j = k0 j)
    /\ (∀ j : Nat, j < k -> (itr (aIz qO qQ bT jC bY jD mLn oF rP dQ aJ aB bU oX qG m_x gR pW qR qT qA) (sd, f, k0) 0 k).2.1 (sd.toInt.toNat + j) = qA (2 * j) /\ (itr (aIz qO qQ bT jC bY jD mLn oF rP dQ aJ aB bU oX qG m_x gR pW qR qT qA) (sd, f, k0) 0 k).2.2 (sd.toInt.toNat + j) = qA (2 * j + 1)) := by
  intro k
  induction k with
  | zero =>
    intro _
    refine ⟨?_, fun j _ => ⟨rfl, rfl⟩, fun j hj => absurd hj (by omega)⟩
    show sd.toInt = sd.toInt + ((0 : Nat) : Int)
    omega
  | succ k ih =>
    intro hk
    obtain ⟨i1, i2, i3⟩ := ih (by omega)
    rw [itr_s, aIz]
    generalize itr (aIz qO qQ bT jC bY jD mLn oF rP dQ aJ aB bU oX qG m_x gR pW qR qT qA) (sd, f, k0) 0 k = s at i1 i2 i3 ⊢
    have l1 : Int32.toInt (1 : Int32) = 1 := by decide
    have es := aAD s.1 1 (by omega)
    have ec := cl_n s.1
    have en : Int32.toInt (nI (0 + k)) = ((0 + k : Nat) : Int) := nI_toInt (by omega)
    obtain ⟨e0, e1⟩ := q2 (x := nI (0 + k)) (by omega)
    have en2 : (Int32.toInt (nI (0 + k))).toNat = k := by omega
    rw [en2] at e0 e1
    rw [e0, e1]
    refine ⟨?_, fun j hj => ?_, fun j hj => ?_⟩
    · show Int32.toInt (s.1 + 1) = _
      omega
    · show upd s.2.1 _ _ j = _ /\ upd s.2.2 _ _ j = _
      have i : j ≠ s.1.toNatClampNeg := by omega
      rw [aGi _ _ i, aGi _ _ i]
      exact i2 j (by omega)
    · show upd s.2.1 _ _ _ = _ /\ upd s.2.2 _ _ _ = _
      by_cases hn : j = k
      · have i : sd.toInt.toNat + j = s.1.toNatClampNeg := by omega
        rw [i, upd_i, upd_i, hn]
        exact ⟨rfl, rfl⟩
      · have i : sd.toInt.toNat + j ≠ s.1.toNatClampNeg := by omega
        rw [aGi _ _ i, aGi _ _ i]
        exact i3 j (by omega)
def ORB (l fr sd und came : Int32) (now mx mh mw mr mf mk : Nat -> Int32) (c : Int32 × Int32 × Int32 × Int32 × (Nat -> Int32) × (Nat -> Int32) × (Nat -> Int32) × (Nat -> Int32) × (Nat -> Int32) × (Nat -> Int32)) (ans fr' sd' und' came' : Int32) (now' mx' mh' mw' mr' mf' mk' : Nat -> Int32) : Prop :=
  ((c.1 = -1 \/ ¬ c.2.1 = l) /\ ans = -1 - c.2.1 /\ fr' = fr /\ sd' = sd /\ und' = und /\ came' = came /\ now' = now /\ mx' = mx /\ mh' = mh /\ mw' = mw /\ mr' = mr /\ mf' = mf /\ mk' = mk /\ BE fr c.2.2.2.2.1 c.2.2.2.2.2.1 c.2.2.2.2.2.2.1 c.2.2.2.2.2.2.2.1 mx mh mw mr /\ BS sd c.2.2.2.2.2.2.2.2.1 c.2.2.2.2.2.2.2.2.2 mf mk)
  \/ (¬ c.1 = -1 /\ ¬ c.1 <= 0 /\ c.2.1 = l /\ ans = c.1 /\ fr' = c.2.2.1 /\ sd' = c.2.2.2.1 /\ und' = 0 /\ came' = came + 1 /\ BE fr' c.2.2.2.2.1 c.2.2.2.2.2.1 c.2.2.2.2.2.2.1 c.2.2.2.2.2.2.2.1 mx' mh' mw' mr' /\ BS sd' c.2.2.2.2.2.2.2.2.1 c.2.2.2.2.2.2.2.2.2 mf' mk' /\ fr.toInt <= fr'.toInt /\ fr'.toInt <= 16 /\ (∀ j : Nat, ((j : Int) < fr.toInt \/ fr'.toInt <= (j : Int)) -> now' j = now j) /\ (∀ j : Nat, fr.toInt <= (j : Int) -> (j : Int) < fr'.toInt -> now' j = 0))
theorem i32 {a b : Int32} (h : a.toInt = b.toInt) : a = b := (zJ _ _).mpr h
theorem or_bad {P Q : Int32 -> Int32 -> Int32 -> Int32 -> Int32 -> Nat -> Int32 -> Int32 -> Int32 -> Int32 -> Int32 -> Int32 -> Int32 -> Int32 -> (Nat -> Int32) -> (Nat -> Int32) -> (Nat -> Int32) -> (Nat -> Int32) -> (Nat -> Int32) -> (Nat -> Int32) -> (Nat -> Int32) -> (Nat -> Int32) -> (Nat -> Int32) -> Prop} {l fr sd und came : Int32} {tx ru now mx mh mw mr mf mk : Nat -> Int32} {c : Int32 × Int32 × Int32 × Int32 × (Nat -> Int32) × (Nat -> Int32) × (Nat -> Int32) × (Nat -> Int32) × (Nat -> Int32) × (Nat -> Int32)} {nf ns q wr : Int32} {nF nS : Nat -> Int32} (hw : ¬ wr = -1) (hc : c.2.1 = q /\ wr = q /\ (c.1 = -1 \/ ¬ c.2.1 = l)) (hbe : BE fr c.2.2.2.2.1 c.2.2.2.2.2.1 c.2.2.2.2.2.2.1 c.2.2.2.2.2.2.2.1 mx mh mw mr) (hbs : BS sd c.2.2.2.2.2.2.2.2.1 c.2.2.2.2.2.2.2.2.2 mf mk) (h : bBT P tx ru fr sd 0 0 1 l 76 q wr nf ns und came now mx mh mw mr mf mk nF nS) (hq : (∀ (ans fr' sd' ty th : Int32) (rd : Nat) (le to at' wr' nf' ns' und' came' : Int32) (now' mx' mh' mw' mr' mf' mk' nF' nS' : Nat -> Int32), P ans fr' sd' ty th rd le to at' wr' nf' ns' und' came' now' mx' mh' mw' mr' mf' mk' nF' nS' -> ty = 0 -> ORB l fr sd und came now mx mh mw mr mf mk (c) ans fr' sd' und' came' now' mx' mh' mw' mr' mf' mk' -> Q ans fr' sd' ty th rd le to at' wr' nf' ns' und' came' now' mx' mh' mw' mr' mf' mk' nF' nS')) : bBT Q tx ru fr sd 0 0 1 l 76 q wr nf ns und came now mx mh mw mr mf mk nF nS := by
  unfold bBT at h ⊢
  refine du_X10_fine h ?_
  intro h
  refine And.intro (fun c1 => absurd (fine_w hw) c1) (fun c1 => ?_)
  have h := And.right h c1
  refine hq _ _ _ _ _ _ _ _ _ _ _ _ _ _ _ _ _ _ _ _ _ _ _ h rfl (Or.inl ⟨hc.2.2, ?_, rfl, rfl, rfl, rfl, rfl, rfl, rfl, rfl, rfl, rfl, rfl, hbe, hbs⟩)
  rw [hc.1, hc.2.1]
theorem or_end {P Q : Int32 -> Int32 -> Int32 -> Int32 -> Int32 -> Nat -> Int32 -> Int32 -> Int32 -> Int32 -> Int32 -> Int32 -> Int32 -> Int32 -> (Nat -> Int32) -> (Nat -> Int32) -> (Nat -> Int32) -> (Nat -> Int32) -> (Nat -> Int32) -> (Nat -> Int32) -> (Nat -> Int32) -> (Nat -> Int32) -> (Nat -> Int32) -> Prop} {l fr sd und came : Int32} {tx ru now mx mh mw mr mf mk : Nat -> Int32} {c : Int32 × Int32 × Int32 × Int32 × (Nat -> Int32) × (Nat -> Int32) × (Nat -> Int32) × (Nat -> Int32) × (Nat -> Int32) × (Nat -> Int32)} {n : Nat} {nf ns q wr : Int32} {nF nS : Nat -> Int32} (hw : ¬ wr = -1) (hc : c.2.1 = q /\ wr = q /\ (c.1 = -1 \/ ¬ c.2.1 = l)) (hbe : BE fr c.2.2.2.2.1 c.2.2.2.2.2.1 c.2.2.2.2.2.2.1 c.2.2.2.2.2.2.2.1 mx mh mw mr) (hbs : BS sd c.2.2.2.2.2.2.2.2.1 c.2.2.2.2.2.2.2.2.2 mf mk) (h : aU1 P tx ru n 0 fr sd 0 0 1 l 76 q wr nf ns und came now mx mh mw mr mf mk nF nS) (hq : (∀ (ans fr' sd' ty th : Int32) (rd : Nat) (le to at' wr' nf' ns' und' came' : Int32) (now' mx' mh' mw' mr' mf' mk' nF' nS' : Nat -> Int32), P ans fr' sd' ty th rd le to at' wr' nf' ns' und' came' now' mx' mh' mw' mr' mf' mk' nF' nS' -> ty = 0 -> ORB l fr sd und came now mx mh mw mr mf mk (c) ans fr' sd' und' came' now' mx' mh' mw' mr' mf' mk' -> Q ans fr' sd' ty th rd le to at' wr' nf' ns' und' came' now' mx' mh' mw' mr' mf' mk' nF' nS')) : aU1 Q tx ru n 0 fr sd 0 0 1 l 76 q wr nf ns und came now mx mh mw mr mf mk nF nS := by
  cases n with
  | zero => exact False.elim h
  | succ n =>
    refine And.intro (fun _ => ?_) (fun c1 => absurd rfl c1)
    have h := And.left h rfl
    unfold ws_X10_orchard_70 at h ⊢
    refine And.intro (fun c2 => ?_) (fun c2 => ?_)
    · exact or_bad hw hc hbe hbs (And.left h c2) hq
    · refine du_X10_fault (And.right h c2) ?_
      intro h
      rw [fault_w hw] at h ⊢
      exact or_bad hw hc hbe hbs h hq
theorem or_good {P Q : Int32 -> Int32 -> Int32 -> Int32 -> Int32 -> Nat -> Int32 -> Int32 -> Int32 -> Int32 -> Int32 -> Int32 -> Int32 -> Int32 -> (Nat -> Int32) -> (Nat -> Int32) -> (Nat -> Int32) -> (Nat -> Int32) -> (Nat -> Int32) -> (Nat -> Int32) -> (Nat -> Int32) -> (Nat -> Int32) -> (Nat -> Int32) -> Prop} {l fr sd und came : Int32} {sg tx ru now mx mh mw mr mf mk : Nat -> Int32} {c : Int32 × Int32 × Int32 × Int32 × (Nat -> Int32) × (Nat -> Int32) × (Nat -> Int32) × (Nat -> Int32) × (Nat -> Int32) × (Nat -> Int32)} {n : Nat} {nf ns cf cs q : Int32} {nF nS x h w r f k : Nat -> Int32} (hs : ∀ k : Nat, sg k = tx k &&& 255) (hl : 0 <= l.toInt /\ l.toInt <= 80) (hfr : 0 <= fr.toInt /\ fr.toInt <= 16) (hsd : 0 <= sd.toInt /\ sd.toInt <= 8) (hc : c = (nf + ns, q, cf, cs, x, h, w, r, f, k)) (hq0 : 0 <= q.toInt /\ q.toInt <= l.toInt) (hnf : 0 <= nf.toInt) (hns : 0 <= ns.toInt) (hln : 0 < nf.toInt + ns.toInt) (hcf : cf.toInt = fr.toInt + nf.toInt /\ cf.toInt <= 16) (hcs : cs.toInt = sd.toInt + ns.toInt /\ cs.toInt <= 8)
    (hac : AC fr nf x h w r nF) (hsc : SC sd ns f k nS) (hbe : BE fr x h w r mx mh mw mr) (hbs : BS sd f k mf mk) (h : aU1 P tx ru n 0 fr sd 0 0 1 l 76 q (-1) nf ns und came now mx mh mw mr mf mk nF nS) (hq : (∀ (ans fr' sd' ty th : Int32) (rd : Nat) (le to at' wr' nf' ns' und' came' : Int32) (now' mx' mh' mw' mr' mf' mk' nF' nS' : Nat -> Int32), P ans fr' sd' ty th rd le to at' wr' nf' ns' und' came' now' mx' mh' mw' mr' mf' mk' nF' nS' -> ty = 0 -> ORB l fr sd und came now mx mh mw mr mf mk (c) ans fr' sd' und' came' now' mx' mh' mw' mr' mf' mk' -> Q ans fr' sd' ty th rd le to at' wr' nf' ns' und' came' now' mx' mh' mw' mr' mf' mk' nF' nS')) : aU1 Q tx ru n 0 fr sd 0 0 1 l 76 q (-1) nf ns und came now mx mh mw mr mf mk nF nS := by
  have l0 : Int32.toInt (0 : Int32) = 0 := by decide
  have lm : Int32.toInt (-1 : Int32) = -1 := by decide
  have ea := aAD nf ns (by omega)
  have k1 : ¬ nf + ns = -1 := ne_m1 (by omega)
  cases n with
  | zero => exact False.elim h
  | succ n =>
    refine And.intro (fun _ => ?_) (fun c1 => absurd rfl c1)
    have h := And.left h rfl
    unfold ws_X10_orchard_70 at h ⊢
    refine And.intro (fun c2 => ?_) (fun c2 => ?_)
    · have h := And.left h c2
      have d2 := (aAO _ _).mp c2
      obtain rfl : q = l := i32 (by omega)
      unfold bBT at h ⊢
      refine du_X10_fine h ?_
      intro h
      refine And.intro (fun c3 => ?_) (fun c3 => absurd c3 fine_m)
      have h := And.left h c3
      obtain ⟨n1, h⟩ := h
      refine ⟨n1, dl_X10_orchard_105 (a := (fr, now, mx, mh, mw, mr)) (i := 0) (by decide) ?_ n1 0 0 (by decide) (Nat.zero_le _) h⟩
      intro c9 s9 ec es h
      obtain ⟨n2, h⟩ := h
      refine ⟨n2, dl_X10_orchard_215 (a := (sd, mf, mk)) (i := 0) (by decide) ?_ n2 0 0 (by decide) (Nat.zero_le _) h⟩
      intro c8 s8 ec8 es8 h
      refine ae ?_
      have h := h _ rfl
      have z1 : (Int32.toInt nf - ((0 : Nat) : Int)).toNat = nf.toInt.toNat := by omega
      have z2 : (Int32.toInt ns - ((0 : Nat) : Int)).toNat = ns.toInt.toNat := by omega
      rw [z1] at es
      rw [z2] at es8
      obtain ⟨a1, a2, a3⟩ := cp105 (fr := fr) (now := now) (x := mx) (h := mh) (w := mw) (r := mr) (qT := nF) hfr.1 nf.toInt.toNat (by omega)
      rw [<- es] at a1 a2 a3
      obtain ⟨b1, b2, b3⟩ := cp215 (sd := sd) (f := mf) (k0 := mk) (qA := nS) hsd.1 ns.toInt.toNat (by omega)
      rw [<- es8] at b1 b2 b3
      have f1 : s9.1 = cf := i32 (by omega)
      have f2 : s8.1 = cs := i32 (by omega)
      refine hq _ _ _ _ _ _ _ _ _ _ _ _ _ _ _ _ _ _ _ _ _ _ _ h rfl (Or.inr ?_)
      rw [hc]
      refine ⟨k1, fun c4 => by have c5 : nf + ns <= 0 := c4; have := (aAO _ _).mp c5; omega, rfl, rfl, f1, f2, rfl, rfl, ?_, ?_, by omega, by omega, fun j hj => (a2 j (by omega)).1, fun j h1 h2 => ?_⟩
      · intro j hj
        by_cases hj2 : (j : Int) < fr.toInt
        · obtain ⟨_, u1, u2, u3, u4⟩ := a2 j (by omega)
          rw [u1, u2, u3, u4]
          exact hbe j hj2
        · obtain ⟨_, u1, u2, u3, u4⟩ := a3 (j - fr.toInt.toNat) (by omega)
          have v := hac (j - fr.toInt.toNat) (by omega)
          have ej : fr.toInt.toNat + (j - fr.toInt.toNat) = j := by omega
          rw [ej] at u1 u2 u3 u4 v
          rw [u1, u2, u3, u4]
          exact v
      · intro j hj
        by_cases hj2 : (j : Int) < sd.toInt
        · obtain ⟨u1, u2⟩ := b2 j hj2
          rw [u1, u2]
          exact hbs j hj2
        · obtain ⟨u1, u2⟩ := b3 (j - sd.toInt.toNat) (by omega)
          have v := hsc (j - sd.toInt.toNat) (by omega)
          have ej : sd.toInt.toNat + (j - sd.toInt.toNat) = j := by omega
          rw [ej] at u1 u2 v
          rw [u1, u2]
          exact v
      · have u := (a3 (j - fr.toInt.toNat) (by omega)).1
        have ej : fr.toInt.toNat + (j - fr.toInt.toNat) = j := by omega
        rw [ej] at u
        exact u
    · refine du_X10_fault (And.right h c2) ?_
      intro h
      have d2 := mt (aAO _ _).mpr c2
      rw [fault_m] at h ⊢
      have hbe' : BE fr c.2.2.2.2.1 c.2.2.2.2.2.1 c.2.2.2.2.2.2.1 c.2.2.2.2.2.2.2.1 mx mh mw mr := by rw [hc]; exact hbe
      have hbs' : BS sd c.2.2.2.2.2.2.2.2.1 c.2.2.2.2.2.2.2.2.2 mf mk := by rw [hc]; exact hbs
      refine or_bad (c := c) (ne_m1 hq0.1) ⟨by rw [hc], rfl, Or.inr ?_⟩ hbe' hbs' h hq
      rw [hc]
      exact fun e => by have := congrArg Int32.toInt (show q = l from e); omega
set_option maxHeartbeats 1000000 in
theorem or_loop {P Q : Int32 -> Int32 -> Int32 -> Int32 -> Int32 -> Nat -> Int32 -> Int32 -> Int32 -> Int32 -> Int32 -> Int32 -> Int32 -> Int32 -> (Nat -> Int32) -> (Nat -> Int32) -> (Nat -> Int32) -> (Nat -> Int32) -> (Nat -> Int32) -> (Nat -> Int32) -> (Nat -> Int32) -> (Nat -> Int32) -> (Nat -> Int32) -> Prop} {l fr sd und came : Int32} {sg tx ru now mx mh mw mr mf mk : Nat -> Int32} {d : Int32 -> Int32 -> Int32 -> Int32 -> (Nat -> Int32) -> (Nat -> Int32) -> (Nat -> Int32) -> (Nat -> Int32) -> (Nat -> Int32) -> (Nat -> Int32) -> Int32 × Int32 × Int32 × Int32 × (Nat -> Int32) × (Nat -> Int32) × (Nat -> Int32) × (Nat -> Int32) × (Nat -> Int32) × (Nat -> Int32)} (hs : ∀ k : Nat, sg k = tx k &&& 255) (hl : 0 <= l.toInt /\ l.toInt <= 80) (hfr : 0 <= fr.toInt /\ fr.toInt <= 16) (hsd : 0 <= sd.toInt /\ sd.toInt <= 8) : ∀ (n m : Nat) (x2 a cf cs nf ns : Int32) (x h w r f k nF nS : Nat -> Int32), 1 <= x2.toInt -> 2 * (x2.toInt - 1) <= a.toInt -> 0 <= a.toInt -> a.toInt <= 77 -> 77 - x2.toInt < (m : Int) -> fr + nf = cf -> sd + ns = cs -> x2.toInt - 1 = nf.toInt + ns.toInt -> 0 <= nf.toInt -> 0 <= ns.toInt -> cf.toInt = fr.toInt + nf.toInt -> cs.toInt = sd.toInt + ns.toInt -> cf.toInt <= 16 -> cs.toInt <= 8 -> AC fr nf x h w r nF -> SC sd ns f k nS -> BE fr x h w r mx mh mw mr -> BS sd f k mf mk ->
    aU1 P tx ru n 1 fr sd 0 0 1 l 76 a (-1) nf ns und came now mx mh mw mr mf mk nF nS -> (∀ (ans fr' sd' ty th : Int32) (rd : Nat) (le to at' wr' nf' ns' und' came' : Int32) (now' mx' mh' mw' mr' mf' mk' nF' nS' : Nat -> Int32), P ans fr' sd' ty th rd le to at' wr' nf' ns' und' came' now' mx' mh' mw' mr' mf' mk' nF' nS' -> ty = 0 -> ORB l fr sd und came now mx mh mw mr mf mk (flp (fs_X3_readLines_18 (fun o0 o1 o2 o3 o4 o5 o6 o7 o8 o9 => (o0, o1, o2, o3, o4, o5, o6, o7, o8, o9)) (stp l 76) sg fr sd) d m x2 a cf cs x h w r f k) ans fr' sd' und' came' now' mx' mh' mw' mr' mf' mk' -> Q ans fr' sd' ty th rd le to at' wr' nf' ns' und' came' now' mx' mh' mw' mr' mf' mk' nF' nS') -> aU1 Q tx ru n 1 fr sd 0 0 1 l 76 a (-1) nf ns und came now mx mh mw mr mf mk nF nS := by
  have l1 : Int32.toInt (1 : Int32) = 1 := by decide
  have l76 : Int32.toInt (76 : Int32) = 76 := by decide
  have hst := stp_r l 76
  intro n
  induction n with
  | zero => intro m x2 a cf cs nf ns x h w r f k nF nS _ _ _ _ _ _ _ _ _ _ _ _ _ _ _ _ _ _ h9; exact False.elim h9
  | succ n ih =>
    intro m x2 a cf cs nf ns x h w r f k nF nS y1 y2 y3 y4 y5 hf hd y6 y7 y8 y9 y10 y11 y12 hac hsc hbe hbs h9 hq
    cases m with
    | zero => exfalso; omega
    | succ m =>
      have n76 : ¬ 76 < x2 := fun c => by have := (aAd _ _).mp c; omega
      rw [flp_s, fs_X3_readLines_18, if_neg n76] at hq
      have h9 : ws_X10_orchard_45 P (aU1 P tx ru n) tx ru 1 fr sd 0 0 1 l 76 a (-1) nf ns und came now mx mh mw mr mf mk nF nS := h9
      show ws_X10_orchard_45 Q (aU1 Q tx ru n) tx ru 1 fr sd 0 0 1 l 76 a (-1) nf ns und came now mx mh mw mr mf mk nF nS
      unfold ws_X10_orchard_45 at h9 ⊢
      refine And.intro (fun c1 => absurd c1 n10) (fun c1 => ?_)
      have h9 := And.right h9 c1
      refine du_X10_fine h9 ?_
      intro h9
      refine And.intro (fun c2 => absurd c2 fine_m) (fun c2 => ?_)
      have h9 := And.right h9 c2
      refine du_X10_readLine h9 ?_
      intro h9
      refine du_X10_passes h9 ?_
      intro h9
      rcases line_rel (x := x) (h := h) (w := w) (r := r) (f := f) (k := k) (nF := nF) (nS := nS) (ru := ru) (t := 76) hs hl.2 (show 0 <= a.toInt /\ a.toInt <= 100 by omega) hf hd (by omega) (by omega) with ⟨v1, v2, v3, v4, q, hC, hM, g1, g2, g3, g4⟩ | ⟨v1, v2, q, hC, hM, g1, g2, g3, g4⟩ | ⟨q, cf', cs', x', h', w', r', f', k', hC, hM, g1, g2, g3, g4⟩
      · rw [hM] at h9 ⊢
        rw [hC] at hq
        dsimp only at h9 hq ⊢
        rw [if_neg n10] at hq
        have hf2 : fr + (nf + 1) = cf + 1 := by rw [<- Int32.add_assoc, hf]
        have en := aAD nf 1 (by omega)
        have ecf := aAD cf 1 (by omega)
        by_cases c3 : aE7 q (stp l 76) sg = 59
        · have e3 := tk_y c3
          have b2 := hr_c c3 (by decide)
          have b3 := p1_r (p := q) (st := stp l 76) (by omega) (by omega) b2
          have ex := aAD x2 1 (by omega)
          rw [pas_eq hs, e3] at h9 ⊢
          rw [e3] at hq
          dsimp only at h9 hq ⊢
          rw [if_neg n10] at hq
          exact ih m (x2 + 1) (q + 1) (cf + 1) cs (nf + 1) ns (upd x cf.toNatClampNeg v1) (upd h cf.toNatClampNeg v2) (upd w cf.toNatClampNeg v3) (upd r cf.toNatClampNeg v4) f k _ _ (by omega) (by omega) (by omega) (by omega) (by omega) hf2 hd (by omega) (by omega) (by omega) (by omega) (by omega) (by omega) (by omega) (AC_s hac hfr.1 (by omega) y9) hsc (BE_u hbe (by omega) hfr.1) hbs h9 hq
        · have e3 := tk_n c3
          have es : nf + 1 + ns = x2 := i32 (by have := aAD (nf + 1) ns (by omega); omega)
          rw [pas_eq hs, e3] at h9 ⊢
          rw [e3] at hq
          dsimp only at h9 hq ⊢
          rw [if_pos rfl] at hq
          exact or_good (c := (x2, q, (cf + 1), cs, (upd x cf.toNatClampNeg v1), (upd h cf.toNatClampNeg v2), (upd w cf.toNatClampNeg v3), (upd r cf.toNatClampNeg v4), f, k)) hs hl hfr hsd (by rw [es]) (by omega) (by omega) (by omega) (by omega) (by omega) (by omega) (AC_s hac hfr.1 (by omega) y9) hsc (BE_u hbe (by omega) hfr.1) hbs h9 hq
      · rw [hM] at h9 ⊢
        rw [hC] at hq
        dsimp only at h9 hq ⊢
        rw [if_neg n10] at hq
        have hd2 : sd + (ns + 1) = cs + 1 := by rw [<- Int32.add_assoc, hd]
        have en := aAD ns 1 (by omega)
        have ecf := aAD cs 1 (by omega)
        by_cases c3 : aE7 q (stp l 76) sg = 59
        · have e3 := tk_y c3
          have b2 := hr_c c3 (by decide)
          have b3 := p1_r (p := q) (st := stp l 76) (by omega) (by omega) b2
          have ex := aAD x2 1 (by omega)
          rw [pas_eq hs, e3] at h9 ⊢
          rw [e3] at hq
          dsimp only at h9 hq ⊢
          rw [if_neg n10] at hq
          exact ih m (x2 + 1) (q + 1) cf (cs + 1) nf (ns + 1) x h w r (upd f cs.toNatClampNeg v1) (upd k cs.toNatClampNeg v2) _ _ (by omega) (by omega) (by omega) (by omega) (by omega) hf hd2 (by omega) (by omega) (by omega) (by omega) (by omega) (by omega) (by omega) hac (SC_s hsc hsd.1 (by omega) y10) hbe (BS_u hbs (by omega) hsd.1) h9 hq
        · have e3 := tk_n c3
          have es : nf + (ns + 1) = x2 := i32 (by have := aAD nf (ns + 1) (by omega); omega)
          rw [pas_eq hs, e3] at h9 ⊢
          rw [e3] at hq
          dsimp only at h9 hq ⊢
          rw [if_pos rfl] at hq
          exact or_good (c := (x2, q, cf, (cs + 1), x, h, w, r, (upd f cs.toNatClampNeg v1), (upd k cs.toNatClampNeg v2))) hs hl hfr hsd (by rw [es]) (by omega) (by omega) (by omega) (by omega) (by omega) (by omega) hac (SC_s hsc hsd.1 (by omega) y10) hbe (BS_u hbs (by omega) hsd.1) h9 hq
      · have wq : ¬ q = -1 := ne_m1 (by omega)
        rw [hM.1, hM.2] at h9 ⊢
        rw [hC] at hq
        dsimp only at hq
        rw [if_pos rfl] at hq
        rw [pas_w wq] at h9 ⊢
        dsimp only at h9 ⊢
        have ecf := cl_n cf
        have ecs := cl_n cs
        refine or_end (c := (-1, q, cf', cs', x', h', w', r', f', k')) wq ⟨rfl, rfl, Or.inl rfl⟩ ?_ ?_ h9 hq
        · intro j hj
          obtain ⟨u1, u2, u3, u4⟩ := g3 j (by omega)
          show x' j = _ /\ h' j = _ /\ w' j = _ /\ r' j = _
          rw [u1, u2, u3, u4]
          exact hbe j hj
        · intro j hj
          obtain ⟨u1, u2⟩ := g4 j (by omega)
          show f' j = _ /\ k' j = _
          rw [u1, u2]
          exact hbs j hj
/-! orchard(): what class and reference have behind it (printed by orch2.py) -/
def ORS (fr sd und mund came : Int32) (isK now : Nat -> Int32) (o : Int32 × Int32 × Int32 × Int32 × Int32 × Int32 × Int32 × Int32 × (Nat -> Int32) × (Nat -> Int32) × (Nat -> Int32) × (Nat -> Int32) × (Nat -> Int32) × (Nat -> Int32) × Int32 × (Nat -> Int32)) (ans fr' sd' und' came' : Int32) (now' mx' mh' mw' mr' mf' mk' : Nat -> Int32) : Prop :=
  ans = o.1 /\ o.2.1 = 0 /\ fr' = o.2.2.2.2.1 /\ sd' = o.2.2.2.2.2.1 /\ BE fr' o.2.2.2.2.2.2.2.2.1 o.2.2.2.2.2.2.2.2.2.1 o.2.2.2.2.2.2.2.2.2.2.1 o.2.2.2.2.2.2.2.2.2.2.2.1 mx' mh' mw' mr' /\ BS sd' o.2.2.2.2.2.2.2.2.2.2.2.2.1 o.2.2.2.2.2.2.2.2.2.2.2.2.2.1 mf' mk' /\
  ((o.2.2.2.2.2.2.2.2.2.2.2.2.2.2.1 = und /\ o.2.2.2.2.2.2.2.2.2.2.2.2.2.2.2 = isK /\ und' = mund /\ came' = came /\ now' = now /\ fr' = fr /\ sd' = sd)
  \/ (o.2.2.2.2.2.2.2.2.2.2.2.2.2.2.1 = 0 /\ o.2.2.2.2.2.2.2.2.2.2.2.2.2.2.2 0 = 0 /\ o.2.2.2.2.2.2.2.2.2.2.2.2.2.2.2 1 = 0 /\ und' = 0 /\ came' = came + 1 /\ fr.toInt <= fr'.toInt /\ fr'.toInt <= 16 /\ (∀ j : Nat, ((j : Int) < fr.toInt \/ fr'.toInt <= (j : Int)) -> now' j = now j) /\ (∀ j : Nat, fr.toInt <= (j : Int) -> (j : Int) < fr'.toInt -> now' j = 0)))
theorem fga (u : Int32) (k : Nat -> Int32) : (aYm u k).1 = 0 /\ (aYm u k).2 0 = 0 /\ (aYm u k).2 1 = 0 := by
  have z : (Int32.toInt 2 - ((0 : Nat) : Int)).toNat = 2 := by decide
  have n0 : (nI (0 + 0)).toNatClampNeg = 0 := by decide
  have n1 : (nI (0 + 1)).toNatClampNeg = 1 := by decide
  have b : vp_nar .boolean 0 = 0 := by decide
  rw [aYm, z, ex_X4_forgetAll_7, show (2 : Nat) = 1 + 1 from rfl, itr_s, aXt, show itr (aXt 0) k 0 1 = aXt 0 (nI (0 + 0)) k from rfl, aXt, n0, n1, b]
  refine ⟨rfl, ?_, ?_⟩
  · show upd (upd k 0 0) 1 0 0 = 0
    rw [aGi _ _ (by decide), upd_i]
  · show upd (upd k 0 0) 1 0 1 = 0
    rw [upd_i]
set_option maxHeartbeats 1000000 in
theorem orchard_rel {P Q : Int32 -> Int32 -> Int32 -> Int32 -> Int32 -> Nat -> Int32 -> Int32 -> Int32 -> Int32 -> Int32 -> Int32 -> Int32 -> Int32 -> (Nat -> Int32) -> (Nat -> Int32) -> (Nat -> Int32) -> (Nat -> Int32) -> (Nat -> Int32) -> (Nat -> Int32) -> (Nat -> Int32) -> (Nat -> Int32) -> (Nat -> Int32) -> Prop} {l pl sp fr sd cF cS und th0 le0 to0 at0 wr0 nf0 ns0 mund came : Int32} {rd0 : Nat} {sg x h w r f k isK now mx mh mw mr mf mk tx nF nS ru : Nat -> Int32} (hs : ∀ k : Nat, sg k = tx k &&& 255) (hl : 0 <= l.toInt /\ l.toInt <= 80) (hfr : 0 <= fr.toInt /\ fr.toInt <= 16) (hsd : 0 <= sd.toInt /\ sd.toInt <= 8) (hbe : BE fr x h w r mx mh mw mr) (hbs : BS sd f k mf mk)
    (h9 : wp_X10_orchard P fr sd l th0 rd0 le0 to0 at0 wr0 nf0 ns0 mund came now mx mh mw mr mf mk tx nF nS ru) (hq : ∀ (ans fr' sd' ty th : Int32) (rd : Nat) (le to at' wr' nf' ns' und' came' : Int32) (now' mx' mh' mw' mr' mf' mk' nF' nS' : Nat -> Int32), P ans fr' sd' ty th rd le to at' wr' nf' ns' und' came' now' mx' mh' mw' mr' mf' mk' nF' nS' -> ty = 0 -> ORS fr sd und mund came isK now (aFs l pl sp sg fr sd cF cS x h w r f k und isK) ans fr' sd' und' came' now' mx' mh' mw' mr' mf' mk' -> Q ans fr' sd' ty th rd le to at' wr' nf' ns' und' came' now' mx' mh' mw' mr' mf' mk' nF' nS') : wp_X10_orchard Q fr sd l th0 rd0 le0 to0 at0 wr0 nf0 ns0 mund came now mx mh mw mr mf mk tx nF nS ru := by
  unfold wp_X10_orchard at h9 ⊢
  refine du_X10_begin h9 ?_
  intro h9
  have l0 : Int32.toInt (0 : Int32) = 0 := by decide
  have l1 : Int32.toInt (1 : Int32) = 1 := by decide
  refine And.intro (fun c1 => ?_) (fun c1 => ?_)
  · have h9 := And.left h9 c1
    have c1 : ¬ l = 0 := c1
    rw [aFs, if_neg c1] at hq
    obtain ⟨n, h9⟩ := h9
    refine ⟨n, ?_⟩
    obtain ⟨c, ec⟩ : ∃ c, c = aFK 0 (stp l 76) sg fr sd cF cS x h w r f k := ⟨_, rfl⟩
    have ec2 := ec
    rw [aFK] at ec2
    refine or_loop (P := P) (Q := Q) (sg := sg) (d := fun _ _ _ _ _ _ _ _ _ _ => (0, 0, 0, 0, (fun _ => 0), (fun _ => 0), (fun _ => 0), (fun _ => 0), (fun _ => 0), (fun _ => 0))) hs hl hfr hsd n 77 1 0 fr sd 0 0 x h w r f k nF nS (by decide) (by decide) (by decide) (by decide) (by decide) (Int32.add_zero _) (Int32.add_zero _) (by decide) (by decide) (by decide) (by omega) (by omega) hfr.2 hsd.2 (fun j hj => by exfalso; omega) (fun j hj => by exfalso; omega) hbe hbs h9 ?_
    rw [<- ec2]
    intro ans fr' sd' ty th rd le to at' wr' nf' ns' und' came' now' mx' mh' mw' mr' mf' mk' nF' nS' hP ety hO
    refine hq ans fr' sd' ty th rd le to at' wr' nf' ns' und' came' now' mx' mh' mw' mr' mf' mk' nF' nS' hP ety ?_
    have e0 : aJ0 76 l pl sp = (0, stp l 76) := rfl
    rw [e0]
    dsimp only
    rw [<- ec]
    have bad : (c.1 = -1 \/ ¬ c.2.1 = l) -> ∀ (po : Int32 × Int32 × Int32 × Int32 × Int32 × Int32 × Int32 × Int32 × (Nat -> Int32) × (Nat -> Int32) × (Nat -> Int32) × (Nat -> Int32) × (Nat -> Int32) × (Nat -> Int32) × Int32 × (Nat -> Int32) -> Prop), po (-1 - c.2.1, 0, c.2.1, stp l 76, fr, sd, c.2.2.1, c.2.2.2.1, c.2.2.2.2.1, c.2.2.2.2.2.1, c.2.2.2.2.2.2.1, c.2.2.2.2.2.2.2.1, c.2.2.2.2.2.2.2.2.1, c.2.2.2.2.2.2.2.2.2, und, isK) -> po (j_X9_orchard_34 (fun o0 o1 o2 o3 o4 o5 o6 o7 o8 o9 o10 o11 o12 o13 o14 o15 => (o0, o1, o2, o3, o4, o5, o6, o7, o8, o9, o10, o11, o12, o13, o14, o15)) sg c.1 l c.2.1 (stp l 76) fr sd c.2.2.1 c.2.2.2.1 c.2.2.2.2.1 c.2.2.2.2.2.1 c.2.2.2.2.2.2.1 c.2.2.2.2.2.2.2.1 c.2.2.2.2.2.2.2.2.1 c.2.2.2.2.2.2.2.2.2 und isK) := by
      intro hb po hp
      rw [j_X9_orchard_34]
      by_cases b1 : c.1 = -1
      · rw [if_pos b1, j_X9_orchard_54, aXM, if_pos rfl, aLa, if_pos rfl, aDR, F_X8_wrong, F_X8_clear]
        exact hp
      · have b2 : ¬ c.2.1 = l := by
          rcases hb with hb | hb
          · exact absurd hb b1
          · exact hb
        rw [if_neg b1, F_X8_isThrough, if_neg b2, if_pos rfl, j_X9_orchard_54, aXM, if_pos rfl, aLa, if_pos rfl, aDR, F_X8_wrong, F_X8_clear]
        exact hp
    rcases hO with ⟨hb, u1, u2, u3, u4, u5, u6, u7, u8, u9, u10, u11, u12, hb1, hb2⟩ | ⟨k1, k2, k3, u1, u2, u3, u4, u5, hb1, hb2, g1, g2, g3, g4⟩
    · refine bad hb (fun o => ORS fr sd und mund came isK now o ans fr' sd' und' came' now' mx' mh' mw' mr' mf' mk') ?_
      subst u2 u3 u7 u8 u9 u10 u11 u12
      exact ⟨u1, rfl, rfl, rfl, hb1, hb2, Or.inl ⟨rfl, rfl, u4, u5, u6, rfl, rfl⟩⟩
    · rw [j_X9_orchard_34, if_neg k1, F_X8_isThrough, if_pos k3, if_neg n10, aXM, if_neg n10, aLa, if_neg n10, if_neg k2, aDR, F_X3_takeLines, F_X8_clear]
      obtain ⟨f1, f2, f3⟩ := fga und isK
      exact ⟨u1, rfl, u2, u3, hb1, hb2, Or.inr ⟨f1, f2, f3, u4, u5, g1, g2, g3, g4⟩⟩
  · have h9 := And.right h9 c1
    have c1 : l = 0 := c1
    rw [aFs, if_pos c1, j_X9_orchard_34, if_neg nm0, F_X8_isThrough, if_pos (show (aJ0 76 l pl sp).1 = l by rw [c1]; rfl), if_neg n10, aXM, if_neg n10, aLa, if_neg n10, if_pos (show (0 : Int32) <= 0 by decide), aDR, F_X8_clear] at hq
    exact hq _ _ _ _ _ _ _ _ _ _ _ _ _ _ _ _ _ _ _ _ _ _ _ h9 rfl ⟨rfl, rfl, rfl, rfl, hbe, hbs, Or.inl ⟨rfl, rfl, rfl, rfl, rfl, rfl, rfl⟩⟩
theorem orchard_w {Q : Int32 -> Int32 -> Int32 -> Int32 -> Int32 -> Nat -> Int32 -> Int32 -> Int32 -> Int32 -> Int32 -> Int32 -> Int32 -> Int32 -> (Nat -> Int32) -> (Nat -> Int32) -> (Nat -> Int32) -> (Nat -> Int32) -> (Nat -> Int32) -> (Nat -> Int32) -> (Nat -> Int32) -> (Nat -> Int32) -> (Nat -> Int32) -> Prop} {l9 fr9 sd9 l pl sp fr sd cF cS und th0 le0 to0 at0 wr0 nf0 ns0 mund came : Int32} {rd0 : Nat} {sg x h w r f k isK now mx mh mw mr mf mk tx nF nS ru : Nat -> Int32} (eT : l9.toInt = l.toInt) (eF : fr9 = fr) (eN : sd9 = sd) (hs : ∀ k : Nat, sg k = tx k &&& 255) (hl : 0 <= l.toInt /\ l.toInt <= 80) (hfr : 0 <= fr.toInt /\ fr.toInt <= 16) (hsd : 0 <= sd.toInt /\ sd.toInt <= 8) (hbe : BE fr x h w r mx mh mw mr) (hbs : BS sd f k mf mk)
    (h9 : wp_X10_orchard (fun ans fr' sd' ty th rd le to at' wr' nf' ns' und' came' now' mx' mh' mw' mr' mf' mk' nF' nS' => ty = 0 -> ORS fr sd und mund came isK now (aFs l9 pl sp sg fr9 sd9 cF cS x h w r f k und isK) ans fr' sd' und' came' now' mx' mh' mw' mr' mf' mk' -> Q ans fr' sd' ty th rd le to at' wr' nf' ns' und' came' now' mx' mh' mw' mr' mf' mk' nF' nS') fr sd l th0 rd0 le0 to0 at0 wr0 nf0 ns0 mund came now mx mh mw mr mf mk tx nF nS ru) : wp_X10_orchard Q fr sd l th0 rd0 le0 to0 at0 wr0 nf0 ns0 mund came now mx mh mw mr mf mk tx nF nS ru := by
  obtain rfl : l9 = l := i32 eT
  subst eF eN
  exact orchard_rel hs hl hfr hsd hbe hbs h9 (fun ans fr' sd' ty th rd le to at' wr' nf' ns' und' came' now' mx' mh' mw' mr' mf' mk' nF' nS' hp e hO => hp e hO)
/-! sign, set, sheet: class against reference, by the functions -/
theorem itr_rel {α β : Type} (R : Nat -> α -> β -> Prop) {f : Int32 -> α -> α} {g : Int32 -> β -> β} {a : α} {b : β} {i : Nat} (h0 : R 0 a b) (n : Nat) (hs : ∀ (k : Nat) (s : α) (t : β), k < n -> R k s t -> R (k + 1) (f (nI (i + k)) s) (g (nI (i + k)) t)) : R n (itr f a i n) (itr g b i n) := by
  have key : ∀ k : Nat, k <= n -> R k (itr f a i k) (itr g b i k) := by
    intro k
    induction k with
    | zero => intro _; exact h0
    | succ k ih => intro hk; rw [itr_s, itr_s]; exact hs k _ _ (by omega) (ih (by omega))
  exact key n (Nat.le_refl n)
theorem nI_0c {k : Nat} (h : k < 2147483648) : (nI (0 + k)).toNatClampNeg = k /\ Int32.toInt (nI (0 + k)) = (k : Int) := by
  rw [Nat.zero_add]
  exact ⟨nI_clamp (by omega), nI_toInt (by omega)⟩
theorem bt_tb (x : Int32) (k : Nat) : bt x k = x.toBitVec.toNat.testBit k := rfl
theorem bt_u (p s : Int32) (n : Nat) (hs : (s.toUInt32 &&& Int32.toUInt32 31).toNat % 32 = n) (k : Nat) : bt ((p.toUInt32 >>> (s.toUInt32 &&& Int32.toUInt32 31)).toInt32) k = bt p (n + k) := by
  rw [bt_tb, bt_tb]
  have h3 : ((p.toUInt32 >>> (s.toUInt32 &&& Int32.toUInt32 31)).toInt32).toBitVec.toNat = p.toBitVec.toNat >>> n := by
    show (p.toUInt32 >>> (s.toUInt32 &&& Int32.toUInt32 31)).toNat = _
    rw [UInt32.toNat_shiftRight, hs]
    rfl
  rw [h3, Nat.testBit_shiftRight]
theorem bt_255 : ∀ k, k < 32 -> bt 255 k = decide (k < 8) := by decide +kernel
theorem nch {x : Int32} (h : 0 <= x.toInt /\ x.toInt <= 255) : ((x.toUInt32 % 65536).toInt32) = x := by
  obtain ⟨h1, h2⟩ := tp_n h.1
  apply Int32.toBitVec_inj.mp
  apply BitVec.eq_of_toNat_eq
  show (x.toUInt32 % 65536).toNat = x.toBitVec.toNat
  rw [UInt32.toNat_mod]
  show x.toBitVec.toNat % 65536 = _
  exact Nat.mod_eq_of_lt (by omega)
theorem bt_b (y : Int32) (k : Nat) (hk : k < 8) : bt (y.toInt8.toInt32) k = bt y k := by
  unfold bt
  rw [Int8.toBitVec_toInt32, Int32.toBitVec_toInt8, BitVec.getLsbD_signExtend, if_pos hk, BitVec.getLsbD_signExtend, if_pos (show k < 32 by omega), decide_eq_true hk, decide_eq_true (show k < 32 by omega), Bool.true_and, Bool.true_and]
theorem bt_sr (p t : Int32) (n : Nat) (ht : (t.toBitVec.smod 32).toNat = n) (k : Nat) (hk : n + k < 32) : bt (p >>> t) k = bt p (n + k) := by
  unfold bt
  rw [Int32.toBitVec_shiftRight]
  show (p.toBitVec.sshiftRight (t.toBitVec.smod 32).toNat).getLsbD k = _
  rw [ht, BitVec.getLsbD_sshiftRight]
  have h1 : ¬ 32 <= k := by omega
  simp [h1, hk]
theorem sgn (p s t : Int32) (n : Nat) (hs : (s.toUInt32 &&& Int32.toUInt32 31).toNat % 32 = n) (ht : (t.toBitVec.smod 32).toNat = n) (hn : n <= 24) : vp_nar .char ((((p.toUInt32 >>> (s.toUInt32 &&& Int32.toUInt32 31)).toInt32 &&& 255).toUInt32 % 65536).toInt32) = (vp_nar .byte ((p >>> t).toInt8.toInt32)) &&& 255 := by
  have l255 : Int32.toInt (255 : Int32) = 255 := by decide
  have r := aAQ ((p.toUInt32 >>> (s.toUInt32 &&& Int32.toUInt32 31)).toInt32) 255 (by decide)
  rw [l255] at r
  show ((((((p.toUInt32 >>> (s.toUInt32 &&& Int32.toUInt32 31)).toInt32 &&& 255).toUInt32 % 65536).toInt32).toUInt32 % 65536).toInt32) = ((p >>> t).toInt8.toInt32).toInt8.toInt32 &&& 255
  rw [nch r, nch r]
  apply bt_ext
  intro k hk
  rw [bt_and, bt_and, bt_255 k hk]
  by_cases h8 : k < 8
  · rw [bt_u p s n hs, bt_b _ k h8, bt_b _ k h8, bt_sr p t n ht k (by omega)]
  · rw [decide_eq_false h8, Bool.and_false, Bool.and_false]
theorem sign_S {p p' L M th r1 L1 r2 M1 th1 : Int32} {sg tx sg1 tx1 : Nat -> Int32} (e9 : (r1, L1, sg1) = F_X9_sign p L sg) (e10 : (r2, M1, th1, tx1) = F_X10_sign p' M th tx) (hp : p' = p) (hT : L.toInt = M.toInt) (hL : 0 <= L.toInt /\ L.toInt <= 80) (hS : ∀ k : Nat, sg k = tx k &&& 255) : ∀ k : Nat, sg1 k = tx1 k &&& 255 := by
  obtain rfl : L = M := i32 hT
  subst hp
  have l76 : Int32.toInt (76 : Int32) = 76 := by decide
  have l4 : Int32.toInt (4 : Int32) = 4 := by decide
  have l80 : Int32.toInt (80 : Int32) = 80 := by decide
  have a4 := aAD L 4 (by omega)
  have u : ∀ (f g : Nat -> Int32) (i : Nat) (v w : Int32), (∀ k : Nat, f k = g k &&& 255) -> v = w &&& 255 -> ∀ k : Nat, upd f i v k = upd g i w k &&& 255 := by
    intro f g i v w hf hv k
    by_cases hk : k = i
    · rw [hk, upd_i, upd_i]; exact hv
    · rw [aGi _ _ hk, aGi _ _ hk]; exact hf k
  rw [F_X9_sign, F_X8_add] at e9
  rw [F_X10_sign] at e10
  by_cases c : L <= 76
  · have d := (aAO _ _).mp c
    have c2 : L + 4 <= 80 := (aAO _ _).mpr (by omega)
    rw [if_pos c, show (33 : Nat) = 32 + 1 from rfl, flp_s, fs_X8_add_14, if_neg (by decide), show (32 : Nat) = 31 + 1 from rfl, flp_s, fs_X8_add_14, if_neg (by decide), show (31 : Nat) = 30 + 1 from rfl, flp_s, fs_X8_add_14, if_neg (by decide), show (30 : Nat) = 29 + 1 from rfl, flp_s, fs_X8_add_14, if_neg (by decide), show (29 : Nat) = 28 + 1 from rfl, flp_s, fs_X8_add_14, if_pos (by decide)] at e9
    rw [if_pos c2, show (5 : Nat) = 4 + 1 from rfl, flp_s, fs_X10_sign_20, if_neg (by decide), show (4 : Nat) = 3 + 1 from rfl, flp_s, fs_X10_sign_20, if_neg (by decide), show (3 : Nat) = 2 + 1 from rfl, flp_s, fs_X10_sign_20, if_neg (by decide), show (2 : Nat) = 1 + 1 from rfl, flp_s, fs_X10_sign_20, if_neg (by decide), show (1 : Nat) = 0 + 1 from rfl, flp_s, fs_X10_sign_20, if_pos (by decide)] at e10
    have e9 := congrArg (fun z => z.2.2) e9
    have e10 := congrArg (fun z => z.2.2.2) e10
    dsimp only at e9 e10
    rw [e9, e10]
    exact u _ _ _ _ _ (u _ _ _ _ _ (u _ _ _ _ _ (u _ _ _ _ _ hS (sgn _ _ _ 24 (by decide) (by decide) (by decide))) (sgn _ _ _ 16 (by decide) (by decide) (by decide))) (sgn _ _ _ 8 (by decide) (by decide) (by decide))) (sgn _ _ _ 0 (by decide) (by decide) (by decide))
  · have d := mt (aAO _ _).mpr c
    rw [if_neg c] at e9
    rw [if_neg (fun c2 => by have := (aAO _ _).mp c2; omega)] at e10
    have e9 := congrArg (fun z => z.2.2) e9
    have e10 := congrArg (fun z => z.2.2.2) e10
    dsimp only at e9 e10
    rw [e9, e10]
    exact hS
theorem in01 (v a b : Int32) : (aUe v a b = 0 /\ (v.toInt < a.toInt \/ b.toInt < v.toInt)) \/ (aUe v a b = 1 /\ a.toInt <= v.toInt /\ v.toInt <= b.toInt) := by
  rw [aUe]
  by_cases c : v < a
  · rw [if_pos c]; exact Or.inl ⟨rfl, Or.inl ((aAd _ _).mp c)⟩
  · rw [if_neg c]
    by_cases d : b < v
    · rw [if_pos d]; exact Or.inl ⟨rfl, Or.inr ((aAd _ _).mp d)⟩
    · rw [if_neg d]; exact Or.inr ⟨rfl, by have := mt (aAd _ _).mpr c; omega, by have := mt (aAd _ _).mpr d; omega⟩
def stok (a v : Int) : Prop := 0 <= a /\ a <= 4 /\ (a = 4 -> 1 <= v /\ v <= 16) /\ (a = 3 -> 0 <= v /\ v <= 9) /\ (a < 3 -> 0 <= v /\ v <= 30)
theorem stL_w {x : Int32} (h : 0 <= x.toInt /\ x.toInt <= 4) : (x.toInt = 4 /\ Int32.toInt (stL x.toNatClampNeg) = 1) \/ (x.toInt ≠ 4 /\ Int32.toInt (stL x.toNatClampNeg) = 0) := by
  have e : x.toNatClampNeg = x.toInt.toNat := rfl
  rw [e]
  by_cases h4 : x.toInt = 4
  · left; refine ⟨h4, ?_⟩; rw [h4]; decide
  · right; refine ⟨h4, ?_⟩; unfold stL; rw [if_neg (by omega)]; decide
theorem stM_w {x : Int32} (h : 0 <= x.toInt /\ x.toInt <= 4) : (x.toInt = 4 /\ Int32.toInt (stM x.toNatClampNeg) = 16) \/ (x.toInt = 3 /\ Int32.toInt (stM x.toNatClampNeg) = 9) \/ (x.toInt < 3 /\ Int32.toInt (stM x.toNatClampNeg) = 30) := by
  have e : x.toNatClampNeg = x.toInt.toNat := rfl
  rw [e]
  by_cases h4 : x.toInt = 4
  · left; refine ⟨h4, ?_⟩; rw [h4]; decide
  · by_cases h3 : x.toInt = 3
    · right; left; refine ⟨h3, ?_⟩; rw [h3]; decide
    · right; right; refine ⟨by omega, ?_⟩; unfold stM; rw [if_neg (by omega), if_neg (by omega)]; decide
theorem set9_v (p v : Int32) (st : Nat -> Int32) : (stok p.toInt v.toInt /\ F_X9_set p v st = (st p.toNatClampNeg, upd st p.toNatClampNeg v)) \/ (¬ stok p.toInt v.toInt /\ F_X9_set p v st = (-1, st)) := by
  have l0 : Int32.toInt (0 : Int32) = 0 := by decide
  have l4 : Int32.toInt (4 : Int32) = 4 := by decide
  rw [F_X9_set]
  by_cases c : p < 0
  · have d := (aAd _ _).mp c
    rw [if_pos c]; exact Or.inr ⟨fun h => by unfold stok at h; omega, rfl⟩
  · have d := mt (aAd _ _).mpr c
    rw [if_neg c]
    by_cases c2 : 4 < p
    · have d2 := (aAd _ _).mp c2
      rw [if_pos c2]; exact Or.inr ⟨fun h => by unfold stok at h; omega, rfl⟩
    · have d2 := mt (aAd _ _).mpr c2
      have a := stL_w (x := p) (by omega)
      have b := stM_w (x := p) (by omega)
      rw [if_neg c2]
      by_cases c3 : v < stL p.toNatClampNeg
      · have d3 := (aAd _ _).mp c3
        rw [if_pos c3]; exact Or.inr ⟨fun h => by unfold stok at h; omega, rfl⟩
      · have d3 := mt (aAd _ _).mpr c3
        rw [if_neg c3]
        by_cases c4 : v <= stM p.toNatClampNeg
        · have d4 := (aAO _ _).mp c4
          rw [if_pos c4]; exact Or.inl ⟨by unfold stok; omega, rfl⟩
        · have d4 := mt (aAO _ _).mpr c4
          rw [if_neg c4]; exact Or.inr ⟨fun h => by unfold stok at h; omega, rfl⟩
theorem set10_v (p v th : Int32) (told : Nat -> Int32) : (stok p.toInt v.toInt /\ F_X10_set p v th told = (told p.toNatClampNeg, 0, upd told p.toNatClampNeg v)) \/ (¬ stok p.toInt v.toInt /\ F_X10_set p v th told = (-1, 0, told)) := by
  have l0 : Int32.toInt (0 : Int32) = 0 := by decide
  have l1 : Int32.toInt (1 : Int32) = 1 := by decide
  have l3 : Int32.toInt (3 : Int32) = 3 := by decide
  have l4 : Int32.toInt (4 : Int32) = 4 := by decide
  have l9 : Int32.toInt (9 : Int32) = 9 := by decide
  have l16 : Int32.toInt (16 : Int32) = 16 := by decide
  have l30 : Int32.toInt (30 : Int32) = 30 := by decide
  have key : ∀ a b : Int32, (0 <= p.toInt /\ p.toInt <= 4) -> ((a.toInt <= v.toInt /\ v.toInt <= b.toInt) ↔ stok p.toInt v.toInt) -> (stok p.toInt v.toInt /\ j_X10_set_47 (fun o0 o1 o2 => (o0, o1, o2)) p v v a b 0 told = (told p.toNatClampNeg, 0, upd told p.toNatClampNeg v)) \/ (¬ stok p.toInt v.toInt /\ j_X10_set_47 (fun o0 o1 o2 => (o0, o1, o2)) p v v a b 0 told = (-1, 0, told)) := by
    intro a b hp hk
    rw [j_X10_set_47]
    rcases in01 v a b with ⟨e, h⟩ | ⟨e, h⟩
    · rw [if_pos e]; exact Or.inr ⟨fun h2 => by have := hk.mpr h2; omega, rfl⟩
    · rw [if_neg (by rw [e]; decide)]; exact Or.inl ⟨hk.mp h, rfl⟩
  rw [F_X10_set]
  rcases in01 p 0 4 with ⟨e, h⟩ | ⟨e, h⟩
  · rw [if_pos e]; exact Or.inr ⟨fun h2 => by unfold stok at h2; omega, rfl⟩
  · rw [if_neg (by rw [e]; decide)]
    by_cases c4 : p = 4
    · have d4 := (zJ _ _).mp c4
      rw [if_pos c4, j_X10_set_25, if_pos c4]
      exact key 1 16 (by omega) (by unfold stok; omega)
    · have d4 := mt (zJ _ _).mpr c4
      rw [if_neg c4, j_X10_set_25, if_neg c4]
      by_cases c3 : p = 3
      · have d3 := (zJ _ _).mp c3
        rw [if_pos c3]
        exact key 0 9 (by omega) (by unfold stok; omega)
      · have d3 := mt (zJ _ _).mpr c3
        rw [if_neg c3]
        exact key 0 30 (by omega) (by unfold stok; omega)
theorem set_rel {p v p' v' th r1 r2 th2 : Int32} {st told st1 told1 : Nat -> Int32} (e9 : (r1, st1) = F_X9_set p v st) (e10 : (r2, th2, told1) = F_X10_set p' v' th told) (hp : p' = p) (hv : v' = v) (hr : ∀ k : Nat, k < 5 -> st k = told k) : r1 = r2 /\ ∀ k : Nat, k < 5 -> st1 k = told1 k := by
  subst hp hv
  rcases set9_v p' v' st with ⟨a, e⟩ | ⟨a, e⟩
  · rcases set10_v p' v' th told with ⟨b, f⟩ | ⟨b, f⟩
    · rw [e] at e9; rw [f] at e10
      have g1 := congrArg Prod.fst e9
      have g2 := congrArg Prod.snd e9
      have g3 := congrArg Prod.fst e10
      have g4 := congrArg (fun z => z.2.2) e10
      dsimp only at g1 g2 g3 g4
      unfold stok at a
      have i9 : p'.toNatClampNeg < 5 := by have := cl_n p'; omega
      rw [g1, g2, g3, g4]
      refine ⟨hr _ i9, fun k hk => ?_⟩
      by_cases h : k = p'.toNatClampNeg
      · rw [h, upd_i, upd_i]
      · rw [aGi _ _ h, aGi _ _ h]; exact hr k hk
    · exact absurd a b
  · rcases set10_v p' v' th told with ⟨b, f⟩ | ⟨b, f⟩
    · exact absurd b a
    · rw [e] at e9; rw [f] at e10
      have g1 := congrArg Prod.fst e9
      have g2 := congrArg Prod.snd e9
      have g3 := congrArg Prod.fst e10
      have g4 := congrArg (fun z => z.2.2) e10
      dsimp only at g1 g2 g3 g4
      rw [g1, g2, g3, g4]
      exact ⟨rfl, hr⟩
theorem neg1 {x : Int32} (h : x = 1) : ¬ x = 0 := by rw [h]; decide
/-! sheet, marks, standing, leaned, nearest, reached: class against reference -/
theorem itr_cg {α : Type} {f g : Int32 -> α -> α} {a : α} {i : Nat} (n : Nat) (h : ∀ (k : Nat) (s : α), k < n -> f (nI (i + k)) s = g (nI (i + k)) s) : itr f a i n = itr g a i n :=
  itr_rel (fun _ s t => s = t) rfl n (fun k s t hk e => by rw [e]; exact h k t hk)
theorem or0 (x : Int32) : x ||| 0 = x := by
  apply bt_ext
  intro k _
  rw [bt_or, bt_zero, Bool.or_false]
theorem hst {p sd : Int32} (hs : 0 <= sd.toInt /\ sd.toInt <= 100) : (aVU p sd = 0 /\ aUD p sd = 0 /\ (p.toInt < 0 \/ sd.toInt <= p.toInt)) \/ (aVU p sd = 1 /\ aUD p sd = 1 /\ 0 <= p.toInt /\ p.toInt < sd.toInt) := by
  have l0 : Int32.toInt (0 : Int32) = 0 := by decide
  have l1 : Int32.toInt (1 : Int32) = 1 := by decide
  have e := aCA sd 1 (by omega)
  rw [aVU, aUD]
  by_cases c : p < 0
  · have d := (aAd _ _).mp c
    rw [if_pos c]
    rcases in01 p 0 (sd - 1) with ⟨q, _⟩ | ⟨_, q⟩
    · exact Or.inl ⟨rfl, q, by omega⟩
    · exfalso; omega
  · have d := mt (aAd _ _).mpr c
    rw [if_neg c]
    by_cases c2 : sd <= p
    · have d2 := (aAO _ _).mp c2
      rw [if_pos c2]
      rcases in01 p 0 (sd - 1) with ⟨q, _⟩ | ⟨_, q⟩
      · exact Or.inl ⟨rfl, q, by omega⟩
      · exfalso; omega
    · have d2 := mt (aAO _ _).mpr c2
      rw [if_neg c2]
      rcases in01 p 0 (sd - 1) with ⟨_, q⟩ | ⟨q, _⟩
      · exfalso; omega
      · exact Or.inr ⟨rfl, q, by omega, by omega⟩
theorem hfr {p fr : Int32} (hs : 0 <= fr.toInt /\ fr.toInt <= 100) : (F_X3_hasFruit p fr = 0 /\ F_X10_isFruit p fr = 0 /\ (p.toInt < 0 \/ fr.toInt <= p.toInt)) \/ (F_X3_hasFruit p fr = 1 /\ F_X10_isFruit p fr = 1 /\ 0 <= p.toInt /\ p.toInt < fr.toInt) := hst hs
theorem marks_eq {p e p' e' sd sd' th : Int32} {ft fk mf mk : Nat -> Int32} (hp : p' = p) (he : e' = e) (hd : sd = sd') (h : BS sd' ft fk mf mk) (hs : 0 <= sd.toInt /\ sd.toInt <= 8) : F_X9_marks p e sd ft = (F_X10_marks p' e' sd' th mf).1 := by
  subst hp he hd
  have l0 : Int32.toInt (0 : Int32) = 0 := by decide
  have l99 : Int32.toInt (99 : Int32) = 99 := by decide
  rw [F_X9_marks, F_X10_marks]
  rcases in01 p' 0 99 with ⟨a, b⟩ | ⟨a, b⟩
  · rw [if_pos a]
    by_cases c : p' < 0
    · rw [if_pos c]
    · have d := mt (aAd _ _).mpr c
      rw [if_neg c, if_pos ((aAd _ _).mpr (by omega))]
  · rw [if_neg (neg1 a), if_neg (fun c => by have := (aAd _ _).mp c; omega), if_neg (fun c => by have := (aAd _ _).mp c; omega)]
    rcases in01 e' 0 99 with ⟨a2, b2⟩ | ⟨a2, b2⟩
    · rw [if_pos a2]
      by_cases c : e' < 0
      · rw [if_pos c]
      · have d := mt (aAd _ _).mpr c
        rw [if_neg c, if_neg (fun c => by have := (aAO _ _).mp c; omega)]
    · rw [if_neg (neg1 a2), if_neg (fun c => by have := (aAd _ _).mp c; omega), if_pos ((aAO _ _).mpr (by omega)), F_X3_standingsAt, ex_X3_standingsAt_5, ex_X10_marks_32]
      show itr _ _ _ _ = itr _ _ _ _
      refine itr_cg _ (fun k s hk => ?_)
      have i := (nI_0c (k := k) (by omega)).1
      rw [bd_X3_standingsAt_5, bd_X10_marks_32, i, (h k (by omega)).1, j_X3_standingsAt_37, j_X3_standingsAt_37, j_X10_marks_66, j_X10_marks_66, or0]
theorem asd_eq {f s : Int32} {x ft mx mf : Nat -> Int32} (e1 : x f.toNatClampNeg = mx f.toNatClampNeg) (e2 : ft s.toNatClampNeg = mf s.toNatClampNeg) (b1 : 0 <= Int32.toInt (x f.toNatClampNeg) /\ Int32.toInt (x f.toNatClampNeg) <= 99) (b2 : 0 <= Int32.toInt (ft s.toNatClampNeg) /\ Int32.toInt (ft s.toNatClampNeg) <= 99) : F_X3_aside f s x ft = F_X10_far f s mx mf := by
  rw [F_X3_aside, F_X10_far, <- e1, <- e2]
  generalize x f.toNatClampNeg = a at b1 ⊢
  generalize ft s.toNatClampNeg = b at b2 ⊢
  have s1 := aCA a b (by omega)
  have s2 := aCA b a (by omega)
  have ab := ti_abs (a - b) (by omega)
  apply i32
  by_cases c : a <= b
  · have d := (aAO _ _).mp c
    rw [if_pos c]; omega
  · have d := mt (aAO _ _).mpr c
    rw [if_neg c]; omega
theorem abv_eq {f s : Int32} {x ft mx mf : Nat -> Int32} (e1 : x f.toNatClampNeg = mx f.toNatClampNeg) (e2 : ft s.toNatClampNeg = mf s.toNatClampNeg) (b1 : 0 <= Int32.toInt (x f.toNatClampNeg) /\ Int32.toInt (x f.toNatClampNeg) <= 99) (b2 : 0 <= Int32.toInt (ft s.toNatClampNeg) /\ Int32.toInt (ft s.toNatClampNeg) <= 99) : F_X3_above f s x ft = F_X10_above f s mx mf := by
  rw [F_X3_above, F_X10_above, <- e1, <- e2]
  generalize x f.toNatClampNeg = a at b1 ⊢
  generalize ft s.toNatClampNeg = b at b2 ⊢
  have l0 : Int32.toInt (0 : Int32) = 0 := by decide
  have s1 := aCA a b (by omega)
  by_cases c : a <= b
  · have d := (aAO _ _).mp c
    rw [if_pos c, if_neg (fun c2 => by have := (aAd _ _).mp c2; omega)]
  · have d := mt (aAO _ _).mpr c
    rw [if_neg c, if_pos ((aAd _ _).mpr (by omega))]
/-- what class and reference know of the tree, in one -/
def TR (fr sd : Int32) (x h w r ft fk mx mh mw mr mf mk : Nat -> Int32) : Prop := BE fr x h w r mx mh mw mr /\ BS sd ft fk mf mk /\ (0 <= fr.toInt /\ fr.toInt <= 16) /\ (0 <= sd.toInt /\ sd.toInt <= 8) /\ (∀ k : Nat, 0 <= Int32.toInt (mx k) /\ Int32.toInt (mx k) <= 99) /\ (∀ k : Nat, 0 <= Int32.toInt (mh k) /\ Int32.toInt (mh k) <= 99) /\ (∀ k : Nat, 0 <= Int32.toInt (mf k) /\ Int32.toInt (mf k) <= 99) /\ (∀ k : Nat, 0 <= Int32.toInt (mk k) /\ Int32.toInt (mk k) <= 99)
section TREE
variable {fr sd : Int32} {x h w r ft fk mx mh mw mr mf mk st told : Nat -> Int32}
theorem iw_eq (T : TR fr sd x h w r ft fk mx mh mw mr mf mk) {f s : Int32} (q : Int32) (hf : 0 <= f.toInt /\ f.toInt < fr.toInt) (hs : 0 <= s.toInt /\ s.toInt < sd.toInt) : F_X3_isWithin f s q x h ft fk = bAx f s q mx mh mf mk := by
  obtain ⟨be, bs, bf, bd, bx, bh, bft, bfk⟩ := T
  have cf := cl_n f
  have cs := cl_n s
  obtain ⟨e1, e2, _, _⟩ := be f.toNatClampNeg (by omega)
  obtain ⟨e3, e4⟩ := bs s.toNatClampNeg (by omega)
  rw [F_X3_isWithin, bAx, asd_eq e1 e3 (by rw [e1]; exact bx _) (by rw [e3]; exact bft _), abv_eq e2 e4 (by rw [e2]; exact bh _) (by rw [e4]; exact bfk _)]
theorem rch_eq (hst : ∀ k : Nat, k < 5 -> st k = told k) (a b : Int32) : F_X3_reach a b st = F_X10_reachBy a b told := by
  rw [F_X3_reach, F_X10_reachBy, hst _ (by decide), hst _ (by decide), hst _ (by decide)]
theorem wi_eq (T : TR fr sd x h w r ft fk mx mh mw mr mf mk) (hst : ∀ k : Nat, k < 5 -> st k = told k) {s : Int32} (a b : Int32) (hs : 0 <= s.toInt /\ s.toInt < sd.toInt) : F_X3_within s (F_X3_reach a b st) fr x h ft fk = aLM s a b fr mx mh mf mk told := by
  rw [F_X3_within, aLM, ex_X3_within_5, ex_X10_reachedFrom_6, rch_eq hst]
  have bf := T.2.2.1
  refine itr_cg _ (fun k s2 hk => ?_)
  have i := (nI_0c (k := k) (by omega)).2
  rw [bd_X3_within_5, bBb, iw_eq T _ (by omega) hs, j_X3_within_32, j_X3_within_32, j_X10_reachedFrom_41, j_X10_reachedFrom_41, or0]
theorem ln_eq (T : TR fr sd x h w r ft fk mx mh mw mr mf mk) (hst : ∀ k : Nat, k < 5 -> st k = told k) {f s : Int32} (hf : 0 <= f.toInt /\ f.toInt < fr.toInt) (hs : 0 <= s.toInt /\ s.toInt < sd.toInt) : 0 <= Int32.toInt (aM3 f s mx mh mf mk told) /\ ((Int32.toInt (aM3 f s mx mh mf mk told) <= 30 /\ bB5 f s x h ft fk st = aM3 f s mx mh mf mk told) \/ (30 < Int32.toInt (aM3 f s mx mh mf mk told) /\ bB5 f s x h ft fk st = -2)) := by
  have l1 : Int32.toInt (1 : Int32) = 1 := by decide
  have l30 : Int32.toInt (30 : Int32) = 30 := by decide
  have key : ∀ (m : Nat) (v : Int32), 0 <= v.toInt -> v.toInt <= 31 -> 31 - v.toInt < (m : Int) -> 0 <= Int32.toInt (flp (fs_X10_leanOf_2 (fun o0 => o0) mx mh mf mk told) (fun _ _ _ => 0) m f s v) /\ ((Int32.toInt (flp (fs_X10_leanOf_2 (fun o0 => o0) mx mh mf mk told) (fun _ _ _ => 0) m f s v) <= 30 /\ flp (fs_X3_leanNeeded_2 (fun o0 => o0) x h ft fk st) (fun _ _ _ => 0) m f s v = flp (fs_X10_leanOf_2 (fun o0 => o0) mx mh mf mk told) (fun _ _ _ => 0) m f s v) \/ (30 < Int32.toInt (flp (fs_X10_leanOf_2 (fun o0 => o0) mx mh mf mk told) (fun _ _ _ => 0) m f s v) /\ flp (fs_X3_leanNeeded_2 (fun o0 => o0) x h ft fk st) (fun _ _ _ => 0) m f s v = -2)) := by
    intro m
    induction m with
    | zero => intro v h1 h2 h3; exfalso; omega
    | succ m ih =>
      intro v h1 h2 h3
      rw [flp_s, flp_s, fs_X10_leanOf_2, fs_X3_leanNeeded_2, hst _ (by decide), iw_eq T _ hf hs]
      by_cases c : 30 < v
      · have d := (aAd _ _).mp c
        rw [if_pos c, if_pos c]
        exact ⟨h1, Or.inr ⟨by omega, rfl⟩⟩
      · have d := mt (aAd _ _).mpr c
        rw [if_neg c, if_neg c]
        by_cases c2 : bAx f s (told (0 : Int32).toNatClampNeg + v) mx mh mf mk = 0
        · rw [if_pos c2, if_pos c2]
          have e := aAD v 1 (by omega)
          exact ih (v + 1) (by omega) (by omega) (by omega)
        · rw [if_neg c2, if_neg c2]
          exact ⟨h1, Or.inl ⟨by omega, rfl⟩⟩
  exact key 32 0 (by decide) (by decide) (by decide)
theorem leaned_eq (T : TR fr sd x h w r ft fk mx mh mw mr mf mk) (hst2 : ∀ k : Nat, k < 5 -> st k = told k) {f s f' s' fr9 sd9 th : Int32} (ef : f' = f) (es : s' = s) (e1 : fr9 = fr) (e2 : sd9 = sd) : F_X9_leaned f s fr9 sd9 x h ft fk st = (F_X10_leaned f' s' fr sd th mx mh mf mk told).1 := by
  subst ef es e1 e2
  have bf := T.2.2.1
  have bd := T.2.2.2.1
  have l30 : Int32.toInt (30 : Int32) = 30 := by decide
  rw [F_X9_leaned, F_X10_leaned]
  rcases hfr (p := f') (fr := fr9) (by omega) with ⟨a, b, _⟩ | ⟨a, b, g1⟩
  · rw [if_pos a, if_pos b]
  · rw [if_neg (neg1 a), if_neg (neg1 b)]
    rcases hst (p := s') (sd := sd9) (by omega) with ⟨a, b, _⟩ | ⟨a, b, g2⟩
    · rw [if_pos a, if_pos b]
    · rw [if_neg (neg1 a), if_neg (neg1 b)]
      obtain ⟨_, q | q⟩ := ln_eq T hst2 g1 g2
      · rw [if_pos ((aAO _ _).mpr (by omega))]; exact q.2
      · rw [if_neg (fun c => by have := (aAO _ _).mp c; omega)]; exact q.2
theorem reached_eq (T : TR fr sd x h w r ft fk mx mh mw mr mf mk) (hst2 : ∀ k : Nat, k < 5 -> st k = told k) {s s' fr9 sd9 th rs rm : Int32} {rn row : Nat -> Int32} (es : s' = s) (e1 : fr9 = fr) (e2 : sd9 = sd) : (F_X9_reached s fr9 sd9 x h ft fk st rs rn).1 = (aZN s' fr sd rm th mx mh mf mk told row).1 := by
  subst es e1 e2
  have bd := T.2.2.2.1
  rw [F_X9_reached, aZN]
  rcases hst (p := s') (sd := sd9) (by omega) with ⟨a, b, _⟩ | ⟨a, b, g2⟩
  · rw [if_pos a, if_pos b]
  · rw [if_neg (neg1 a), if_neg (neg1 b)]
    exact wi_eq T hst2 0 0 g2
theorem nearest_eq (T : TR fr sd x h w r ft fk mx mh mw mr mf mk) (hst2 : ∀ k : Nat, k < 5 -> st k = told k) {f f' fr9 sd9 th rs rm : Int32} {rn row : Nat -> Int32} (ef : f' = f) (e1 : fr9 = fr) (e2 : sd9 = sd) : (F_X9_nearest f fr9 sd9 x h ft fk st rs rn).1 = (aZM f' fr sd rm th mx mh mf mk told row).1 := by
  subst ef e1 e2
  have bf := T.2.2.1
  have bd := T.2.2.2.1
  have l0 : Int32.toInt (0 : Int32) = 0 := by decide
  have l30 : Int32.toInt (30 : Int32) = 30 := by decide
  have l31 : Int32.toInt (31 : Int32) = 31 := by decide
  have lm : Int32.toInt (-2 : Int32) = -2 := by decide
  rw [F_X9_nearest, aZM]
  rcases hfr (p := f') (fr := fr9) (by omega) with ⟨a, b, _⟩ | ⟨a, b, g1⟩
  · rw [if_pos a, if_pos b]
  · rw [if_neg (neg1 a), if_neg (neg1 b)]
    have key := itr_rel (i := 0) (f := aZO fr9 sd9 x h ft fk st f' rs rn) (g := bd_X10_nearest_20 fr9 sd9 mx mh mf mk told f' rm 0 row) (a := ((-2), 31)) (b := -2) (fun k s t => s.1 = t /\ ((t = -2 /\ s.2 = 31) \/ (0 <= t.toInt /\ t.toInt < (k : Int) /\ s.2 = aM3 f' t mx mh mf mk told /\ s.2.toInt <= 30))) ⟨rfl, Or.inl ⟨rfl, rfl⟩⟩ (Int32.toInt sd9 - ((0 : Nat) : Int)).toNat (fun k s t hk hR => by
      have i := (nI_0c (k := k) (by omega)).2
      have gs : 0 <= Int32.toInt (nI (0 + k)) /\ Int32.toInt (nI (0 + k)) < sd9.toInt := by omega
      rw [aZO, bd_X10_nearest_20, j_X9_nearest_63, j_X9_nearest_63, bCW, j_X10_nearest_58, bCW]
      obtain ⟨q0, q | q⟩ := ln_eq T hst2 g1 gs
      · have q1 := q.1
        rw [q.2]
        obtain ⟨L, eL⟩ : ∃ L : Int32, L = aM3 f' (nI (0 + k)) mx mh mf mk told := ⟨_, rfl⟩
        rw [<- eL] at q0 q1 ⊢
        have k1 : ¬ L < 0 := fun c => by have := (aAd _ _).mp c; omega
        have k2 : ¬ 30 < L := fun c => by have := (aAd _ _).mp c; omega
        rw [if_neg k1, if_neg k2]
        obtain ⟨r1, ⟨r2, r3⟩ | ⟨r2, r3, r4, r5⟩⟩ := hR
        · have k4 : ¬ s.2 <= L := fun c => by have := (aAO _ _).mp c; rw [r3] at this; omega
          have k5 : t < 0 := by rw [r2]; decide
          rw [if_neg k4, if_pos k5]
          exact ⟨rfl, Or.inr ⟨by omega, by omega, eL, q1⟩⟩
        · have k5 : ¬ t < 0 := fun c => by have := (aAd _ _).mp c; omega
          rw [if_neg k5, <- r4]
          by_cases c : s.2 <= L
          · rw [if_pos c, if_pos c]
            exact ⟨r1, Or.inr ⟨r2, by omega, r4, r5⟩⟩
          · rw [if_neg c, if_neg c]
            exact ⟨rfl, Or.inr ⟨by omega, by omega, eL, q1⟩⟩
      · have k3 : 30 < aM3 f' (nI (0 + k)) mx mh mf mk told := (aAd _ _).mpr (by omega)
        rw [q.2, if_pos (show (-2 : Int32) < 0 by decide), if_pos k3]
        obtain ⟨r1, ⟨r2, r3⟩ | ⟨r2, r3, r4, r5⟩⟩ := hR
        · exact ⟨r1, Or.inl ⟨r2, r3⟩⟩
        · exact ⟨r1, Or.inr ⟨r2, by omega, r4, r5⟩⟩)
    rw [ex_X9_nearest_22, ex_X10_nearest_20]
    obtain ⟨r1, ⟨r2, r3⟩ | ⟨r2, r3, r4, r5⟩⟩ := key
    · rw [r1, r2, if_pos (by decide), if_neg (by decide)]
    · rw [r1, if_neg (fun c => by have := (aAd _ _).mp c; omega), if_pos ((aAO _ _).mpr (by omega))]
end TREE
theorem std_eq {p a p' a' sd sd' th r2 th2 : Int32} {ft fk mf mk : Nat -> Int32} (hp : p' = p) (ha : a' = a) (hd : sd = sd') (h : BS sd' ft fk mf mk) (hs : 0 <= sd.toInt /\ sd.toInt <= 8) (e10 : (r2, th2) = F_X10_standing p' a' sd' th mf mk) : (F_X9_standing p a sd ft fk = none /\ th2 = 1) \/ (F_X9_standing p a sd ft fk = some r2 /\ th2 = 0) := by
  subst hp ha hd
  have l0 : Int32.toInt (0 : Int32) = 0 := by decide
  have l1 : Int32.toInt (1 : Int32) = 1 := by decide
  have l2 : Int32.toInt (2 : Int32) = 2 := by decide
  rw [F_X10_standing] at e10
  rw [F_X9_standing]
  rcases hst (p := p') (sd := sd) (by omega) with ⟨a1, b1, _⟩ | ⟨a1, b1, g2⟩
  · rw [if_pos b1, j_X10_standing_22, F_X10_lost] at e10
    rw [if_pos a1]
    exact Or.inl ⟨rfl, congrArg Prod.snd e10⟩
  · rw [if_neg (neg1 b1)] at e10
    rw [if_neg (neg1 a1)]
    have c := cl_n p'
    obtain ⟨e1, e2⟩ := h p'.toNatClampNeg (by omega)
    rcases in01 a' 0 2 with ⟨q, q2⟩ | ⟨q, q2⟩
    · rw [if_pos q, j_X10_standing_22, F_X10_lost] at e10
      rw [if_neg (fun e => by have := congrArg Int32.toInt e; omega), if_neg (fun e => by have := congrArg Int32.toInt e; omega), if_neg (fun e => by have := congrArg Int32.toInt e; omega)]
      exact Or.inl ⟨rfl, congrArg Prod.snd e10⟩
    · rw [if_neg (neg1 q)] at e10
      by_cases c0 : a' = 0
      · rw [if_pos c0] at e10 ⊢
        have g := congrArg Prod.fst e10
        dsimp only at g
        exact Or.inr ⟨by rw [g, e1], congrArg Prod.snd e10⟩
      · rw [if_neg c0] at e10 ⊢
        by_cases c1 : a' = 1
        · rw [if_pos c1] at e10 ⊢
          have g := congrArg Prod.fst e10
          dsimp only at g
          exact Or.inr ⟨by rw [g, e2], congrArg Prod.snd e10⟩
        · rw [if_neg c1] at e10 ⊢
          have d0 := mt (zJ _ _).mpr c0
          have d1 := mt (zJ _ _).mpr c1
          have c2 : a' = 2 := i32 (by omega)
          rw [if_pos c2]
          have g := congrArg Prod.fst e10
          dsimp only at g
          exact Or.inr ⟨by rw [g, F_X3_downSeconds, F_X10_downOf, e2], congrArg Prod.snd e10⟩
theorem sheet_itr {fr p n st v0 : Int32} {w mw : Nat -> Int32} (hf : 0 <= fr.toInt /\ fr.toInt <= 16) (hp : ¬ p = 3) : (itr (aJo fr p n st) (0, v0, w) 0 (Int32.toInt fr - ((0 : Nat) : Int)).toNat).1 = (itr (aNZ fr p n st 0) (0, v0, mw) 0 (Int32.toInt fr - ((0 : Nat) : Int)).toNat).1 /\ ∀ j : Nat, (j : Int) < fr.toInt -> (itr (aJo fr p n st) (0, v0, w) 0 (Int32.toInt fr - ((0 : Nat) : Int)).toNat).2.2 j = (itr (aNZ fr p n st 0) (0, v0, mw) 0 (Int32.toInt fr - ((0 : Nat) : Int)).toNat).2.2 j := by
  have key := itr_rel (i := 0) (f := aJo fr p n st) (g := aNZ fr p n st 0) (a := ((0 : Int32), v0, w)) (b := ((0 : Int32), v0, mw)) (fun k s t => s.1 = t.1 /\ s.2.1 = t.2.1 /\ ∀ j : Nat, j < k -> s.2.2 j = t.2.2 j) ⟨rfl, rfl, fun j hj => absurd hj (by omega)⟩ (Int32.toInt fr - ((0 : Nat) : Int)).toNat (fun k s t hk hR => by
    have i := nI_0c (k := k) (by omega)
    obtain ⟨r1, r2, r3⟩ := hR
    have u : ∀ v : Int32, ∀ j : Nat, j < k + 1 -> upd s.2.2 k v j = upd t.2.2 k v j := by
      intro v j hj
      by_cases hk2 : j = k
      · rw [hk2, upd_i, upd_i]
      · rw [aGi _ _ hk2, aGi _ _ hk2]; exact r3 j (by omega)
    have m : ∀ z : Int32, (aRy (fun q0 q1 q2 q3 q4 q5 q6 => (q3, q4, q6)) fr p n st s.1 s.2.1 (nI (0 + k)) z s.2.2).1 = (bBi (fun q0 q1 q2 q3 q4 q5 q6 q7 => (q3, q4, q7)) fr p n st t.1 t.2.1 (nI (0 + k)) z 0 t.2.2).1 /\ (aRy (fun q0 q1 q2 q3 q4 q5 q6 => (q3, q4, q6)) fr p n st s.1 s.2.1 (nI (0 + k)) z s.2.2).2.1 = (bBi (fun q0 q1 q2 q3 q4 q5 q6 q7 => (q3, q4, q7)) fr p n st t.1 t.2.1 (nI (0 + k)) z 0 t.2.2).2.1 /\ ∀ j : Nat, j < k + 1 -> (aRy (fun q0 q1 q2 q3 q4 q5 q6 => (q3, q4, q6)) fr p n st s.1 s.2.1 (nI (0 + k)) z s.2.2).2.2 j = (bBi (fun q0 q1 q2 q3 q4 q5 q6 q7 => (q3, q4, q7)) fr p n st t.1 t.2.1 (nI (0 + k)) z 0 t.2.2).2.2 j := by
      intro z
      rw [aRy, bBi, if_neg hp]
      by_cases c : n <= nI (0 + k)
      · have d := (aAO _ _).mp c
        rw [if_pos c, if_neg (fun c2 => by have := (aAd _ _).mp c2; omega), aRz, j_X10_sheet_94, aRj, i.1]
        dsimp only
        rw [upd_i, upd_i, r1, r2]
        exact ⟨rfl, rfl, u 0⟩
      · have d := mt (aAO _ _).mpr c
        have c9 : nI (0 + k) < n := (aAd _ _).mpr (by omega)
        rw [if_neg c, if_pos c9, aRz, aRj, i.1]
        dsimp only
        rw [upd_i, upd_i, r1, r2]
        exact ⟨rfl, rfl, u _⟩
    rw [aJo, aNZ, <- r2]
    by_cases c0 : p = 0
    · rw [if_pos c0, if_pos c0, r2]; have q := m t.2.1.toInt8.toInt32; rw [r2] at q; exact q
    · rw [if_neg c0, if_neg c0]
      by_cases c1 : p = 1
      · rw [if_pos c1, if_pos c1, r2]; have q := m t.2.1.toInt16.toInt32; rw [r2] at q; exact q
      · rw [if_neg c1, if_neg c1, r2]; have q := m t.2.1; rw [r2] at q; exact q)
  exact ⟨key.1, fun j hj => key.2.2 j (by omega)⟩
theorem sheet_0c {fr : Int32} {w : Nat -> Int32} (hf : 0 <= fr.toInt /\ fr.toInt <= 16) : ∀ k : Nat, (k : Int) <= fr.toInt -> ∀ j : Nat, j < k -> (itr (aJo fr 2 0 0) (0, 0, w) 0 k).2.2 j = 0 := by
  have l0 : Int32.toInt (0 : Int32) = 0 := by decide
  intro k
  induction k with
  | zero => intro _ j hj; omega
  | succ k ih =>
    intro hk j hj
    have i := nI_0c (k := k) (by omega)
    rw [itr_s, aJo, if_neg (by decide), if_neg (by decide), aRy, if_pos ((aAO _ _).mpr (by omega)), aRz, i.1]
    dsimp only
    by_cases hk2 : j = k
    · rw [hk2, upd_i]
    · rw [aGi _ _ hk2]; exact ih (by omega) j (by omega)
theorem sheet_0m {fr n st v0 : Int32} {w : Nat -> Int32} (hf : 0 <= fr.toInt /\ fr.toInt <= 16) : ∀ k : Nat, (k : Int) <= fr.toInt -> ∀ j : Nat, j < k -> (itr (aNZ fr 3 n st 0) (0, v0, w) 0 k).2.2 j = 0 := by
  intro k
  induction k with
  | zero => intro _ j hj; omega
  | succ k ih =>
    intro hk j hj
    have i := nI_0c (k := k) (by omega)
    rw [itr_s, aNZ, if_neg (by decide), if_neg (by decide), bBi, if_pos rfl, j_X10_sheet_94, aRj, i.1]
    dsimp only
    by_cases hk2 : j = k
    · rw [hk2, upd_i]
    · rw [aGi _ _ hk2]; exact ih (by omega) j (by omega)
theorem sheet_rel {p n v s p' n' v' s' fr fr' th r1 r2 th2 : Int32} {x h w r mx mh mw mr w1 mw1 : Nat -> Int32} (e9 : (r1, w1) = F_X9_sheet p n v s fr w) (e10 : (r2, th2, mw1) = F_X10_sheet p' n' v' s' fr' th mw) (hp : p' = p) (hn : n' = n) (hv : v' = v) (hs : s' = s) (hfr : fr = fr') (hb : BE fr' x h w r mx mh mw mr) (hf : 0 <= fr.toInt /\ fr.toInt <= 16) : r1 = r2 /\ BE fr' x h w1 r mx mh mw1 mr := by
  subst hp hn hv hs hfr
  have l0 : Int32.toInt (0 : Int32) = 0 := by decide
  have l3 : Int32.toInt (3 : Int32) = 3 := by decide
  have fin : ∀ (a : Int32) (f g : Nat -> Int32), (r1, w1) = (a, f) -> (r2, th2, mw1) = (a, 0, g) -> (∀ j : Nat, (j : Int) < fr.toInt -> f j = g j) -> r1 = r2 /\ BE fr x h w1 r mx mh mw1 mr := by
    intro a f g q1 q2 q3
    have g1 := congrArg Prod.fst q1
    have g2 := congrArg Prod.snd q1
    have g3 := congrArg Prod.fst q2
    have g4 := congrArg (fun z => z.2.2) q2
    dsimp only at g1 g2 g3 g4
    rw [g1, g2, g3, g4]
    refine ⟨rfl, fun j hj => ?_⟩
    obtain ⟨b1, b2, _, b4⟩ := hb j hj
    exact ⟨b1, b2, q3 j hj, b4⟩
  have same : ∀ j : Nat, (j : Int) < fr.toInt -> w j = mw j := fun j hj => (hb j hj).2.2.1
  rw [F_X9_sheet] at e9
  rw [F_X10_sheet] at e10
  rcases in01 p' 0 3 with ⟨q, q2⟩ | ⟨q, q2⟩
  · rw [if_pos q] at e10
    by_cases c : p' < 0
    · rw [if_pos c] at e9; exact fin _ _ _ e9 e10 same
    · have d := mt (aAd _ _).mpr c
      rw [if_neg c, if_pos ((aAd _ _).mpr (by omega))] at e9; exact fin _ _ _ e9 e10 same
  · rw [if_neg (neg1 q)] at e10
    rw [if_neg (fun c => by have := (aAd _ _).mp c; omega), if_neg (fun c => by have := (aAd _ _).mp c; omega)] at e9
    by_cases c16 : n' <= 16
    · rw [if_pos c16] at e9 e10
      by_cases c3 : p' = 3
      · rw [if_pos c3, aYl, ex_X3_fillWorths_9] at e9
        subst c3
        rw [if_pos (by decide), j_X10_sheet_34, ex_X10_sheet_43, if_pos rfl] at e10
        exact fin _ _ _ e9 e10 (fun j hj => by rw [sheet_0c hf _ (by omega) j (by omega), sheet_0m hf _ (by omega) j (by omega)])
      · have d3 := mt (zJ _ _).mpr c3
        rw [if_neg c3] at e9
        rw [if_neg (fun c => by have := (aAO _ _).mp c; omega)] at e10
        by_cases cn : 0 <= n'
        · rw [if_pos cn, aYl, ex_X3_fillWorths_9] at e9
          rw [if_pos cn, j_X10_sheet_34, ex_X10_sheet_43, if_neg c3] at e10
          obtain ⟨s1, s2⟩ := sheet_itr (fr := fr) (p := p') (n := n') (st := s') (v0 := v') (w := w) (mw := mw) hf c3
          rw [<- s1] at e10
          exact fin _ _ _ e9 e10 s2
        · rw [if_neg cn] at e9 e10; exact fin _ _ _ e9 e10 same
    · rw [if_neg c16] at e9 e10; exact fin _ _ _ e9 e10 same
def MonoT (W : aOw) : Prop := ∀ ⦃P Q : Int32 -> Int32 -> Int32 -> Prop⦄ ⦃a : Int32⦄ ⦃b : Nat⦄ ⦃c1 c2 c3 c4 c5 c6 c7 c8 c9 : Int32⦄ ⦃f1 f2 f3 f4 f5 f6 f7 : Nat -> Int32⦄, W P a b c1 c2 c3 c4 c5 c6 c7 c8 c9 f1 f2 f3 f4 f5 f6 f7 -> (∀ r x y : Int32, P r x y -> Q r x y) -> W Q a b c1 c2 c3 c4 c5 c6 c7 c8 c9 f1 f2 f3 f4 f5 f6 f7
set_option maxRecDepth 10000 in
theorem mn_X10_thing {WT WH : aOw} (hT : MonoT WT) (hH : MonoT WH) {P Q : Int32 -> Int32 -> Int32 -> Prop} {p0 : Int32} {jD : Nat} {mLn oF rP dQ bZ aR aE bI aW : Int32} {m_x gR pW nG oO qO qQ : Nat -> Int32} (h : wp_X10_thing WT WH P p0 jD mLn oF rP dQ bZ aR aE bI aW m_x gR pW nG oO qO qQ) (hq : ∀ (o0 : Int32) (o1 : Int32) (o2 : Int32), P o0 o1 o2 -> Q o0 o1 o2) : wp_X10_thing WT WH Q p0 jD mLn oF rP dQ bZ aR aE bI aW m_x gR pW nG oO qO qQ := by
  unfold wp_X10_thing at h ⊢
  refine du_X10_passes h ?_
  intro h
  refine And.intro (fun c3 => ?_) (fun c3 => ?_)
  · have h := And.left h c3
    refine du_X10_fine h ?_
    intro h
    refine And.intro (fun c5 => ?_) (fun c5 => ?_)
    · have h := And.left h c5
      refine du_X10_here h ?_
      intro h
      refine And.intro (fun c7 => ?_) (fun c7 => ?_)
      · have h := And.left h c7
        unfold ws_X10_thing_67 at h ⊢
        refine du_X10_in h ?_
        intro h
        refine And.intro (fun c9 => ?_) (fun c9 => ?_)
        · have h := And.left h c9
          refine And.intro (fun c10 => ?_) (fun c10 => ?_)
          · have h := And.left h c10
            unfold aJK at h ⊢
            refine ae ?_
            have h := h _ rfl
            refine And.intro (fun c11 => ?_) (fun c11 => ?_)
            · have h := And.left h c11
              exact hq _ _ _ h
            · have h := And.right h c11
              refine du_X10_valueOf h ?_
              intro h
              exact hq _ _ _ h
          · have h := And.right h c10
            refine And.intro (fun c13 => ?_) (fun c13 => ?_)
            · have h := And.left h c13
              unfold aJK at h ⊢
              refine ae ?_
              have h := h _ rfl
              refine And.intro (fun c14 => ?_) (fun c14 => ?_)
              · have h := And.left h c14
                exact hq _ _ _ h
              · have h := And.right h c14
                refine du_X10_valueOf h ?_
                intro h
                exact hq _ _ _ h
            · have h := And.right h c13
              refine And.intro (fun c16 => ?_) (fun c16 => ?_)
              · have h := And.left h c16
                unfold aJK at h ⊢
                refine ae ?_
                have h := h _ rfl
                refine And.intro (fun c17 => ?_) (fun c17 => ?_)
                · have h := And.left h c17
                  exact hq _ _ _ h
                · have h := And.right h c17
                  refine du_X10_valueOf h ?_
                  intro h
                  exact hq _ _ _ h
              · have h := And.right h c16
                refine And.intro (fun c19 => ?_) (fun c19 => ?_)
                · have h := And.left h c19
                  unfold aJK at h ⊢
                  refine ae ?_
                  have h := h _ rfl
                  refine And.intro (fun c20 => ?_) (fun c20 => ?_)
                  · have h := And.left h c20
                    exact hq _ _ _ h
                  · have h := And.right h c20
                    refine du_X10_valueOf h ?_
                    intro h
                    exact hq _ _ _ h
                · have h := And.right h c19
                  refine And.intro (fun c22 => ?_) (fun c22 => ?_)
                  · have h := And.left h c22
                    unfold aJK at h ⊢
                    refine ae ?_
                    have h := h _ rfl
                    refine And.intro (fun c23 => ?_) (fun c23 => ?_)
                    · have h := And.left h c23
                      exact hq _ _ _ h
                    · have h := And.right h c23
                      refine du_X10_valueOf h ?_
                      intro h
                      exact hq _ _ _ h
                  · have h := And.right h c22
                    refine And.intro (fun c25 => ?_) (fun c25 => ?_)
                    · have h := And.left h c25
                      unfold aJK at h ⊢
                      refine ae ?_
                      have h := h _ rfl
                      refine And.intro (fun c26 => ?_) (fun c26 => ?_)
                      · have h := And.left h c26
                        exact hq _ _ _ h
                      · have h := And.right h c26
                        refine du_X10_valueOf h ?_
                        intro h
                        exact hq _ _ _ h
                    · have h := And.right h c25
                      refine And.intro (fun c28 => ?_) (fun c28 => ?_)
                      · have h := And.left h c28
                        unfold aJK at h ⊢
                        refine ae ?_
                        have h := h _ rfl
                        refine And.intro (fun c29 => ?_) (fun c29 => ?_)
                        · have h := And.left h c29
                          exact hq _ _ _ h
                        · have h := And.right h c29
                          refine du_X10_valueOf h ?_
                          intro h
                          exact hq _ _ _ h
                      · have h := And.right h c28
                        refine du_X10_fault h ?_
                        intro h
                        exact hq _ _ _ h
        · have h := And.right h c9
          refine aEu (by decide) h ?_
          intro h
          exact hq _ _ _ h
      · have h := And.right h c7
        refine And.intro (fun c35 => ?_) (fun c35 => ?_)
        · have h := And.left h c35
          unfold ws_X10_thing_67 at h ⊢
          refine du_X10_in h ?_
          intro h
          refine And.intro (fun c37 => ?_) (fun c37 => ?_)
          · have h := And.left h c37
            refine And.intro (fun c38 => ?_) (fun c38 => ?_)
            · have h := And.left h c38
              unfold aJK at h ⊢
              refine ae ?_
              have h := h _ rfl
              refine And.intro (fun c39 => ?_) (fun c39 => ?_)
              · have h := And.left h c39
                exact hq _ _ _ h
              · have h := And.right h c39
                refine du_X10_valueOf h ?_
                intro h
                exact hq _ _ _ h
            · have h := And.right h c38
              refine And.intro (fun c41 => ?_) (fun c41 => ?_)
              · have h := And.left h c41
                unfold aJK at h ⊢
                refine ae ?_
                have h := h _ rfl
                refine And.intro (fun c42 => ?_) (fun c42 => ?_)
                · have h := And.left h c42
                  exact hq _ _ _ h
                · have h := And.right h c42
                  refine du_X10_valueOf h ?_
                  intro h
                  exact hq _ _ _ h
              · have h := And.right h c41
                refine And.intro (fun c44 => ?_) (fun c44 => ?_)
                · have h := And.left h c44
                  unfold aJK at h ⊢
                  refine ae ?_
                  have h := h _ rfl
                  refine And.intro (fun c45 => ?_) (fun c45 => ?_)
                  · have h := And.left h c45
                    exact hq _ _ _ h
                  · have h := And.right h c45
                    refine du_X10_valueOf h ?_
                    intro h
                    exact hq _ _ _ h
                · have h := And.right h c44
                  refine And.intro (fun c47 => ?_) (fun c47 => ?_)
                  · have h := And.left h c47
                    unfold aJK at h ⊢
                    refine ae ?_
                    have h := h _ rfl
                    refine And.intro (fun c48 => ?_) (fun c48 => ?_)
                    · have h := And.left h c48
                      exact hq _ _ _ h
                    · have h := And.right h c48
                      refine du_X10_valueOf h ?_
                      intro h
                      exact hq _ _ _ h
                  · have h := And.right h c47
                    refine And.intro (fun c50 => ?_) (fun c50 => ?_)
                    · have h := And.left h c50
                      unfold aJK at h ⊢
                      refine ae ?_
                      have h := h _ rfl
                      refine And.intro (fun c51 => ?_) (fun c51 => ?_)
                      · have h := And.left h c51
                        exact hq _ _ _ h
                      · have h := And.right h c51
                        refine du_X10_valueOf h ?_
                        intro h
                        exact hq _ _ _ h
                    · have h := And.right h c50
                      refine And.intro (fun c53 => ?_) (fun c53 => ?_)
                      · have h := And.left h c53
                        unfold aJK at h ⊢
                        refine ae ?_
                        have h := h _ rfl
                        refine And.intro (fun c54 => ?_) (fun c54 => ?_)
                        · have h := And.left h c54
                          exact hq _ _ _ h
                        · have h := And.right h c54
                          refine du_X10_valueOf h ?_
                          intro h
                          exact hq _ _ _ h
                      · have h := And.right h c53
                        refine And.intro (fun c56 => ?_) (fun c56 => ?_)
                        · have h := And.left h c56
                          unfold aJK at h ⊢
                          refine ae ?_
                          have h := h _ rfl
                          refine And.intro (fun c57 => ?_) (fun c57 => ?_)
                          · have h := And.left h c57
                            exact hq _ _ _ h
                          · have h := And.right h c57
                            refine du_X10_valueOf h ?_
                            intro h
                            exact hq _ _ _ h
                        · have h := And.right h c56
                          refine du_X10_fault h ?_
                          intro h
                          exact hq _ _ _ h
          · have h := And.right h c37
            refine aEu (by decide) h ?_
            intro h
            exact hq _ _ _ h
        · have h := And.right h c35
          refine ae ?_
          have h := h _ rfl
          refine ae ?_
          have h := h _ rfl
          refine hH h ?_
          intro z63 z64 z65 h
          refine du_X10_need h ?_
          intro h
          exact hq _ _ _ h
    · have h := And.right h c5
      exact hq _ _ _ h
  · have h := And.right h c3
    refine hT h ?_
    intro z68 z69 z70 h
    exact hq _ _ _ h
set_option maxRecDepth 10000 in
theorem ml_X10_product_6 {WT WH : aOw} (hT : MonoT WT) (hH : MonoT WH) {P Q : Int32 -> Int32 -> Int32 -> Prop} {jD : Nat} {mLn oF bZ aR aE bI aW : Int32} {m_x gR pW nG oO qO qQ : Nat -> Int32} (hq : ∀ (o0 : Int32) (o1 : Int32) (o2 : Int32), P o0 o1 o2 -> Q o0 o1 o2) : ∀ (n : Nat) (x1 x2 rP dQ : Int32), wb_X10_product_6 WT WH P jD mLn oF bZ aR aE bI aW m_x gR pW nG oO qO qQ n x1 x2 rP dQ -> wb_X10_product_6 WT WH Q jD mLn oF bZ aR aE bI aW m_x gR pW nG oO qO qQ n x1 x2 rP dQ := by
  intro n
  induction n with
  | zero => intro x1 x2 rP dQ h; exact False.elim h
  | succ n ih =>
    intro x1 x2 rP dQ h
    have h : ws_X10_product_6 WT WH P (wb_X10_product_6 WT WH P jD mLn oF bZ aR aE bI aW m_x gR pW nG oO qO qQ n) jD mLn oF bZ aR aE bI aW m_x gR pW nG oO qO qQ x1 x2 rP dQ := h
    show ws_X10_product_6 WT WH Q (wb_X10_product_6 WT WH Q jD mLn oF bZ aR aE bI aW m_x gR pW nG oO qO qQ n) jD mLn oF bZ aR aE bI aW m_x gR pW nG oO qO qQ x1 x2 rP dQ
    unfold ws_X10_product_6 at h ⊢
    refine du_X10_fine h ?_
    intro h
    refine And.intro (fun c2 => ?_) (fun c2 => ?_)
    · have h := And.left h c2
      exact hq _ _ _ h
    · have h := And.right h c2
      refine du_X10_here h ?_
      intro h
      refine And.intro (fun c4 => ?_) (fun c4 => ?_)
      · have h := And.left h c4
        unfold ws_X10_product_31 at h ⊢
        refine du_X10_here h ?_
        intro h
        refine And.intro (fun c6 => ?_) (fun c6 => ?_)
        · have h := And.left h c6
          unfold ws_X10_product_45 at h ⊢
          refine ae ?_
          have h := h _ rfl
          refine mn_X10_thing hT hH h ?_
          intro z7 z8 z9 h
          refine And.intro (fun c10 => ?_) (fun c10 => ?_)
          · have h := And.left h c10
            refine And.intro (fun c11 => ?_) (fun c11 => ?_)
            · have h := And.left h c11
              refine And.intro (And.left h) ?_
              have h := And.right h
              refine ae ?_
              have h := h _ rfl
              unfold aNM at h ⊢
              exact ih _ _ _ _ h
            · have h := And.right h c11
              unfold aNM at h ⊢
              exact ih _ _ _ _ h
          · have h := And.right h c10
            refine ae ?_
            have h := h _ rfl
            unfold aNM at h ⊢
            exact ih _ _ _ _ h
        · have h := And.right h c6
          unfold ws_X10_product_45 at h ⊢
          refine ae ?_
          have h := h _ rfl
          refine mn_X10_thing hT hH h ?_
          intro z12 z13 z14 h
          refine And.intro (fun c15 => ?_) (fun c15 => ?_)
          · have h := And.left h c15
            refine And.intro (fun c16 => ?_) (fun c16 => ?_)
            · have h := And.left h c16
              refine And.intro (And.left h) ?_
              have h := And.right h
              refine ae ?_
              have h := h _ rfl
              unfold aNM at h ⊢
              exact ih _ _ _ _ h
            · have h := And.right h c16
              unfold aNM at h ⊢
              exact ih _ _ _ _ h
          · have h := And.right h c15
            refine ae ?_
            have h := h _ rfl
            unfold aNM at h ⊢
            exact ih _ _ _ _ h
      · have h := And.right h c4
        refine du_X10_here h ?_
        intro h
        refine And.intro (fun c18 => ?_) (fun c18 => ?_)
        · have h := And.left h c18
          exact hq _ _ _ h
        · have h := And.right h c18
          unfold ws_X10_product_31 at h ⊢
          refine du_X10_here h ?_
          intro h
          refine And.intro (fun c20 => ?_) (fun c20 => ?_)
          · have h := And.left h c20
            unfold ws_X10_product_45 at h ⊢
            refine ae ?_
            have h := h _ rfl
            refine mn_X10_thing hT hH h ?_
            intro z21 z22 z23 h
            refine And.intro (fun c24 => ?_) (fun c24 => ?_)
            · have h := And.left h c24
              refine And.intro (fun c25 => ?_) (fun c25 => ?_)
              · have h := And.left h c25
                refine And.intro (And.left h) ?_
                have h := And.right h
                refine ae ?_
                have h := h _ rfl
                unfold aNM at h ⊢
                exact ih _ _ _ _ h
              · have h := And.right h c25
                unfold aNM at h ⊢
                exact ih _ _ _ _ h
            · have h := And.right h c24
              refine ae ?_
              have h := h _ rfl
              unfold aNM at h ⊢
              exact ih _ _ _ _ h
          · have h := And.right h c20
            unfold ws_X10_product_45 at h ⊢
            refine ae ?_
            have h := h _ rfl
            refine mn_X10_thing hT hH h ?_
            intro z26 z27 z28 h
            refine And.intro (fun c29 => ?_) (fun c29 => ?_)
            · have h := And.left h c29
              refine And.intro (fun c30 => ?_) (fun c30 => ?_)
              · have h := And.left h c30
                refine And.intro (And.left h) ?_
                have h := And.right h
                refine ae ?_
                have h := h _ rfl
                unfold aNM at h ⊢
                exact ih _ _ _ _ h
              · have h := And.right h c30
                unfold aNM at h ⊢
                exact ih _ _ _ _ h
            · have h := And.right h c29
              refine ae ?_
              have h := h _ rfl
              unfold aNM at h ⊢
              exact ih _ _ _ _ h
set_option maxRecDepth 10000 in
theorem mn_X10_product {WT WH : aOw} (hT : MonoT WT) (hH : MonoT WH) {P Q : Int32 -> Int32 -> Int32 -> Prop} {p0 : Int32} {jD : Nat} {mLn oF rP dQ bZ aR aE bI aW : Int32} {m_x gR pW nG oO qO qQ : Nat -> Int32} (h : wp_X10_product WT WH P p0 jD mLn oF rP dQ bZ aR aE bI aW m_x gR pW nG oO qO qQ) (hq : ∀ (o0 : Int32) (o1 : Int32) (o2 : Int32), P o0 o1 o2 -> Q o0 o1 o2) : wp_X10_product WT WH Q p0 jD mLn oF rP dQ bZ aR aE bI aW m_x gR pW nG oO qO qQ := by
  unfold wp_X10_product at h ⊢
  refine mn_X10_thing hT hH h ?_
  intro z1 z2 z3 h
  obtain ⟨n4, h⟩ := h
  exact ⟨n4, ml_X10_product_6 hT hH hq n4 _ _ _ _ h⟩
set_option maxRecDepth 10000 in
theorem ml_X10_sum_6 {WT WH : aOw} (hT : MonoT WT) (hH : MonoT WH) {P Q : Int32 -> Int32 -> Int32 -> Prop} {jD : Nat} {mLn oF bZ aR aE bI aW : Int32} {m_x gR pW nG oO qO qQ : Nat -> Int32} (hq : ∀ (o0 : Int32) (o1 : Int32) (o2 : Int32), P o0 o1 o2 -> Q o0 o1 o2) : ∀ (n : Nat) (x1 x2 rP dQ : Int32), wb_X10_sum_6 WT WH P jD mLn oF bZ aR aE bI aW m_x gR pW nG oO qO qQ n x1 x2 rP dQ -> wb_X10_sum_6 WT WH Q jD mLn oF bZ aR aE bI aW m_x gR pW nG oO qO qQ n x1 x2 rP dQ := by
  intro n
  induction n with
  | zero => intro x1 x2 rP dQ h; exact False.elim h
  | succ n ih =>
    intro x1 x2 rP dQ h
    have h : ws_X10_sum_6 WT WH P (wb_X10_sum_6 WT WH P jD mLn oF bZ aR aE bI aW m_x gR pW nG oO qO qQ n) jD mLn oF bZ aR aE bI aW m_x gR pW nG oO qO qQ x1 x2 rP dQ := h
    show ws_X10_sum_6 WT WH Q (wb_X10_sum_6 WT WH Q jD mLn oF bZ aR aE bI aW m_x gR pW nG oO qO qQ n) jD mLn oF bZ aR aE bI aW m_x gR pW nG oO qO qQ x1 x2 rP dQ
    unfold ws_X10_sum_6 at h ⊢
    refine du_X10_fine h ?_
    intro h
    refine And.intro (fun c2 => ?_) (fun c2 => ?_)
    · have h := And.left h c2
      exact hq _ _ _ h
    · have h := And.right h c2
      refine du_X10_here h ?_
      intro h
      refine And.intro (fun c4 => ?_) (fun c4 => ?_)
      · have h := And.left h c4
        unfold ws_X10_sum_31 at h ⊢
        refine du_X10_here h ?_
        intro h
        refine And.intro (fun c6 => ?_) (fun c6 => ?_)
        · have h := And.left h c6
          unfold ws_X10_sum_45 at h ⊢
          refine ae ?_
          have h := h _ rfl
          refine mn_X10_product hT hH h ?_
          intro z7 z8 z9 h
          refine And.intro (fun c10 => ?_) (fun c10 => ?_)
          · have h := And.left h c10
            refine ae ?_
            have h := h _ rfl
            unfold ws_X10_sum_78 at h ⊢
            exact ih _ _ _ _ h
          · have h := And.right h c10
            refine ae ?_
            have h := h _ rfl
            unfold ws_X10_sum_78 at h ⊢
            exact ih _ _ _ _ h
        · have h := And.right h c6
          unfold ws_X10_sum_45 at h ⊢
          refine ae ?_
          have h := h _ rfl
          refine mn_X10_product hT hH h ?_
          intro z11 z12 z13 h
          refine And.intro (fun c14 => ?_) (fun c14 => ?_)
          · have h := And.left h c14
            refine ae ?_
            have h := h _ rfl
            unfold ws_X10_sum_78 at h ⊢
            exact ih _ _ _ _ h
          · have h := And.right h c14
            refine ae ?_
            have h := h _ rfl
            unfold ws_X10_sum_78 at h ⊢
            exact ih _ _ _ _ h
      · have h := And.right h c4
        refine du_X10_here h ?_
        intro h
        refine And.intro (fun c16 => ?_) (fun c16 => ?_)
        · have h := And.left h c16
          exact hq _ _ _ h
        · have h := And.right h c16
          unfold ws_X10_sum_31 at h ⊢
          refine du_X10_here h ?_
          intro h
          refine And.intro (fun c18 => ?_) (fun c18 => ?_)
          · have h := And.left h c18
            unfold ws_X10_sum_45 at h ⊢
            refine ae ?_
            have h := h _ rfl
            refine mn_X10_product hT hH h ?_
            intro z19 z20 z21 h
            refine And.intro (fun c22 => ?_) (fun c22 => ?_)
            · have h := And.left h c22
              refine ae ?_
              have h := h _ rfl
              unfold ws_X10_sum_78 at h ⊢
              exact ih _ _ _ _ h
            · have h := And.right h c22
              refine ae ?_
              have h := h _ rfl
              unfold ws_X10_sum_78 at h ⊢
              exact ih _ _ _ _ h
          · have h := And.right h c18
            unfold ws_X10_sum_45 at h ⊢
            refine ae ?_
            have h := h _ rfl
            refine mn_X10_product hT hH h ?_
            intro z23 z24 z25 h
            refine And.intro (fun c26 => ?_) (fun c26 => ?_)
            · have h := And.left h c26
              refine ae ?_
              have h := h _ rfl
              unfold ws_X10_sum_78 at h ⊢
              exact ih _ _ _ _ h
            · have h := And.right h c26
              refine ae ?_
              have h := h _ rfl
              unfold ws_X10_sum_78 at h ⊢
              exact ih _ _ _ _ h
set_option maxRecDepth 10000 in
theorem mn_X10_sum {WT WH : aOw} (hT : MonoT WT) (hH : MonoT WH) {P Q : Int32 -> Int32 -> Int32 -> Prop} {p0 : Int32} {jD : Nat} {mLn oF rP dQ bZ aR aE bI aW : Int32} {m_x gR pW nG oO qO qQ : Nat -> Int32} (h : wp_X10_sum WT WH P p0 jD mLn oF rP dQ bZ aR aE bI aW m_x gR pW nG oO qO qQ) (hq : ∀ (o0 : Int32) (o1 : Int32) (o2 : Int32), P o0 o1 o2 -> Q o0 o1 o2) : wp_X10_sum WT WH Q p0 jD mLn oF rP dQ bZ aR aE bI aW m_x gR pW nG oO qO qQ := by
  unfold wp_X10_sum at h ⊢
  refine mn_X10_product hT hH h ?_
  intro z1 z2 z3 h
  obtain ⟨n4, h⟩ := h
  exact ⟨n4, ml_X10_sum_6 hT hH hq n4 _ _ _ _ h⟩
set_option maxRecDepth 10000 in
theorem mn_X10_held {WT WH : aOw} (hT : MonoT WT) (hH : MonoT WH) {P Q : Int32 -> Int32 -> Int32 -> Prop} {p0 : Int32} {jD : Nat} {mLn oF rP dQ bZ aR aE bI aW : Int32} {m_x gR pW nG oO qO qQ : Nat -> Int32} (h : wp_X10_held WT WH P p0 jD mLn oF rP dQ bZ aR aE bI aW m_x gR pW nG oO qO qQ) (hq : ∀ (o0 : Int32) (o1 : Int32) (o2 : Int32), P o0 o1 o2 -> Q o0 o1 o2) : wp_X10_held WT WH Q p0 jD mLn oF rP dQ bZ aR aE bI aW m_x gR pW nG oO qO qQ := by
  unfold wp_X10_held at h ⊢
  refine mn_X10_sum hT hH h ?_
  intro z1 z2 z3 h
  refine du_X10_passes h ?_
  intro h
  refine And.intro (fun c6 => ?_) (fun c6 => ?_)
  · have h := And.left h c6
    refine du_X10_passes h ?_
    intro h
    refine And.intro (fun c9 => ?_) (fun c9 => ?_)
    · have h := And.left h c9
      refine du_X10_passes h ?_
      intro h
      refine And.intro (fun c12 => ?_) (fun c12 => ?_)
      · have h := And.left h c12
        exact hq _ _ _ h
      · have h := And.right h c12
        refine mn_X10_sum hT hH h ?_
        intro z13 z14 z15 h
        refine And.intro (fun c16 => ?_) (fun c16 => ?_)
        · have h := And.left h c16
          exact hq _ _ _ h
        · have h := And.right h c16
          exact hq _ _ _ h
    · have h := And.right h c9
      refine mn_X10_sum hT hH h ?_
      intro z17 z18 z19 h
      refine And.intro (fun c20 => ?_) (fun c20 => ?_)
      · have h := And.left h c20
        exact hq _ _ _ h
      · have h := And.right h c20
        exact hq _ _ _ h
  · have h := And.right h c6
    refine mn_X10_sum hT hH h ?_
    intro z21 z22 z23 h
    refine And.intro (fun c24 => ?_) (fun c24 => ?_)
    · have h := And.left h c24
      exact hq _ _ _ h
    · have h := And.right h c24
      exact hq _ _ _ h
theorem rr_mono : ∀ n : Nat, MonoT (rr_X10 n).1 /\ MonoT (rr_X10 n).2 := by
  intro n
  induction n with
  | zero => exact ⟨by intro P Q a b c1 c2 c3 c4 c5 c6 c7 c8 c9 f1 f2 f3 f4 f5 f6 f7 h hq; exact False.elim h, by intro P Q a b c1 c2 c3 c4 c5 c6 c7 c8 c9 f1 f2 f3 f4 f5 f6 f7 h hq; exact False.elim h⟩
  | succ n ih => exact ⟨by intro P Q a b c1 c2 c3 c4 c5 c6 c7 c8 c9 f1 f2 f3 f4 f5 f6 f7 h hq; exact mn_X10_thing ih.1 ih.2 h hq, by intro P Q a b c1 c2 c3 c4 c5 c6 c7 c8 c9 f1 f2 f3 f4 f5 f6 f7 h hq; exact mn_X10_held ih.1 ih.2 h hq⟩
theorem mn_X10_heldR {P Q : Int32 -> Int32 -> Int32 -> Prop} {p0 : Int32} {jD : Nat} {mLn oF rP dQ bZ aR aE bI aW : Int32} {m_x gR pW nG oO qO qQ : Nat -> Int32} (h : wp_X10_heldR P p0 jD mLn oF rP dQ bZ aR aE bI aW m_x gR pW nG oO qO qQ) (hq : ∀ r x y : Int32, P r x y -> Q r x y) : wp_X10_heldR Q p0 jD mLn oF rP dQ bZ aR aE bI aW m_x gR pW nG oO qO qQ :=
  mn_X10_held (rr_mono 43).1 (rr_mono 43).2 h hq
set_option maxRecDepth 10000 in
theorem mn_X10_secondsOf {P Q : Int32 -> Nat -> Int32 -> Int32 -> Int32 -> Int32 -> Int32 -> Int32 -> Int32 -> Int32 -> Int32 -> Prop} {p0 p1 p2 p3 : Int32} {jD : Nat} {mLn oF rP dQ bW bZ aR aE bI aW : Int32} {m_x gR pW nG oO qO qQ : Nat -> Int32} (h : aXm P p0 p1 p2 p3 jD mLn oF rP dQ bW bZ aR aE bI aW m_x gR pW nG oO qO qQ) (hq : ∀ (o0 : Int32) (o1 : Nat) (o2 : Int32) (o3 : Int32) (o4 : Int32) (o5 : Int32) (o6 : Int32) (o7 : Int32) (o8 : Int32) (o9 : Int32) (o10 : Int32), P o0 o1 o2 o3 o4 o5 o6 o7 o8 o9 o10 -> Q o0 o1 o2 o3 o4 o5 o6 o7 o8 o9 o10) : aXm Q p0 p1 p2 p3 jD mLn oF rP dQ bW bZ aR aE bI aW m_x gR pW nG oO qO qQ := by
  unfold aXm at h ⊢
  refine du_X10_far h ?_
  intro h
  refine ae ?_
  have h := h _ rfl
  refine du_X10_above h ?_
  intro h
  refine ae ?_
  have h := h _ rfl
  refine And.intro (fun c3 => ?_) (fun c3 => ?_)
  · have h := And.left h c3
    unfold ws_X10_secondsOf_80 at h ⊢
    refine ae ?_
    have h := h _ rfl
    refine ae ?_
    have h := h _ rfl
    exact hq _ _ _ _ _ _ _ _ _ _ _ h
  · have h := And.right h c3
    refine du_X10_begin_b2 h ?_
    intro h
    refine mn_X10_heldR h ?_
    intro z9 z10 z11 h
    unfold ws_X10_secondsOf_80 at h ⊢
    refine ae ?_
    have h := h _ rfl
    refine ae ?_
    have h := h _ rfl
    exact hq _ _ _ _ _ _ _ _ _ _ _ h
/-! the moment: bits of the class against the reference's row now[] -/
def W3 (a b g : Bool) (v : Int32) : Prop := (v = 0 /\ a = false /\ b = false /\ g = false) \/ (v = 1 /\ a = true /\ b = false /\ g = false) \/ (v = 2 /\ a = false /\ b = true /\ g = false) \/ (v = 3 /\ a = false /\ b = false /\ g = true)
def MO (fr ap ba gr : Int32) (now : Nat -> Int32) : Prop := (∀ j : Nat, (j : Int) < fr.toInt -> W3 (bt ap j) (bt ba j) (bt gr j) (now j)) /\ (∀ j : Nat, fr.toInt <= (j : Int) -> bt ap j = false /\ bt ba j = false /\ bt gr j = false)
def MQm (fr ap ba gr br la he td : Int32) (now : Nat -> Int32) : Prop := MO fr ap ba gr now /\ br = now 16 /\ la = now 17 /\ he = now 18 /\ td = now 19
def LQ (sd la he td : Int32) : Prop := (-1 <= la.toInt /\ la.toInt < sd.toInt) /\ (0 <= td.toInt /\ td.toInt <= 9) /\ (he = 0 \/ he = 1)
def MR (fr sd ap ba gr br la he td : Int32) (now : Nat -> Int32) : Prop := MQm fr ap ba gr br la he td now /\ LQ sd la he td
/-- bits that a loop gathers: one for each k for which c holds -/
theorem itr_bt {f : Int32 -> Int32 -> Int32} {c : Nat -> Bool} (n : Nat) (hn : n <= 32) (hf : ∀ (k : Nat) (s : Int32), k < n -> f (nI (0 + k)) s = if c k = true then s ||| (1 <<< (nI (0 + k) &&& 31)) else s) : ∀ j : Nat, bt (itr f 0 0 n) j = (decide (j < n) && c j) := by
  have key : ∀ k : Nat, k <= n -> ∀ j : Nat, bt (itr f 0 0 k) j = (decide (j < k) && c j) := by
    intro k
    induction k with
    | zero => intro _ j; show bt 0 j = _; rw [bt_zero]; simp
    | succ k ih =>
      intro hk j
      rw [itr_s, hf k _ (by omega), Nat.zero_add]
      by_cases hc : c k = true
      · rw [if_pos hc, bt_or, ih (by omega), bt_shlN k (by omega)]
        by_cases hj : j = k
        · rw [hj, hc]; simp
        · rw [decide_eq_false hj, Bool.or_false]
          rw [show decide (j < k + 1) = decide (j < k) from decide_eq_decide.mpr (by omega)]
      · rw [if_neg hc, ih (by omega)]
        by_cases hj : j = k
        · rw [hj]; cases h9 : c k
          · simp
          · exact absurd h9 hc
        · rw [show decide (j < k + 1) = decide (j < k) from decide_eq_decide.mpr (by omega)]
  exact key n (Nat.le_refl n)
theorem z16 {fr : Int32} (h : 0 <= fr.toInt /\ fr.toInt <= 16) : (Int32.toInt fr - ((0 : Nat) : Int)).toNat = fr.toInt.toNat /\ fr.toInt.toNat <= 16 /\ ((fr.toInt.toNat : Nat) : Int) = fr.toInt := by omega
theorem wh_bt {v fr : Int32} {now : Nat -> Int32} (h : 0 <= fr.toInt /\ fr.toInt <= 16) (j : Nat) : bt (aUf v fr now) j = (decide (j < fr.toInt.toNat) && decide (now j = v)) := by
  obtain ⟨z, z2, _⟩ := z16 h
  rw [aUf, ex_X10_which_5, z]
  refine itr_bt (c := fun j => decide (now j = v)) _ (by omega) (fun k s hk => ?_) j
  have i := (nI_0c (k := k) (by omega)).1
  rw [bd_X10_which_5, i]
  by_cases c : now k = v
  · rw [if_pos c, if_pos (decide_eq_true c), j_X10_which_31]
  · rw [if_neg c, if_neg (by rw [decide_eq_false c]; decide), j_X10_which_31, or0]
theorem af_t : ∀ n, n <= 16 -> ∀ j, j < 32 -> bt (((1 : Int32) <<< (nI n &&& 31)) - 1) j = decide (j < n) := by decide +kernel
theorem af_bt {fr : Int32} (h : 0 <= fr.toInt /\ fr.toInt <= 16) (j : Nat) : bt (F_X3_allFruits fr) j = decide (j < fr.toInt.toNat) := by
  rw [F_X3_allFruits]
  have e := tp_nI h.1
  by_cases hj : j < 32
  · have q := af_t fr.toInt.toNat (by omega) j hj
    rw [<- e] at q
    exact q
  · rw [bt_ge _ _ (by omega)]; exact (decide_eq_false (by omega)).symm
theorem bt_eq {x y : Int32} (h : ∀ k : Nat, bt x k = bt y k) : x = y := bt_ext (fun k _ => h k)
section MOM
variable {fr ap ba gr br la he td : Int32} {now : Nat -> Int32}
theorem mo_v (hm : MO fr ap ba gr now) (h : 0 <= fr.toInt /\ fr.toInt <= 16) (j : Nat) : bt (aUf 1 fr now) j = bt ap j /\ bt (aUf 2 fr now) j = bt ba j /\ bt (aUf 3 fr now) j = bt gr j /\ bt (aUf 0 fr now) j = (decide (j < fr.toInt.toNat) && !(bt ap j || bt ba j || bt gr j)) := by
  rw [wh_bt h, wh_bt h, wh_bt h, wh_bt h]
  by_cases hj : j < fr.toInt.toNat
  · rw [decide_eq_true hj]
    rcases hm.1 j (by omega) with ⟨e, a, b, c⟩ | ⟨e, a, b, c⟩ | ⟨e, a, b, c⟩ | ⟨e, a, b, c⟩ <;> rw [e, a, b, c] <;> decide
  · rw [decide_eq_false hj]
    obtain ⟨a, b, c⟩ := hm.2 j (by omega)
    rw [a, b, c]
    simp
theorem mo_ap (hm : MO fr ap ba gr now) (h : 0 <= fr.toInt /\ fr.toInt <= 16) : aUf 1 fr now = ap := bt_eq (fun k => (mo_v hm h k).1)
theorem mo_ba (hm : MO fr ap ba gr now) (h : 0 <= fr.toInt /\ fr.toInt <= 16) : aUf 2 fr now = ba := bt_eq (fun k => (mo_v hm h k).2.1)
theorem mo_gr (hm : MO fr ap ba gr now) (h : 0 <= fr.toInt /\ fr.toInt <= 16) : aUf 3 fr now = gr := bt_eq (fun k => (mo_v hm h k).2.2.1)
theorem hg_bt (h : 0 <= fr.toInt /\ fr.toInt <= 16) (j : Nat) : bt (aVS fr ap ba gr) j = (decide (j < fr.toInt.toNat) && !(bt ap j || bt ba j || bt gr j)) := by
  rw [aVS]
  by_cases hj : j < 32
  · rw [bt_and, af_bt h, bt_not _ _ hj, bt_or, bt_or]
  · rw [bt_ge _ _ (by omega), decide_eq_false (by omega)]; rfl
theorem mo_hg (hm : MO fr ap ba gr now) (h : 0 <= fr.toInt /\ fr.toInt <= 16) : aUf 0 fr now = aVS fr ap ba gr := bt_eq (fun k => by rw [(mo_v hm h k).2.2.2, hg_bt h])
theorem mo_0 (hm : MO fr ap ba gr now) {j : Nat} (hj : (j : Int) < fr.toInt) : now j = 0 ↔ (bt ap j = false /\ bt ba j = false /\ bt gr j = false) := by
  rcases hm.1 j hj with ⟨e, a, b, c⟩ | ⟨e, a, b, c⟩ | ⟨e, a, b, c⟩ | ⟨e, a, b, c⟩ <;> rw [e, a, b, c] <;> decide
end MOM
/-! rows that are laid: lay, remember, undo -/
theorem itr_lay {f : Int32 -> (Nat -> Int32) -> (Nat -> Int32)} {g : Nat -> Nat} {v : Nat -> Int32} (n : Nat) (u : Nat -> Int32) (hf : ∀ (k : Nat) (s : Nat -> Int32), k < n -> f (nI (0 + k)) s = upd s (g k) (v k)) (hg : ∀ a b : Nat, a < n -> b < n -> g a = g b -> a = b) : (∀ k : Nat, k < n -> itr f u 0 n (g k) = v k) /\ (∀ i : Nat, (∀ k : Nat, k < n -> i ≠ g k) -> itr f u 0 n i = u i) := by
  have key : ∀ m : Nat, m <= n -> (∀ k : Nat, k < m -> itr f u 0 m (g k) = v k) /\ (∀ i : Nat, (∀ k : Nat, k < m -> i ≠ g k) -> itr f u 0 m i = u i) := by
    intro m
    induction m with
    | zero => intro _; exact ⟨fun k hk => absurd hk (by omega), fun i _ => rfl⟩
    | succ m ih =>
      intro hm
      obtain ⟨i1, i2⟩ := ih (by omega)
      rw [itr_s, hf m _ (by omega)]
      refine ⟨fun k hk => ?_, fun i hi => ?_⟩
      · by_cases h : k = m
        · rw [h, upd_i]
        · rw [aGi _ _ (fun e => h (hg k m (by omega) (by omega) e))]
          exact i1 k (by omega)
      · rw [aGi _ _ (hi m (by omega))]
        exact i2 i (fun k hk => hi k (by omega))
  exact key n (Nat.le_refl n)
theorem z21 : (Int32.toInt 21 - ((0 : Nat) : Int)).toNat = 21 := by decide
theorem pc_n {p c : Int32} (hp : 0 <= p.toInt /\ p.toInt <= 1000) (hc : 0 <= c.toInt /\ c.toInt <= 1000) : (p + c).toNatClampNeg = p.toInt.toNat + c.toInt.toNat := by
  rw [cl_n, aAD p c (by omega)]; omega
theorem lay_v {p : Int32} {now u : Nat -> Int32} (hp : 0 <= p.toInt /\ p.toInt <= 1000) : (∀ k : Nat, k < 21 -> F_X10_lay p now u (p.toInt.toNat + k) = now k) /\ (∀ i : Nat, (i < p.toInt.toNat \/ p.toInt.toNat + 21 <= i) -> F_X10_lay p now u i = u i) := by
  rw [F_X10_lay, ex_X10_lay_2, z21]
  have q := itr_lay (f := bd_X10_lay_2 now p) (g := fun k => p.toInt.toNat + k) (v := now) 21 u (fun k s hk => by
    have i := nI_0c (k := k) (by omega)
    rw [bd_X10_lay_2, i.1, pc_n hp (by omega)]
    have e : (Int32.toInt (nI (0 + k))).toNat = k := by omega
    rw [e]) (fun a b _ _ h => by omega)
  exact ⟨q.1, fun i hi => q.2 i (fun k hk => by omega)⟩
theorem lay2_v {p : Int32} {now u : Nat -> Int32} (hp : 0 <= p.toInt /\ p.toInt <= 1000) : (∀ k : Nat, k < 21 -> F_X10_lay_b2 p now u (p.toInt.toNat + k) = now k) /\ (∀ i : Nat, (i < p.toInt.toNat \/ p.toInt.toNat + 21 <= i) -> F_X10_lay_b2 p now u i = u i) := lay_v hp
theorem lay3_v {p : Int32} {now u : Nat -> Int32} (hp : 0 <= p.toInt /\ p.toInt <= 1000) : (∀ k : Nat, k < 21 -> F_X10_lay_b3 p u now (p.toInt.toNat + k) = now k) /\ (∀ i : Nat, (i < p.toInt.toNat \/ p.toInt.toNat + 21 <= i) -> F_X10_lay_b3 p u now i = u i) := lay_v hp
theorem lay4_v {p : Int32} {now u : Nat -> Int32} (hp : 0 <= p.toInt /\ p.toInt <= 1000) : (∀ k : Nat, k < 21 -> F_X10_lay_b4 p now u (p.toInt.toNat + k) = now k) /\ (∀ i : Nat, (i < p.toInt.toNat \/ p.toInt.toNat + 21 <= i) -> F_X10_lay_b4 p now u i = u i) := lay_v hp
theorem sh_v {now u : Nat -> Int32} {m : Int32} : ∀ n : Nat, n <= 231 -> (∀ i : Nat, i < n -> itr (bd_X10_remember_11 now m) u 0 n i = u (i + 21)) /\ (∀ i : Nat, n <= i -> itr (bd_X10_remember_11 now m) u 0 n i = u i) := by
  have l21 : Int32.toInt (21 : Int32) = 21 := by decide
  intro n
  induction n with
  | zero => intro _; exact ⟨fun i hi => absurd hi (by omega), fun i _ => rfl⟩
  | succ n ih =>
    intro hn
    obtain ⟨i1, i2⟩ := ih (by omega)
    have i := nI_0c (k := n) (by omega)
    have e : (nI (0 + n) + 21).toNatClampNeg = n + 21 := by rw [cl_n, aAD _ _ (by omega)]; omega
    rw [itr_s, bd_X10_remember_11, i.1, e]
    refine ⟨fun j hj => ?_, fun j hj => ?_⟩
    · by_cases h : j = n
      · rw [h, upd_i]; exact i2 _ (by omega)
      · rw [aGi _ _ h]; exact i1 j (by omega)
    · rw [aGi _ _ (by omega)]; exact i2 j (by omega)
theorem m21 {m : Int32} (h : 0 <= m.toInt /\ m.toInt <= 40) : (21 * m).toInt = 21 * m.toInt := by
  have l : Int32.toInt (21 : Int32) = 21 := by decide
  have := ta_cmul 21 m l (by omega)
  omega
theorem rem_v {m : Int32} {now u : Nat -> Int32} (h : 0 <= m.toInt /\ m.toInt <= 12) : (m.toInt < 12 /\ Int32.toInt (aNN m now u).1 = m.toInt + 1 /\ (∀ k : Nat, k < 21 -> (aNN m now u).2 (21 * m.toInt.toNat + k) = now k) /\ (∀ i : Nat, i < 21 * m.toInt.toNat -> (aNN m now u).2 i = u i)) \/ (m.toInt = 12 /\ Int32.toInt (aNN m now u).1 = 12 /\ (∀ k : Nat, k < 21 -> (aNN m now u).2 (231 + k) = now k) /\ (∀ i : Nat, i < 231 -> (aNN m now u).2 i = u (i + 21))) := by
  have l1 : Int32.toInt (1 : Int32) = 1 := by decide
  have l12 : Int32.toInt (12 : Int32) = 12 := by decide
  rw [aNN]
  by_cases c : m = 12
  · have d := (zJ _ _).mp c
    have s1 := aCA m 1 (by omega)
    have e := m21 (m := m - 1) (by omega)
    have a := aAD (m - 1) 1 (by omega)
    rw [if_pos c, ex_X10_remember_11, j_X10_remember_49, show (Int32.toInt 231 - ((0 : Nat) : Int)).toNat = 231 from by decide]
    obtain ⟨i1, i2⟩ := sh_v (now := now) (u := u) (m := m) 231 (by omega)
    obtain ⟨q1, q2⟩ := lay_v (p := 21 * (m - 1)) (now := now) (u := itr (bd_X10_remember_11 now m) u 0 231) (by omega)
    refine Or.inr ⟨by omega, by show Int32.toInt (m - 1 + 1) = 12; omega, fun k hk => ?_, fun i hi => ?_⟩
    · have := q1 k hk
      rw [show (21 * (m - 1)).toInt.toNat + k = 231 + k by omega] at this
      exact this
    · exact (q2 i (by omega)).trans (i1 i hi)
  · have d := mt (zJ _ _).mpr c
    have e := m21 (m := m) (by omega)
    have a := aAD m 1 (by omega)
    rw [if_neg c, j_X10_remember_49]
    obtain ⟨q1, q2⟩ := lay_v (p := 21 * m) (now := now) (u := u) (by omega)
    refine Or.inl ⟨by omega, by show Int32.toInt (m + 1) = _; omega, fun k hk => ?_, fun i hi => ?_⟩
    · have := q1 k hk
      rw [show (21 * m).toInt.toNat + k = 21 * m.toInt.toNat + k by omega] at this
      exact this
    · exact q2 i (by omega)
/-! what can be undone -/
def MRC (fr sd : Int32) (cells : Nat -> Int32) (c : Nat) (u : Nat -> Int32) (b : Nat) : Prop := MR fr sd (cells c) (cells (c + 1)) (cells (c + 2)) (cells (c + 3)) (cells (c + 4)) (cells (c + 5)) (cells (c + 6)) (fun j => u (b + j))
def URn (fr sd : Int32) (n f : Nat) (cells u : Nat -> Int32) : Prop := ∀ i : Nat, i < n -> MRC fr sd cells (8 * ((f + 12 - i) % 13)) u (21 * (n - 1 - i))
def UR (fr sd und free mund : Int32) (cells u : Nat -> Int32) : Prop := und.toInt = mund.toInt /\ (0 <= und.toInt /\ und.toInt <= 12) /\ (0 <= free.toInt /\ free.toInt <= 12) /\ URn fr sd und.toInt.toNat free.toInt.toNat cells u
theorem MO_c {fr ap ba gr : Int32} {f g : Nat -> Int32} (h : MO fr ap ba gr f) (hf : fr.toInt <= 16) (e : ∀ j : Nat, j < 21 -> g j = f j) : MO fr ap ba gr g := ⟨fun j hj => by rw [e j (by omega)]; exact h.1 j hj, h.2⟩
theorem MQm_c {fr ap ba gr br la he td : Int32} {f g : Nat -> Int32} (h : MQm fr ap ba gr br la he td f) (hf : fr.toInt <= 16) (e : ∀ j : Nat, j < 21 -> g j = f j) : MQm fr ap ba gr br la he td g := ⟨MO_c h.1 hf e, by rw [e 16 (by omega)]; exact h.2.1, by rw [e 17 (by omega)]; exact h.2.2.1, by rw [e 18 (by omega)]; exact h.2.2.2.1, by rw [e 19 (by omega)]; exact h.2.2.2.2⟩
theorem MR_c {fr sd ap ba gr br la he td : Int32} {f g : Nat -> Int32} (h : MR fr sd ap ba gr br la he td f) (hf : fr.toInt <= 16) (e : ∀ j : Nat, j < 21 -> g j = f j) : MR fr sd ap ba gr br la he td g := ⟨MQm_c h.1 hf e, h.2⟩
theorem MRC_c {fr sd : Int32} {c1 c2 u1 u2 : Nat -> Int32} {a1 a2 b1 b2 : Nat} (h : MRC fr sd c1 a1 u1 b1) (hf : fr.toInt <= 16) (e : ∀ j : Nat, j < 7 -> c2 (a2 + j) = c1 (a1 + j)) (e2 : ∀ j : Nat, j < 21 -> u2 (b2 + j) = u1 (b1 + j)) : MRC fr sd c2 a2 u2 b2 := by
  have q := MR_c h hf e2
  unfold MRC
  have e0 := e 0 (by omega)
  rw [Nat.add_zero, Nat.add_zero] at e0
  rw [e0, e 1 (by omega), e 2 (by omega), e 3 (by omega), e 4 (by omega), e 5 (by omega), e 6 (by omega)]
  exact q
theorem wr_v {p ap ba gr br la he td cl : Int32} {cells : Nat -> Int32} (h : 0 <= p.toInt /\ p.toInt <= 96) : (F_X2_write p ap ba gr br la he td cl cells p.toInt.toNat = ap /\ F_X2_write p ap ba gr br la he td cl cells (p.toInt.toNat + 1) = ba /\ F_X2_write p ap ba gr br la he td cl cells (p.toInt.toNat + 2) = gr /\ F_X2_write p ap ba gr br la he td cl cells (p.toInt.toNat + 3) = br /\ F_X2_write p ap ba gr br la he td cl cells (p.toInt.toNat + 4) = la /\ F_X2_write p ap ba gr br la he td cl cells (p.toInt.toNat + 5) = he /\ F_X2_write p ap ba gr br la he td cl cells (p.toInt.toNat + 6) = td) /\ (∀ i : Nat, (i < p.toInt.toNat \/ p.toInt.toNat + 8 <= i) -> F_X2_write p ap ba gr br la he td cl cells i = cells i) := by
  have l0 : Int32.toInt (0 : Int32) = 0 := by decide
  have l96 : Int32.toInt (104 - 8 : Int32) = 96 := by decide
  have a0 := cl_n p
  have ad : ∀ (c : Int32) (n : Nat), c.toInt = (n : Int) -> n <= 7 -> (p + c).toNatClampNeg = p.toInt.toNat + n := by
    intro c n hc hn
    rw [cl_n, aAD _ _ (by omega)]; omega
  have a1 := ad 1 1 (by decide) (by decide)
  have a2 := ad 2 2 (by decide) (by decide)
  have a3 := ad 3 3 (by decide) (by decide)
  have a4 := ad 4 4 (by decide) (by decide)
  have a5 := ad 5 5 (by decide) (by decide)
  have a6 := ad 6 6 (by decide) (by decide)
  have a7 := ad 7 7 (by decide) (by decide)
  rw [F_X2_write, if_neg (fun c => by have := (aAd _ _).mp c; omega), if_pos ((aAO _ _).mpr (by omega)), a0, a1, a2, a3, a4, a5, a6, a7]
  refine ⟨⟨?_, ?_, ?_, ?_, ?_, ?_, ?_⟩, fun i hi => ?_⟩
  · rw [aGi _ _ (by omega), aGi _ _ (by omega), aGi _ _ (by omega), aGi _ _ (by omega), aGi _ _ (by omega), aGi _ _ (by omega), aGi _ _ (by omega), upd_i]
  · rw [aGi _ _ (by omega), aGi _ _ (by omega), aGi _ _ (by omega), aGi _ _ (by omega), aGi _ _ (by omega), aGi _ _ (by omega), upd_i]
  · rw [aGi _ _ (by omega), aGi _ _ (by omega), aGi _ _ (by omega), aGi _ _ (by omega), aGi _ _ (by omega), upd_i]
  · rw [aGi _ _ (by omega), aGi _ _ (by omega), aGi _ _ (by omega), aGi _ _ (by omega), upd_i]
  · rw [aGi _ _ (by omega), aGi _ _ (by omega), aGi _ _ (by omega), upd_i]
  · rw [aGi _ _ (by omega), aGi _ _ (by omega), upd_i]
  · rw [aGi _ _ (by omega), upd_i]
  · rw [aGi _ _ (by omega), aGi _ _ (by omega), aGi _ _ (by omega), aGi _ _ (by omega), aGi _ _ (by omega), aGi _ _ (by omega), aGi _ _ (by omega), aGi _ _ (by omega)]
theorem f8 {free : Int32} (h : 0 <= free.toInt /\ free.toInt <= 12) : (free * 8).toInt = 8 * free.toInt := by
  have l : Int32.toInt (8 : Int32) = 8 := by decide
  have := ta_mulc free 8 l (by omega)
  omega
theorem URn_s {fr sd : Int32} {n f : Nat} {cells cells' u u' : Nat -> Int32} (h : URn fr sd n f cells u) (hn : n < 12) (hf : f <= 12) (hfr : fr.toInt <= 16) (hc : ∀ i : Nat, (i < 8 * f \/ 8 * f + 8 <= i) -> cells' i = cells i) (hu : ∀ i : Nat, i < 21 * n -> u' i = u i) (hnew : MRC fr sd cells' (8 * f) u' (21 * n)) : URn fr sd (n + 1) ((f + 1) % 13) cells' u' := by
  intro i hi
  by_cases h0 : i = 0
  · subst h0
    rw [show ((f + 1) % 13 + 12 - 0) % 13 = f by omega, show n + 1 - 1 - 0 = n by omega]
    exact hnew
  · have q := h (i - 1) (by omega)
    have e1 : ((f + 1) % 13 + 12 - i) % 13 = (f + 12 - (i - 1)) % 13 := by omega
    have e2 : n + 1 - 1 - i = n - 1 - (i - 1) := by omega
    have e3 : (f + 12 - (i - 1)) % 13 ≠ f := by omega
    rw [e1, e2]
    refine MRC_c q hfr (fun j hj => hc _ ?_) (fun j hj => hu _ ?_)
    · generalize (f + 12 - (i - 1)) % 13 = x at e3 ⊢
      omega
    · omega
theorem URn_t {fr sd : Int32} {f : Nat} {cells cells' u u' : Nat -> Int32} (h : URn fr sd 12 f cells u) (hf : f <= 12) (hfr : fr.toInt <= 16) (hc : ∀ i : Nat, (i < 8 * f \/ 8 * f + 8 <= i) -> cells' i = cells i) (hu : ∀ i : Nat, i < 231 -> u' i = u (i + 21)) (hnew : MRC fr sd cells' (8 * f) u' 231) : URn fr sd 12 ((f + 1) % 13) cells' u' := by
  intro i hi
  by_cases h0 : i = 0
  · subst h0
    rw [show ((f + 1) % 13 + 12 - 0) % 13 = f by omega]
    exact hnew
  · have q := h (i - 1) (by omega)
    have e1 : ((f + 1) % 13 + 12 - i) % 13 = (f + 12 - (i - 1)) % 13 := by omega
    have e3 : (f + 12 - (i - 1)) % 13 ≠ f := by omega
    rw [e1]
    refine MRC_c q hfr (fun j hj => hc _ ?_) (fun j hj => ?_)
    · generalize (f + 12 - (i - 1)) % 13 = x at e3 ⊢
      omega
    · rw [hu _ (by omega)]
      congr 1
      omega
theorem URn_n {fr sd : Int32} {n f : Nat} {cells cells' u : Nat -> Int32} (h : URn fr sd n f cells u) (hn : n <= 12) (hf : f <= 12) (hfr : fr.toInt <= 16) (hc : ∀ i : Nat, (i < 8 * f \/ 8 * f + 8 <= i) -> cells' i = cells i) : URn fr sd n f cells' u := by
  intro i hi
  have e3 : (f + 12 - i) % 13 ≠ f := by omega
  refine MRC_c (h i hi) hfr (fun j hj => hc _ ?_) (fun j _ => rfl)
  generalize (f + 12 - i) % 13 = x at e3 ⊢
  omega
theorem URn_b {fr sd : Int32} {n f : Nat} {cells u : Nat -> Int32} (h : URn fr sd n f cells u) (hn : n <= 12) (hf : f <= 12) (h0 : 0 < n) : MRC fr sd cells (8 * ((f + 12) % 13)) u (21 * (n - 1)) /\ URn fr sd (n - 1) ((f + 12) % 13) cells u := by
  refine ⟨h 0 h0, fun i hi => ?_⟩
  have q := h (i + 1) (by omega)
  rw [show ((f + 12) % 13 + 12 - i) % 13 = (f + 12 - (i + 1)) % 13 by omega, show n - 1 - 1 - i = n - 1 - (i + 1) by omega]
  exact q
theorem nt_v {free ap ba gr br la he td cl : Int32} {cells : Nat -> Int32} (h3 : 0 <= free.toInt /\ free.toInt <= 12) : (∀ i : Nat, (i < 8 * free.toInt.toNat \/ 8 * free.toInt.toNat + 8 <= i) -> F_X4_note ap ba gr br la he td cl free cells i = cells i) /\ (∀ (fr sd : Int32) (now v : Nat -> Int32) (b : Nat), fr.toInt <= 16 -> MR fr sd ap ba gr br la he td now -> (∀ k : Nat, k < 21 -> v (b + k) = now k) -> MRC fr sd (F_X4_note ap ba gr br la he td cl free cells) (8 * free.toInt.toNat) v b) := by
  have e := f8 h3
  obtain ⟨w1, w⟩ := wr_v (p := free * 8) (ap := ap) (ba := ba) (gr := gr) (br := br) (la := la) (he := he) (td := td) (cl := cl) (cells := cells) (by omega)
  have p8 : (free * 8).toInt.toNat = 8 * free.toInt.toNat := by omega
  rw [p8] at w1 w
  rw [F_X4_note]
  refine ⟨w, fun fr sd now v b hf hm hv => ?_⟩
  unfold MRC
  obtain ⟨q0, q1, q2, q3, q4, q5, q6⟩ := w1
  rw [q0, q1, q2, q3, q4, q5, q6]
  exact MR_c hm hf hv
theorem UR_note {fr sd und free mund ap ba gr br la he td cl : Int32} {cells u : Nat -> Int32} (h : UR fr sd und free mund cells u) (hf : fr.toInt <= 16) : UR fr sd und free mund (F_X4_note ap ba gr br la he td cl free cells) u := by
  obtain ⟨h1, h2, h3, h4⟩ := h
  exact ⟨h1, h2, h3, URn_n h4 (by omega) (by omega) hf (nt_v h3).1⟩
theorem hold_v {und free : Int32} (h2 : 0 <= und.toInt /\ und.toInt <= 12) (h3 : 0 <= free.toInt /\ free.toInt <= 12) : ((und.toInt < 12 /\ Int32.toInt (F_X4_hold und free).1 = und.toInt + 1) \/ (und.toInt = 12 /\ Int32.toInt (F_X4_hold und free).1 = 12)) /\ Int32.toInt (F_X4_hold und free).2 = (free.toInt + 1) % 13 := by
  have l1 : Int32.toInt (1 : Int32) = 1 := by decide
  have l12 : Int32.toInt (12 : Int32) = 12 := by decide
  have l13 : Int32.toInt (13 : Int32) = 13 := by decide
  have af := aAD free 1 (by omega)
  have rf := ti_rem (free + 1) 13 l13 (by omega) (by omega)
  have au := aAD und 1 (by omega)
  rw [F_X4_hold]
  refine ⟨?_, ?_⟩
  · show (_ /\ Int32.toInt (if und + 1 < 12 then und + 1 else 12) = _) \/ (_ /\ Int32.toInt (if und + 1 < 12 then und + 1 else 12) = _)
    by_cases c : und + 1 < 12
    · have d := (aAd _ _).mp c
      rw [if_pos c]; omega
    · have d := mt (aAd _ _).mpr c
      rw [if_neg c]; omega
  · show Int32.toInt ((free + 1) - (free + 1) / 13 * 13) = _
    omega
theorem UR_hold {fr sd und free mund ap ba gr br la he td cl : Int32} {cells u now : Nat -> Int32} (h : UR fr sd und free mund cells u) (hf : fr.toInt <= 16) (hm : MR fr sd ap ba gr br la he td now) : UR fr sd (F_X4_hold und free).1 (F_X4_hold und free).2 (aNN mund now u).1 (F_X4_note ap ba gr br la he td cl free cells) (aNN mund now u).2 := by
  obtain ⟨h1, h2, h3, h4⟩ := h
  obtain ⟨k1, k2⟩ := hold_v h2 h3
  obtain ⟨n1, n2⟩ := nt_v (ap := ap) (ba := ba) (gr := gr) (br := br) (la := la) (he := he) (td := td) (cl := cl) (cells := cells) h3
  have ef : (Int32.toInt (F_X4_hold und free).2).toNat = (free.toInt.toNat + 1) % 13 := by omega
  rcases rem_v (m := mund) (now := now) (u := u) (by omega) with ⟨g0, g1, g2, g3⟩ | ⟨g0, g1, g2, g3⟩
  · have eu : (Int32.toInt (F_X4_hold und free).1).toNat = und.toInt.toNat + 1 := by omega
    have em : mund.toInt.toNat = und.toInt.toNat := by omega
    rw [em] at g2 g3
    refine ⟨by omega, by omega, by omega, ?_⟩
    rw [eu, ef]
    exact URn_s h4 (by omega) (by omega) hf n1 g3 (n2 fr sd now _ _ hf hm g2)
  · have eu : (Int32.toInt (F_X4_hold und free).1).toNat = 12 := by omega
    have em : und.toInt.toNat = 12 := by omega
    rw [em] at h4
    refine ⟨by omega, by omega, by omega, ?_⟩
    rw [eu, ef]
    exact URn_t h4 (by omega) hf n1 g3 (n2 fr sd now _ _ hf hm g2)
/-! the work: what class and reference do to the moment -/
theorem c16 : (16 : Int32).toNatClampNeg = 16 := by decide
theorem c17 : (17 : Int32).toNatClampNeg = 17 := by decide
theorem c18 : (18 : Int32).toNatClampNeg = 18 := by decide
theorem c19 : (19 : Int32).toNatClampNeg = 19 := by decide
theorem c20 : (20 : Int32).toNatClampNeg = 20 := by decide
theorem emp_v {fr : Int32} {now : Nat -> Int32} (h : 0 <= fr.toInt /\ fr.toInt <= 16) (j : Nat) : (F_X10_empty fr now).2 j = if j < fr.toInt.toNat /\ now j = 1 then 2 else now j := by
  obtain ⟨z, z2, _⟩ := z16 h
  have key : ∀ k : Nat, k <= fr.toInt.toNat -> ∀ j : Nat, (itr (bd_X10_empty_4 fr) (0, now) 0 k).2 j = if j < k /\ now j = 1 then 2 else now j := by
    intro k
    induction k with
    | zero => intro _ j; rw [if_neg (fun h9 => by omega)]; rfl
    | succ k ih =>
      intro hk j
      have i := (nI_0c (k := k) (by omega)).1
      have ih := ih (by omega)
      rw [itr_s, bd_X10_empty_4, i, j_X10_empty_35, j_X10_empty_35]
      have ek := ih k
      rw [if_neg (fun h9 => by omega)] at ek
      rw [ek]
      by_cases c : now k = 1
      · rw [if_pos c]
        show upd (itr (bd_X10_empty_4 fr) (0, now) 0 k).2 k 2 j = _
        by_cases hj : j = k
        · rw [hj, upd_i, if_pos ⟨by omega, c⟩]
        · rw [aGi _ _ hj, ih j]
          by_cases c2 : j < k /\ now j = 1
          · rw [if_pos c2, if_pos ⟨by omega, c2.2⟩]
          · rw [if_neg c2, if_neg (fun h9 => c2 ⟨by omega, h9.2⟩)]
      · rw [if_neg c]
        show (itr (bd_X10_empty_4 fr) (0, now) 0 k).2 j = _
        rw [ih j]
        by_cases c2 : j < k /\ now j = 1
        · rw [if_pos c2, if_pos ⟨by omega, c2.2⟩]
        · rw [if_neg c2, if_neg (fun h9 => by
            by_cases hj : j = k
            · rw [hj] at h9; exact c h9.2
            · exact c2 ⟨by omega, h9.2⟩)]
  rw [F_X10_empty, ex_X10_empty_4, z]
  exact key _ (Nat.le_refl _) j
section MOM2
variable {fr ap ba gr br la he td : Int32} {now : Nat -> Int32}
theorem MO_emp (hm : MO fr ap ba gr now) (h : 0 <= fr.toInt /\ fr.toInt <= 16) : MO fr 0 (ba ||| ap) gr (F_X10_empty fr now).2 := by
  refine ⟨fun j hj => ?_, fun j hj => ?_⟩
  · rw [emp_v h, bt_zero, bt_or]
    rcases hm.1 j hj with ⟨e, a, b, c⟩ | ⟨e, a, b, c⟩ | ⟨e, a, b, c⟩ | ⟨e, a, b, c⟩ <;> rw [a, b, c]
    · rw [if_neg (fun h9 => by rw [e] at h9; exact absurd h9.2 (by decide))]; exact Or.inl ⟨e, rfl, rfl, rfl⟩
    · rw [if_pos ⟨by omega, e⟩]; exact Or.inr (Or.inr (Or.inl ⟨rfl, rfl, rfl, rfl⟩))
    · rw [if_neg (fun h9 => by rw [e] at h9; exact absurd h9.2 (by decide))]; exact Or.inr (Or.inr (Or.inl ⟨e, rfl, rfl, rfl⟩))
    · rw [if_neg (fun h9 => by rw [e] at h9; exact absurd h9.2 (by decide))]; exact Or.inr (Or.inr (Or.inr ⟨e, rfl, rfl, rfl⟩))
  · obtain ⟨a, b, c⟩ := hm.2 j hj
    rw [bt_zero, bt_or, a, b]
    exact ⟨rfl, rfl, c⟩
theorem MQm_emp (hm : MQm fr ap ba gr br la he td now) (h : 0 <= fr.toInt /\ fr.toInt <= 16) : MQm fr 0 (ba ||| ap) gr br la he td (F_X10_empty fr now).2 := by
  obtain ⟨m, a, b, c, d⟩ := hm
  refine ⟨MO_emp m h, ?_, ?_, ?_, ?_⟩ <;> rw [emp_v h, if_neg (fun h9 => by omega)] <;> assumption
theorem MO_u (hm : MO fr ap ba gr now) (h : fr.toInt <= 16) {i : Nat} (hi : 16 <= i) (v : Int32) : MO fr ap ba gr (upd now i v) := ⟨fun j hj => by rw [aGi _ _ (by omega)]; exact hm.1 j hj, hm.2⟩
theorem MQm_16 (hm : MQm fr ap ba gr br la he td now) (h : fr.toInt <= 16) (v : Int32) : MQm fr ap ba gr v la he td (upd now (16 : Int32).toNatClampNeg v) := by
  rw [c16]
  exact ⟨MO_u hm.1 h (by omega) v, (upd_i _ _ _).symm, by rw [aGi _ _ (by decide)]; exact hm.2.2.1, by rw [aGi _ _ (by decide)]; exact hm.2.2.2.1, by rw [aGi _ _ (by decide)]; exact hm.2.2.2.2⟩
theorem MQm_17 (hm : MQm fr ap ba gr br la he td now) (h : fr.toInt <= 16) (v : Int32) : MQm fr ap ba gr br v he td (upd now (17 : Int32).toNatClampNeg v) := by
  rw [c17]
  exact ⟨MO_u hm.1 h (by omega) v, by rw [aGi _ _ (by decide)]; exact hm.2.1, (upd_i _ _ _).symm, by rw [aGi _ _ (by decide)]; exact hm.2.2.2.1, by rw [aGi _ _ (by decide)]; exact hm.2.2.2.2⟩
theorem MQm_18 (hm : MQm fr ap ba gr br la he td now) (h : fr.toInt <= 16) (v : Int32) : MQm fr ap ba gr br la v td (upd now (18 : Int32).toNatClampNeg v) := by
  rw [c18]
  exact ⟨MO_u hm.1 h (by omega) v, by rw [aGi _ _ (by decide)]; exact hm.2.1, by rw [aGi _ _ (by decide)]; exact hm.2.2.1, (upd_i _ _ _).symm, by rw [aGi _ _ (by decide)]; exact hm.2.2.2.2⟩
theorem MQm_19 (hm : MQm fr ap ba gr br la he td now) (h : fr.toInt <= 16) (v : Int32) : MQm fr ap ba gr br la he v (upd now (19 : Int32).toNatClampNeg v) := by
  rw [c19]
  exact ⟨MO_u hm.1 h (by omega) v, by rw [aGi _ _ (by decide)]; exact hm.2.1, by rw [aGi _ _ (by decide)]; exact hm.2.2.1, by rw [aGi _ _ (by decide)]; exact hm.2.2.2.1, (upd_i _ _ _).symm⟩
theorem MQm_20 (hm : MQm fr ap ba gr br la he td now) (h : fr.toInt <= 16) (v : Int32) : MQm fr ap ba gr br la he td (upd now (20 : Int32).toNatClampNeg v) := by
  rw [c20]
  exact ⟨MO_u hm.1 h (by omega) v, by rw [aGi _ _ (by decide)]; exact hm.2.1, by rw [aGi _ _ (by decide)]; exact hm.2.2.1, by rw [aGi _ _ (by decide)]; exact hm.2.2.2.1, by rw [aGi _ _ (by decide)]; exact hm.2.2.2.2⟩
theorem MQm_pass (hm : MQm fr ap ba gr br la he td now) (h : fr.toInt <= 16) (v : Int32) : MQm fr ap ba gr br la he td (F_X10_passBy v now) := MQm_20 hm h _
end MOM2
/-! bits that a loop joins -/
theorem b_iff {a b : Bool} (h : a = true ↔ b = true) : a = b := by cases a <;> cases b <;> simp_all
theorem itr_or {f : Int32 -> Int32 -> Int32} {c : Nat -> Prop} {v : Nat -> Int32} {a : Int32} (n : Nat) (hy : ∀ (k : Nat) (s : Int32), k < n -> c k -> f (nI (0 + k)) s = s ||| v k) (hn : ∀ (k : Nat) (s : Int32), k < n -> ¬ c k -> f (nI (0 + k)) s = s) (j : Nat) : bt (itr f a 0 n) j = true ↔ bt a j = true \/ ∃ k : Nat, k < n /\ c k /\ bt (v k) j = true := by
  have key : ∀ m : Nat, m <= n -> (bt (itr f a 0 m) j = true ↔ bt a j = true \/ ∃ k : Nat, k < m /\ c k /\ bt (v k) j = true) := by
    intro m
    induction m with
    | zero => intro _; exact ⟨fun h => Or.inl h, fun h => by rcases h with h | ⟨k, hk, _⟩; exact h; exact absurd hk (by omega)⟩
    | succ m ih =>
      intro hm
      have ih := ih (by omega)
      rw [itr_s]
      by_cases hc : c m
      · rw [hy m _ (by omega) hc, bt_or, Bool.or_eq_true, ih]
        constructor
        · rintro ((h | ⟨k, hk, h1, h2⟩) | h)
          · exact Or.inl h
          · exact Or.inr ⟨k, by omega, h1, h2⟩
          · exact Or.inr ⟨m, by omega, hc, h⟩
        · rintro (h | ⟨k, hk, h1, h2⟩)
          · exact Or.inl (Or.inl h)
          · by_cases hk2 : k = m
            · rw [hk2] at h2; exact Or.inr h2
            · exact Or.inl (Or.inr ⟨k, by omega, h1, h2⟩)
      · rw [hn m _ (by omega) hc, ih]
        constructor
        · rintro (h | ⟨k, hk, h1, h2⟩)
          · exact Or.inl h
          · exact Or.inr ⟨k, by omega, h1, h2⟩
        · rintro (h | ⟨k, hk, h1, h2⟩)
          · exact Or.inl h
          · by_cases hk2 : k = m
            · rw [hk2] at h1; exact absurd h1 hc
            · exact Or.inr ⟨k, by omega, h1, h2⟩
  exact key n (Nat.le_refl n)
theorem hs_0 (x : Int32) {k : Nat} (hk : k < 32) : ((x >>> (nI k &&& 31)) &&& 1) = 0 ↔ bt x k = false := by
  have i : Int32.toInt (nI k) = (k : Int) := nI_toInt (by omega)
  have q := has_v x (nI k) (by omega)
  rw [i] at q
  rw [q]
  show (if bt x k = true then (1 : Int32) else 0) = 0 ↔ _
  cases bt x k
  · exact ⟨fun _ => rfl, fun _ => rfl⟩
  · exact ⟨fun h => absurd h (by decide), fun h => absurd h (by decide)⟩
theorem hs_i (x : Int32) {f : Int32} (hf : 0 <= f.toInt /\ f.toInt < 32) : ((x >>> (f &&& 31)) &&& 1) = 0 ↔ bt x f.toInt.toNat = false := by
  have q := hs_0 x (k := f.toInt.toNat) (by omega)
  rw [<- tp_nI hf.1] at q
  exact q
theorem hs_10 (x : Int32) {f : Int32} (hf : 0 <= f.toInt /\ f.toInt < 32) : F_X10_has x f = if bt x f.toInt.toNat = true then 1 else 0 := by
  rw [F_X10_has, has_v x f hf]
  cases bt x f.toInt.toNat
  · rfl
  · rfl
section TREE2
variable {fr sd : Int32} {x h w r ft fk mx mh mw mr mf mk st told : Nat -> Int32}
theorem rp_eq (T : TR fr sd x h w r ft fk mx mh mw mr mf mk) (d : Int32) : F_X3_ripeBy d fr r = F_X10_ripeOnes d fr mr := by
  have bf := T.2.2.1
  rw [F_X3_ripeBy, F_X10_ripeOnes, ex_X3_ripeBy_4, ex_X10_ripeOnes_4]
  refine itr_cg _ (fun k s hk => ?_)
  have i := (nI_0c (k := k) (by omega)).1
  rw [bd_X3_ripeBy_4, bd_X10_ripeOnes_4, i, (T.1 k (by omega)).2.2.2, j_X3_ripeBy_28, j_X3_ripeBy_28, j_X10_ripeOnes_30, j_X10_ripeOnes_30, or0]
/-- whether b is lower than a and near, by the reference's rows -/
def lowr (mx mh : Nat -> Int32) (a b : Nat) : Prop := (Int32.toInt (mx a) - Int32.toInt (mx b) <= 1 /\ Int32.toInt (mx b) - Int32.toInt (mx a) <= 1) /\ Int32.toInt (mh b) < Int32.toInt (mh a)
theorem ab1 {a b : Int32} (ha : 0 <= a.toInt /\ a.toInt <= 99) (hb : 0 <= b.toInt /\ b.toInt <= 99) : 1 < (if 0 <= a - b then a - b else 0 - (a - b)) ↔ ¬ (a.toInt - b.toInt <= 1 /\ b.toInt - a.toInt <= 1) := by
  have l1 : Int32.toInt (1 : Int32) = 1 := by decide
  have s := aCA a b (by omega)
  have q := ti_abs (a - b) (by omega)
  constructor
  · intro c
    have := (aAd _ _).mp c
    omega
  · intro c
    exact (aAd _ _).mpr (by omega)
theorem lw_bt (T : TR fr sd x h w r ft fk mx mh mw mr mf mk) {f H : Int32} (hf : 0 <= f.toInt /\ f.toInt < fr.toInt) (hb : bt H f.toInt.toNat = true) (j : Nat) : bt (F_X3_lowerThan f H fr x h) j = true ↔ ∃ k : Nat, k < fr.toInt.toNat /\ (lowr mx mh f.toInt.toNat k /\ bt H k = true) /\ j = k := by
  obtain ⟨be, _, bf, _, bx, bh, _, _⟩ := T
  obtain ⟨z, z2, _⟩ := z16 bf
  have cf := cl_n f
  obtain ⟨ex, eh, _, _⟩ := be f.toInt.toNat (by omega)
  rw [F_X3_lowerThan, if_neg (fun c => by have := (hs_i H (f := f) (by omega)).mp c; rw [hb] at this; exact absurd this (by decide)), ex_X3_lowerThan_15, z]
  have q := itr_or (f := bd_X3_lowerThan_15 fr x h f H) (a := 0) (c := fun k => lowr mx mh f.toInt.toNat k /\ bt H k = true) (v := fun k => 1 <<< (nI k &&& 31)) fr.toInt.toNat (fun k s hk hc => by
    have i := nI_0c (k := k) (by omega)
    obtain ⟨e1, e2, _, _⟩ := be k (by omega)
    obtain ⟨⟨c1, c2⟩, c3⟩ := hc
    rw [bd_X3_lowerThan_15, i.1, cf, e1, ex, e2, eh, if_neg (fun c => (ab1 (bx k) (bx _)).mp c ⟨by omega, by omega⟩), if_neg (fun c => by have := (aAO _ _).mp c; omega), j_X3_lowerThan_66, if_neg n10, if_neg (fun c => by rw [Nat.zero_add] at c; have := (hs_0 H (k := k) (by omega)).mp c; rw [c3] at this; exact absurd this (by decide)), aYa, Nat.zero_add]) (fun k s hk hc => by
    have i := nI_0c (k := k) (by omega)
    obtain ⟨e1, e2, _, _⟩ := be k (by omega)
    rw [bd_X3_lowerThan_15, i.1, cf, e1, ex, e2, eh, j_X3_lowerThan_65, j_X3_lowerThan_66, if_pos rfl, j_X3_lowerThan_66, if_neg n10, aYa, aYa, Nat.zero_add]
    by_cases c1 : 1 < (if 0 <= mx k - mx f.toInt.toNat then mx k - mx f.toInt.toNat else 0 - (mx k - mx f.toInt.toNat))
    · rw [if_pos c1]
    · rw [if_neg c1]
      by_cases c2 : mh f.toInt.toNat <= mh k
      · rw [if_pos c2]
      · rw [if_neg c2]
        by_cases c3 : ((H >>> (nI k &&& 31)) &&& 1) = 0
        · rw [if_pos c3]
        · exfalso
          apply hc
          have d1 := mt (ab1 (bx k) (bx f.toInt.toNat)).mpr c1
          have d2 := mt (aAO _ _).mpr c2
          have d3 := mt (hs_0 H (k := k) (by omega)).mpr c3
          refine ⟨⟨by omega, by omega⟩, ?_⟩
          cases hk2 : bt H k
          · exact absurd hk2 d3
          · rfl) j
  show bt (itr (bd_X3_lowerThan_15 fr x h f H) 0 0 fr.toInt.toNat) j = true ↔ _
  rw [q, bt_zero]
  constructor
  · rintro (h9 | ⟨k, hk, h1, h2⟩)
    · exact absurd h9 (by decide)
    · rw [bt_shlN k (by omega)] at h2
      exact ⟨k, hk, h1, of_decide_eq_true h2⟩
  · rintro ⟨k, hk, h1, h2⟩
    refine Or.inr ⟨k, hk, h1, ?_⟩
    rw [bt_shlN k (by omega)]
    exact decide_eq_true h2
theorem bl_bt (bf : 0 <= fr.toInt /\ fr.toInt <= 16) (bx : ∀ k : Nat, 0 <= Int32.toInt (mx k) /\ Int32.toInt (mx k) <= 99) {f H : Int32} (hf : 0 <= f.toInt /\ f.toInt < fr.toInt) (j : Nat) : bt (F_X10_below f H fr mx mh) j = true ↔ ∃ k : Nat, k < fr.toInt.toNat /\ (lowr mx mh f.toInt.toNat k /\ bt H k = true) /\ j = k := by
  obtain ⟨z, z2, _⟩ := z16 bf
  have cf := cl_n f
  rw [F_X10_below, ex_X10_below_5, z]
  have q := itr_or (f := bd_X10_below_5 fr mx mh f H) (a := 0) (c := fun k => lowr mx mh f.toInt.toNat k /\ bt H k = true) (v := fun k => 1 <<< (nI k &&& 31)) fr.toInt.toNat (fun k s hk hc => by
    have i := nI_0c (k := k) (by omega)
    have i2 : (Int32.toInt (nI (0 + k))).toNat = k := by omega
    obtain ⟨⟨c1, c2⟩, c3⟩ := hc
    have c9 : ¬ mh f.toInt.toNat <= mh k := fun c => by have := (aAO _ _).mp c; omega
    rw [bd_X10_below_5, hs_10 H (f := nI (0 + k)) (by omega), i2, if_pos c3, if_neg n10, F_X10_isBelow, i.1, cf, if_neg (fun c => (ab1 (bx _) (bx k)).mp c ⟨by omega, by omega⟩), if_neg c9, if_neg n10, j_X10_below_42, Nat.zero_add]) (fun k s hk hc => by
    have i := nI_0c (k := k) (by omega)
    have i2 : (Int32.toInt (nI (0 + k))).toNat = k := by omega
    rw [bd_X10_below_5, hs_10 H (f := nI (0 + k)) (by omega), i2, j_X10_below_41, j_X10_below_42, j_X10_below_42, or0]
    by_cases c3 : bt H k = true
    · rw [if_pos c3, if_neg n10, F_X10_isBelow, i.1, cf]
      by_cases c1 : 1 < (if 0 <= mx f.toInt.toNat - mx k then mx f.toInt.toNat - mx k else 0 - (mx f.toInt.toNat - mx k))
      · rw [if_pos c1, if_pos rfl]
      · rw [if_neg c1]
        by_cases c2 : mh f.toInt.toNat <= mh k
        · rw [if_pos c2, if_pos rfl]
        · exfalso
          apply hc
          have d1 := mt (ab1 (bx f.toInt.toNat) (bx k)).mpr c1
          have d2 := mt (aAO _ _).mpr c2
          exact ⟨⟨by omega, by omega⟩, c3⟩
    · rw [if_neg c3, if_pos rfl]) j
  show bt (itr (bd_X10_below_5 fr mx mh f H) 0 0 fr.toInt.toNat) j = true ↔ _
  rw [q, bt_zero]
  constructor
  · rintro (h9 | ⟨k, hk, h1, h2⟩)
    · exact absurd h9 (by decide)
    · rw [bt_shlN k (by omega)] at h2
      exact ⟨k, hk, h1, of_decide_eq_true h2⟩
  · rintro ⟨k, hk, h1, h2⟩
    refine Or.inr ⟨k, hk, h1, ?_⟩
    rw [bt_shlN k (by omega)]
    exact decide_eq_true h2
theorem lw_eq (T : TR fr sd x h w r ft fk mx mh mw mr mf mk) {f H : Int32} (hf : 0 <= f.toInt /\ f.toInt < fr.toInt) (hb : bt H f.toInt.toNat = true) : F_X3_lowerThan f H fr x h = F_X10_below f H fr mx mh :=
  bt_eq (fun j => b_iff ((lw_bt T hf hb j).trans (bl_bt T.2.2.1 T.2.2.2.2.1 hf j).symm))
end TREE2
/-! move, foot, down, shake, sleep, undo: class against reference -/
theorem hid_n {a und free : Int32} (h : a.toInt < 0) : aIP a und free = (a, und, free) := by
  have l0 : Int32.toInt (0 : Int32) = 0 := by decide
  rw [aIP, if_pos ((aAd _ _).mpr (by omega))]
theorem hid_y {a und free : Int32} (h : 0 <= a.toInt) : aIP a und free = (a, (F_X4_hold und free).1, (F_X4_hold und free).2) := by
  have l0 : Int32.toInt (0 : Int32) = 0 := by decide
  rw [aIP, if_neg (fun c => by have := (aAd _ _).mp c; omega)]
theorem i_m1 : Int32.toInt (-1 : Int32) < 0 := by decide
theorem i_m2 : Int32.toInt (-2 : Int32) < 0 := by decide
section ACT
variable {fr sd ap ba gr br la he td cl : Int32} {x h w r ft fk mx mh mw mr mf mk st told now cells u : Nat -> Int32}
theorem mv_eq (T : TR fr sd x h w r ft fk mx mh mw mr mf mk) (hst2 : ∀ k : Nat, k < 5 -> st k = told k) {a p : Int32} (ha : -1 <= a.toInt /\ a.toInt < sd.toInt) (hp : 0 <= p.toInt /\ p.toInt < sd.toInt) : F_X3_moveSeconds a p ft st = F_X10_moveOf a p mf told := by
  have lm : Int32.toInt (-1 : Int32) = -1 := by decide
  obtain ⟨_, bs, _⟩ := T
  rw [F_X3_moveSeconds, F_X10_moveOf, hst2 _ (by decide)]
  by_cases c : a = -1
  · rw [if_pos c, if_pos c]
  · have d := mt (zJ _ _).mpr c
    have e1 := cl_n a
    have e2 := cl_n p
    rw [if_neg c, if_neg c, (bs a.toNatClampNeg (by omega)).1, (bs p.toNatClampNeg (by omega)).1]
theorem mv_r (T : TR fr sd x h w r ft fk mx mh mw mr mf mk) (ht : ∀ k : Nat, k = 3 -> 0 <= Int32.toInt (told k) /\ Int32.toInt (told k) <= 9) (a p : Int32) : 9 <= Int32.toInt (F_X10_moveOf a p mf told) /\ Int32.toInt (F_X10_moveOf a p mf told) <= 900 := mvo_rng T.2.2.2.2.2.2.1 ht a p
theorem dn_eq (T : TR fr sd x h w r ft fk mx mh mw mr mf mk) {a : Int32} (ha : 0 <= a.toInt /\ a.toInt < sd.toInt) : F_X3_downSeconds a fk = F_X10_downOf a mk /\ 3 <= Int32.toInt (F_X10_downOf a mk) /\ Int32.toInt (F_X10_downOf a mk) <= 20 := by
  obtain ⟨_, bs, _, _, _, _, _, bk⟩ := T
  have l3 : Int32.toInt (3 : Int32) = 3 := by decide
  have l9 : Int32.toInt (9 : Int32) = 9 := by decide
  have l10 : Int32.toInt (10 : Int32) = 10 := by decide
  have e1 := cl_n a
  have b := bk a.toNatClampNeg
  rw [F_X3_downSeconds, F_X10_downOf, (bs a.toNatClampNeg (by omega)).2]
  have s := aAD (mk a.toNatClampNeg) 9 (by omega)
  have d := ti_div (mk a.toNatClampNeg + 9) 10 l10 (by omega) (by omega)
  have s2 := aAD 3 ((mk a.toNatClampNeg + 9) / 10) (by omega)
  refine ⟨rfl, ?_, ?_⟩ <;> omega
theorem lad_g (T : TR fr sd x h w r ft fk mx mh mw mr mf mk) (hst2 : ∀ k : Nat, k < 5 -> st k = told k) (ht : ∀ k : Nat, k = 3 -> 0 <= Int32.toInt (told k) /\ Int32.toInt (told k) <= 9) (p : Int32) (hm : MR fr sd ap ba gr br la he td now) :
    (Int32.toInt (aJn p sd ft fk st ap ba la cl).1 < 0 /\ F_X10_refusesMove p sd now = (aJn p sd ft fk st ap ba la cl).1 /\ (aJn p sd ft fk st ap ba la cl).2 = (ap, ba, la, cl))
    \/ (0 <= Int32.toInt (aJn p sd ft fk st ap ba la cl).1 /\ F_X10_refusesMove p sd now = 0 /\ (F_X10_goMove p fr now mf mk told).1 = (aJn p sd ft fk st ap ba la cl).1 /\ MR fr sd (aJn p sd ft fk st ap ba la cl).2.1 (aJn p sd ft fk st ap ba la cl).2.2.1 gr br (aJn p sd ft fk st ap ba la cl).2.2.2.1 he td (F_X10_goMove p fr now mf mk told).2) := by
  have bf := T.2.2.1
  have bd := T.2.2.2.1
  have lm : Int32.toInt (-1 : Int32) = -1 := by decide
  obtain ⟨mq, lq⟩ := hm
  have h17 := mq.2.2.1
  rw [aJn, F_X10_refusesMove, c17, <- h17]
  rcases hst (p := p) (sd := sd) (by omega) with ⟨a, b, _⟩ | ⟨a, b, g⟩
  · rw [if_pos a, if_pos b]
    exact Or.inl ⟨i_m1, rfl, rfl⟩
  · rw [if_neg (neg1 a), if_neg (neg1 b)]
    by_cases c : p = la
    · rw [if_pos c, if_pos c.symm]
      exact Or.inl ⟨i_m2, rfl, rfl⟩
    · have c' : ¬ la = p := fun e => c e.symm
      rw [if_neg c, if_neg c', F_X10_goMove, mo_ap mq.1 bf, c17, <- h17, mv_eq T hst2 lq.1 g]
      have r9 := mv_r T ht la p
      have fin : ∀ v : Int32, 0 <= v.toInt -> MR fr sd 0 (ba ||| ap) gr br p he td (F_X10_passBy v (upd (F_X10_empty fr now).2 (17 : Int32).toNatClampNeg p)) := fun v _ => ⟨MQm_pass (MQm_17 (MQm_emp mq bf) bf.2 _) bf.2 _, ⟨by omega, by omega⟩, lq.2⟩
      by_cases ca : ap = 0
      · rw [if_pos ca, if_pos ca, j_X0_setLadder_81, j_X10_goMove_50]
        exact Or.inr ⟨by show 0 <= Int32.toInt (F_X10_moveOf la p mf told); omega, rfl, rfl, fin _ (by omega)⟩
      · rw [if_neg ca, if_neg ca]
        by_cases cb : la = -1
        · rw [if_pos cb, if_pos cb, j_X0_setLadder_81, j_X10_goMove_50]
          exact Or.inr ⟨by show 0 <= Int32.toInt (F_X10_moveOf la p mf told); omega, rfl, rfl, fin _ (by omega)⟩
        · have d := mt (zJ _ _).mpr cb
          have hla : 0 <= la.toInt /\ la.toInt < sd.toInt := by have := lq.1; omega
          obtain ⟨q1, q2, q3⟩ := dn_eq T hla
          have sa := aAD (F_X10_moveOf la p mf told) (F_X10_downOf la mk) (by omega)
          rw [if_neg cb, if_neg cb, j_X0_setLadder_81, j_X10_goMove_50, q1]
          exact Or.inr ⟨by show 0 <= Int32.toInt (F_X10_moveOf la p mf told + F_X10_downOf la mk); omega, rfl, rfl, fin _ (by omega)⟩
theorem move_rel (T : TR fr sd x h w r ft fk mx mh mw mr mf mk) (hst2 : ∀ k : Nat, k < 5 -> st k = told k) (ht : ∀ k : Nat, k = 3 -> 0 <= Int32.toInt (told k) /\ Int32.toInt (told k) <= 9) {p p' sd9 th und free mund r1 ap1 ba1 la1 cl1 und1 free1 r2 th2 mund1 : Int32} {cells1 now1 u1 : Nat -> Int32} (e9 : (r1, ap1, ba1, la1, cl1, und1, free1, cells1) = F_X9_move p sd9 ft fk st ap ba gr br la he td cl und free cells) (e10 : (r2, th2, mund1, now1, u1) = F_X10_move p' fr sd th mund now mf mk told u) (hp : p' = p) (hd : sd9 = sd) (hm : MR fr sd ap ba gr br la he td now) (hu : UR fr sd und free mund cells u) : r1 = r2 /\ MR fr sd ap1 ba1 gr br la1 he td now1 /\ UR fr sd und1 free1 mund1 cells1 u1 := by
  subst hp hd
  have l0 : Int32.toInt (0 : Int32) = 0 := by decide
  have bf := T.2.2.1
  rw [F_X9_move] at e9
  rw [F_X10_move] at e10
  rcases lad_g (cl := cl) T hst2 ht p' hm with ⟨a, b, c⟩ | ⟨a, b, c, d⟩
  · rw [hid_n a, c] at e9
    rw [b, if_neg (fun c => by have := (aAO _ _).mp c; omega)] at e10
    simp only [Prod.mk.injEq] at e9 e10
    obtain ⟨rfl, rfl, rfl, rfl, rfl, rfl, rfl, rfl⟩ := e9
    obtain ⟨rfl, rfl, rfl, rfl, rfl⟩ := e10
    exact ⟨rfl, hm, UR_note hu bf.2⟩
  · rw [hid_y a] at e9
    rw [b, if_pos (by decide), c] at e10
    simp only [Prod.mk.injEq] at e9 e10
    obtain ⟨rfl, rfl, rfl, rfl, rfl, rfl, rfl, rfl⟩ := e9
    obtain ⟨rfl, rfl, rfl, rfl, rfl⟩ := e10
    exact ⟨rfl, d, UR_hold hu bf.2 hm⟩
theorem foot_rel {p p' th und free mund r1 he1 und1 free1 r2 th2 mund1 : Int32} {cells1 now1 u1 : Nat -> Int32} (bf : 0 <= fr.toInt /\ fr.toInt <= 16) (e9 : (r1, he1, und1, free1, cells1) = F_X9_foot p ap ba gr br la he td cl und free cells) (e10 : (r2, th2, mund1, now1, u1) = F_X10_foot p' th mund now u) (hp : p' = p) (hm : MR fr sd ap ba gr br la he td now) (hu : UR fr sd und free mund cells u) : r1 = r2 /\ MR fr sd ap ba gr br la he1 td now1 /\ UR fr sd und1 free1 mund1 cells1 u1 := by
  subst hp
  have l0 : Int32.toInt (0 : Int32) = 0 := by decide
  have l1 : Int32.toInt (1 : Int32) = 1 := by decide
  obtain ⟨mq, lq⟩ := hm
  have h18 := mq.2.2.2.1
  rw [F_X9_foot, bBa, F_X9_isYesOrNo, j_X9_isYesOrNo_9] at e9
  rw [F_X10_foot, c18, <- h18] at e10
  have no : ¬ (p' = 0 \/ p' = 1) -> aUe p' 0 1 = 0 := by
    intro hn
    rcases in01 p' 0 1 with ⟨q, _⟩ | ⟨_, q⟩
    · exact q
    · exfalso; apply hn
      rcases (show p'.toInt = 0 \/ p'.toInt = 1 by omega) with e | e
      · exact Or.inl (i32 (by omega))
      · exact Or.inr (i32 (by omega))
  have yes : (p' = 0 \/ p' = 1) -> ¬ aUe p' 0 1 = 0 := by
    intro hy
    rcases hy with rfl | rfl <;> decide
  have h0 : 0 <= he.toInt := by rcases lq.2.2 with e | e <;> rw [e] <;> decide
  have fin : (p' = 0 \/ p' = 1) -> (r1, he1, und1, free1, cells1) = ((aIP he und free).1, p', (aIP he und free).2.1, (aIP he und free).2.2, F_X4_note ap ba gr br la he td cl free cells) -> r1 = r2 /\ MR fr sd ap ba gr br la he1 td now1 /\ UR fr sd und1 free1 mund1 cells1 u1 := by
    intro hy f9
    rw [if_neg (yes hy)] at e10
    rw [hid_y h0] at f9
    simp only [Prod.mk.injEq] at f9 e10
    obtain ⟨rfl, rfl, rfl, rfl, rfl⟩ := f9
    obtain ⟨rfl, rfl, rfl, rfl, rfl⟩ := e10
    exact ⟨rfl, ⟨MQm_18 mq bf.2 _, lq.1, lq.2.1, hy⟩, UR_hold hu bf.2 ⟨mq, lq⟩⟩
  by_cases c0 : p' = 0
  · rw [if_pos c0, if_neg n10] at e9
    exact fin (Or.inl c0) e9
  · by_cases c1 : p' = 1
    · rw [if_neg c0, if_pos c1, if_neg n10] at e9
      exact fin (Or.inr c1) e9
    · rw [if_neg c0, if_neg c1, if_pos rfl, hid_n i_m1] at e9
      rw [if_pos (no (fun h9 => by rcases h9 with h9 | h9; exact c0 h9; exact c1 h9))] at e10
      simp only [Prod.mk.injEq] at e9 e10
      obtain ⟨rfl, rfl, rfl, rfl, rfl⟩ := e9
      obtain ⟨rfl, rfl, rfl, rfl, rfl⟩ := e10
      exact ⟨rfl, ⟨mq, lq⟩, UR_note hu bf.2⟩
theorem down_g (T : TR fr sd x h w r ft fk mx mh mw mr mf mk) (hm : MR fr sd ap ba gr br la he td now) :
    (Int32.toInt (aVR fk ap ba la cl).1 < 0 /\ (aVR fk ap ba la cl).1 = -2 /\ F_X10_canDown fr now = 0 /\ (aVR fk ap ba la cl).2 = (ap, ba, cl))
    \/ ((aVR fk ap ba la cl).1 = aLS ap /\ F_X10_canDown fr now = 1 /\ ¬ ap = 0 /\ MR fr sd (aVR fk ap ba la cl).2.1 (aVR fk ap ba la cl).2.2.1 gr br la he td (F_X10_goDown fr now mk).2) := by
  have bf := T.2.2.1
  obtain ⟨mq, lq⟩ := hm
  have h17 := mq.2.2.1
  rw [aVR, F_X10_canDown, c17, <- h17, mo_ap mq.1 bf, F_X10_goDown]
  by_cases c : la = -1
  · rw [if_pos c, if_pos c]
    exact Or.inl ⟨i_m2, rfl, rfl, rfl⟩
  · rw [if_neg c, if_neg c]
    by_cases c2 : ap = 0
    · rw [if_pos c2, if_pos c2]
      exact Or.inl ⟨i_m2, rfl, rfl, rfl⟩
    · rw [if_neg c2, if_neg c2]
      exact Or.inr ⟨rfl, rfl, c2, MQm_emp (MQm_pass mq bf.2 _) bf, lq⟩
theorem down_rel (T : TR fr sd x h w r ft fk mx mh mw mr mf mk) {th und free mund r1 ap1 ba1 cl1 und1 free1 r2 th2 mund1 : Int32} {cells1 now1 u1 : Nat -> Int32} (e9 : (r1, ap1, ba1, cl1, und1, free1, cells1) = F_X9_down fk ap ba gr br la he td cl und free cells) (e10 : (r2, th2, mund1, now1, u1) = F_X10_down fr th mund now mk u) (hm : MR fr sd ap ba gr br la he td now) (hu : UR fr sd und free mund cells u) : MR fr sd ap1 ba1 gr br la he td now1 /\ UR fr sd und1 free1 mund1 cells1 u1 := by
  have bf := T.2.2.1
  rw [F_X9_down] at e9
  rw [F_X10_down] at e10
  rcases down_g (cl := cl) T hm with ⟨a, _, b, c⟩ | ⟨a, b, _, d⟩
  · rw [hid_n a, c] at e9
    rw [if_pos b] at e10
    simp only [Prod.mk.injEq] at e9 e10
    obtain ⟨rfl, rfl, rfl, rfl, rfl, rfl, rfl⟩ := e9
    obtain ⟨rfl, rfl, rfl, rfl, rfl⟩ := e10
    exact ⟨hm, UR_note hu bf.2⟩
  · rw [hid_y (by rw [a]; exact (bc_r ap).1)] at e9
    rw [if_neg (neg1 b)] at e10
    simp only [Prod.mk.injEq] at e9 e10
    obtain ⟨rfl, rfl, rfl, rfl, rfl, rfl, rfl⟩ := e9
    obtain ⟨rfl, rfl, rfl, rfl, rfl⟩ := e10
    exact ⟨d, UR_hold hu bf.2 hm⟩
theorem sleep_g (bf : 0 <= fr.toInt /\ fr.toInt <= 16) (bd : 0 <= sd.toInt /\ sd.toInt <= 8) (hm : MR fr sd ap ba gr br la he td now) :
    (Int32.toInt (aH2 ap ba la td cl).1 < 0 /\ (aH2 ap ba la td cl).1 = -1 /\ now 19 = 9 /\ (aH2 ap ba la td cl).2 = (ap, ba, la, td, cl))
    \/ (0 <= Int32.toInt (aH2 ap ba la td cl).1 /\ ¬ now 19 = 9 /\ (F_X10_goSleep fr now).1 = (aH2 ap ba la td cl).1 /\ MR fr sd (aH2 ap ba la td cl).2.1 (aH2 ap ba la td cl).2.2.1 gr br (aH2 ap ba la td cl).2.2.2.1 he (aH2 ap ba la td cl).2.2.2.2.1 (F_X10_goSleep fr now).2) := by
  have l9 : Int32.toInt (9 : Int32) = 9 := by decide
  have l1 : Int32.toInt (1 : Int32) = 1 := by decide
  have lm : Int32.toInt (-1 : Int32) = -1 := by decide
  obtain ⟨mq, lq⟩ := hm
  have h19 := mq.2.2.2.2
  have bt9 := lq.2.1
  rw [aH2, <- h19]
  by_cases c : td < 9
  · have d := (aAd _ _).mp c
    have a := aAD td 1 (by omega)
    have q := MQm_20 (MQm_17 (MQm_emp mq bf) bf.2 (-1)) bf.2 0
    have e : (upd (upd (F_X10_empty fr now).2 (17 : Int32).toNatClampNeg (-1)) (20 : Int32).toNatClampNeg 0) (19 : Int32).toNatClampNeg = td := q.2.2.2.2.symm
    rw [if_pos c, F_X10_goSleep, e]
    have lq9 : LQ sd (-1) he (td + 1) := ⟨⟨by omega, by omega⟩, by omega, lq.2.2⟩
    exact Or.inr ⟨by show 0 <= Int32.toInt (td + 1); omega, fun e9 => by have := congrArg Int32.toInt e9; omega, show upd (upd (upd (F_X10_empty fr now).2 (17 : Int32).toNatClampNeg (-1)) (20 : Int32).toNatClampNeg 0) (19 : Int32).toNatClampNeg (td + 1) (19 : Int32).toNatClampNeg = td + 1 from upd_i _ _ _, MQm_19 q bf.2 (td + 1), lq9⟩
  · have d := mt (aAd _ _).mpr c
    rw [if_neg c]
    exact Or.inl ⟨i_m1, rfl, i32 (by omega), rfl⟩
theorem sleep_rel (bf : 0 <= fr.toInt /\ fr.toInt <= 16) (bd : 0 <= sd.toInt /\ sd.toInt <= 8) {th und free mund r1 ap1 ba1 la1 td1 cl1 und1 free1 r2 th2 mund1 : Int32} {cells1 now1 u1 : Nat -> Int32} (e9 : (r1, ap1, ba1, la1, td1, cl1, und1, free1, cells1) = F_X9_sleep ap ba gr br la he td cl und free cells) (e10 : (r2, th2, mund1, now1, u1) = F_X10_sleep fr th mund now u) (hm : MR fr sd ap ba gr br la he td now) (hu : UR fr sd und free mund cells u) : r1 = r2 /\ MR fr sd ap1 ba1 gr br la1 he td1 now1 /\ UR fr sd und1 free1 mund1 cells1 u1 := by
  rw [F_X9_sleep] at e9
  rw [F_X10_sleep, c19] at e10
  rcases sleep_g (cl := cl) bf bd hm with ⟨a, a2, b, c⟩ | ⟨a, b, c, d⟩
  · rw [hid_n a, c, a2] at e9
    rw [if_pos b] at e10
    simp only [Prod.mk.injEq] at e9 e10
    obtain ⟨rfl, rfl, rfl, rfl, rfl, rfl, rfl, rfl, rfl⟩ := e9
    obtain ⟨rfl, rfl, rfl, rfl, rfl⟩ := e10
    exact ⟨rfl, hm, UR_note hu bf.2⟩
  · rw [hid_y a] at e9
    rw [if_neg b, c] at e10
    simp only [Prod.mk.injEq] at e9 e10
    obtain ⟨rfl, rfl, rfl, rfl, rfl, rfl, rfl, rfl, rfl⟩ := e9
    obtain ⟨rfl, rfl, rfl, rfl, rfl⟩ := e10
    exact ⟨rfl, d, UR_hold hu bf.2 hm⟩
end ACT
/-! shake, undo -/
section ACT2
variable {fr sd ap ba gr br la he td cl : Int32} {x h w r ft fk mx mh mw mr mf mk st told now cells u : Nat -> Int32}
theorem rd_eq (T : TR fr sd x h w r ft fk mx mh mw mr mf mk) (hst2 : ∀ k : Nat, k < 5 -> st k = told k) (hm : MR fr sd ap ba gr br la he td now) (hl : ¬ la = -1) : F_X0_readyHere fr x h r ft fk st ap ba gr la he td = F_X10_hereWanted fr now mx mh mr mf mk told := by
  have lm : Int32.toInt (-1 : Int32) = -1 := by decide
  have bf := T.2.2.1
  obtain ⟨mq, lq⟩ := hm
  have d := mt (zJ _ _).mpr hl
  have hla : 0 <= la.toInt /\ la.toInt < sd.toInt := by have := lq.1; omega
  rw [F_X0_readyHere, if_neg hl, F_X10_hereWanted, F_X10_byHand, c17, c18, c19, <- mq.2.2.1, <- mq.2.2.2.1, <- mq.2.2.2.2, mo_hg mq.1 bf, rp_eq T, wi_eq T hst2 _ _ hla]
theorem rd_sub (T : TR fr sd x h w r ft fk mx mh mw mr mf mk) {j : Nat} (hj : bt (F_X0_readyHere fr x h r ft fk st ap ba gr la he td) j = true) : bt (aVS fr ap ba gr) j = true := by
  rw [F_X0_readyHere] at hj
  by_cases c : la = -1
  · rw [if_pos c, bt_zero] at hj; exact absurd hj (by decide)
  · rw [if_neg c, bt_and, bt_and] at hj
    cases hh : bt (aVS fr ap ba gr) j
    · rw [hh] at hj; simp at hj
    · rfl
theorem hg_in (bf : 0 <= fr.toInt /\ fr.toInt <= 16) {j : Nat} (hj : bt (aVS fr ap ba gr) j = true) : j < fr.toInt.toNat /\ bt ap j = false /\ bt ba j = false /\ bt gr j = false := by
  rw [hg_bt bf] at hj
  by_cases h1 : j < fr.toInt.toNat
  · rw [decide_eq_true h1] at hj
    refine ⟨h1, ?_⟩
    cases a : bt ap j <;> cases b : bt ba j <;> cases c : bt gr j <;> rw [a, b, c] at hj <;> simp at hj ⊢
  · rw [decide_eq_false h1] at hj; simp at hj
theorem shk_v {fl sy : Int32} (bf : 0 <= fr.toInt /\ fr.toInt <= 16) : ∀ k : Nat, k <= fr.toInt.toNat -> (∀ j : Nat, j ≠ 16 -> itr (bd_X10_goShake_50 fr mx mh mr mf mk told fl sy) now 0 k j = if j < k /\ bt fl j = true then 3 else now j) /\ (∀ j : Nat, bt (itr (bd_X10_goShake_50 fr mx mh mr mf mk told fl sy) now 0 k 16) j = true ↔ bt (now 16) j = true \/ ∃ i : Nat, i < k /\ bt fl i = true /\ (j = i \/ bt (F_X10_below (nI i) sy fr mx mh) j = true)) := by
  intro k
  induction k with
  | zero => intro _; exact ⟨fun j _ => by rw [if_neg (fun h9 => by omega)]; rfl, fun j => ⟨fun h9 => Or.inl h9, fun h9 => by rcases h9 with h9 | ⟨i, hi, _⟩; exact h9; exact absurd hi (by omega)⟩⟩
  | succ k ih =>
    intro hk
    obtain ⟨i1, i2⟩ := ih (by omega)
    have i := nI_0c (k := k) (by omega)
    have ii : (Int32.toInt (nI (0 + k))).toNat = k := by omega
    rw [itr_s, bd_X10_goShake_50, hs_10 fl (f := nI (0 + k)) (by omega), ii, j_X10_goShake_96, j_X10_goShake_96]
    generalize itr (bd_X10_goShake_50 fr mx mh mr mf mk told fl sy) now 0 k = s at i1 i2 ⊢
    by_cases c : bt fl k = true
    · rw [if_pos c, if_neg n10, i.1, c16, aGi s 3 (show 16 ≠ k by omega)]
      refine ⟨fun j hj => ?_, fun j => ?_⟩
      · rw [aGi _ _ hj]
        by_cases hk2 : j = k
        · rw [hk2, upd_i, if_pos ⟨by omega, c⟩]
        · rw [aGi _ _ hk2, i1 j hj]
          by_cases c2 : j < k /\ bt fl j = true
          · rw [if_pos c2, if_pos ⟨by omega, c2.2⟩]
          · rw [if_neg c2, if_neg (fun h9 => c2 ⟨by omega, h9.2⟩)]
      · rw [upd_i, bt_or, bt_or, Bool.or_eq_true, Bool.or_eq_true, i2 j, Nat.zero_add, bt_shlN k (by omega), decide_eq_true_iff]
        constructor
        · rintro ((h9 | ⟨i9, a1, a2, a3⟩) | (h9 | h9))
          · exact Or.inl h9
          · exact Or.inr ⟨i9, by omega, a2, a3⟩
          · exact Or.inr ⟨k, by omega, c, Or.inl h9⟩
          · exact Or.inr ⟨k, by omega, c, Or.inr h9⟩
        · rintro (h9 | ⟨i9, a1, a2, a3⟩)
          · exact Or.inl (Or.inl h9)
          · by_cases e : i9 = k
            · subst e; exact Or.inr a3
            · exact Or.inl (Or.inr ⟨i9, by omega, a2, a3⟩)
    · rw [if_neg c, if_pos rfl]
      refine ⟨fun j hj => ?_, fun j => ?_⟩
      · rw [i1 j hj]
        by_cases c2 : j < k /\ bt fl j = true
        · rw [if_pos c2, if_pos ⟨by omega, c2.2⟩]
        · rw [if_neg c2, if_neg (fun h9 => by
            by_cases e : j = k
            · rw [e] at h9; exact c h9.2
            · exact c2 ⟨by omega, h9.2⟩)]
      · rw [i2 j]
        constructor
        · rintro (h9 | ⟨i9, a1, a2, a3⟩)
          · exact Or.inl h9
          · exact Or.inr ⟨i9, by omega, a2, a3⟩
        · rintro (h9 | ⟨i9, a1, a2, a3⟩)
          · exact Or.inl h9
          · by_cases e : i9 = k
            · subst e; exact absurd a2 c
            · exact Or.inr ⟨i9, by omega, a2, a3⟩
theorem hit_v (T : TR fr sd x h w r ft fk mx mh mw mr mf mk) {fl H : Int32} (hs : ∀ j : Nat, bt fl j = true -> bt H j = true) (j : Nat) : bt (itr (bd_X0_shakeTree_29 fr x h r ft fk st ap ba la he td H fl gr br cl) fl 0 fr.toInt.toNat) j = true ↔ bt fl j = true \/ ∃ k : Nat, k < fr.toInt.toNat /\ bt fl k = true /\ bt (F_X3_lowerThan (nI k) H fr x h) j = true := by
  have bf := T.2.2.1
  exact itr_or (c := fun k => bt fl k = true) (v := fun k => F_X3_lowerThan (nI k) H fr x h) fr.toInt.toNat (fun k s hk hc => by
    rw [bd_X0_shakeTree_29, Nat.zero_add, if_neg (fun c => by have := (hs_0 fl (k := k) (by omega)).mp c; rw [hc] at this; exact absurd this (by decide)), j_X0_shakeTree_63]) (fun k s hk hc => by
    rw [bd_X0_shakeTree_29, Nat.zero_add, if_pos ((hs_0 fl (k := k) (by omega)).mpr (by cases hb : bt fl k; rfl; exact absurd hb hc)), j_X0_shakeTree_63]) j
theorem shake_g (T : TR fr sd x h w r ft fk mx mh mw mr mf mk) (hst2 : ∀ k : Nat, k < 5 -> st k = told k) (hm : MR fr sd ap ba gr br la he td now) :
    (Int32.toInt (aMv fr x h r ft fk st ap ba gr br la he td cl).1 < 0 /\ (aMv fr x h r ft fk st ap ba gr br la he td cl).1 = -2 /\ now 17 = -1 /\ (aMv fr x h r ft fk st ap ba gr br la he td cl).2 = (gr, br, cl))
    \/ (0 <= Int32.toInt (aMv fr x h r ft fk st ap ba gr br la he td cl).1 /\ ¬ now 17 = -1 /\ (F_X10_goShake fr now mx mh mr mf mk told).1 = (aMv fr x h r ft fk st ap ba gr br la he td cl).1 /\ MR fr sd ap ba (aMv fr x h r ft fk st ap ba gr br la he td cl).2.1 (aMv fr x h r ft fk st ap ba gr br la he td cl).2.2.1 la he td (F_X10_goShake fr now mx mh mr mf mk told).2) := by
  have bf := T.2.2.1
  have hm0 := hm
  obtain ⟨mq, lq⟩ := hm
  obtain ⟨z, z2, z3⟩ := z16 bf
  rw [aMv, <- mq.2.2.1]
  by_cases c : la = -1
  · rw [if_pos c]
    exact Or.inl ⟨i_m2, rfl, c, rfl⟩
  · have re := rd_eq T hst2 hm0 c
    rw [F_X10_hereWanted] at re
    rw [if_neg c, ex_X0_shakeTree_29, F_X10_goShake, <- re, ex_X10_goShake_50, mo_hg mq.1 bf, z]
    have sub : ∀ j : Nat, bt (F_X0_readyHere fr x h r ft fk st ap ba gr la he td) j = true -> bt (aVS fr ap ba gr) j = true := fun j hj => rd_sub T hj
    have hv := fun j => hit_v (st := st) (ap := ap) (ba := ba) (gr := gr) (br := br) (la := la) (he := he) (td := td) (cl := cl) T sub j
    obtain ⟨s1, s2⟩ := shk_v (mx := mx) (mh := mh) (mr := mr) (mf := mf) (mk := mk) (told := told) (now := now) (fl := F_X0_readyHere fr x h r ft fk st ap ba gr la he td) (sy := aVS fr ap ba gr &&& (F_X0_readyHere fr x h r ft fk st ap ba gr la he td ^^^ (-1))) bf fr.toInt.toNat (Nat.le_refl _)
    refine Or.inr ⟨(bc_r _).1, c, rfl, ?_, lq⟩
    refine MQm_pass ?_ bf.2 5
    show MQm fr ap ba (gr ||| _) (br ||| _) la he td (itr _ now 0 fr.toInt.toNat)
    generalize F_X0_readyHere fr x h r ft fk st ap ba gr la he td = fl at sub hv s1 s2 ⊢
    refine ⟨⟨fun j hj => ?_, fun j hj => ?_⟩, ?_, ?_, ?_, ?_⟩
    · rw [s1 j (by omega), bt_or]
      by_cases c2 : bt fl j = true
      · obtain ⟨g0, g1, g2, g3⟩ := hg_in bf (sub j c2)
        rw [if_pos ⟨g0, c2⟩, g1, g2, g3, c2]
        exact Or.inr (Or.inr (Or.inr ⟨rfl, rfl, rfl, rfl⟩))
      · rw [if_neg (fun h9 => c2 h9.2)]
        have cf : bt fl j = false := by cases hb : bt fl j; rfl; exact absurd hb c2
        rw [cf, Bool.or_false]
        exact mq.1.1 j hj
    · obtain ⟨a, b, c9⟩ := mq.1.2 j hj
      have cf : bt fl j = false := by
        cases hb : bt fl j
        · rfl
        · exact absurd (hg_in bf (sub j hb)).1 (by omega)
      rw [bt_or, c9, cf]
      exact ⟨a, b, rfl⟩
    · apply bt_eq
      intro j
      apply b_iff
      rw [s2 j, bt_or, Bool.or_eq_true, hv j, <- mq.2.1]
      have ix : ∀ k : Nat, k < fr.toInt.toNat -> (0 <= Int32.toInt (nI k) /\ Int32.toInt (nI k) < fr.toInt) /\ (Int32.toInt (nI k)).toNat = k := by
        intro k hk
        have := nI_toInt (n := k) (by omega)
        omega
      constructor
      · rintro (h9 | h9 | ⟨k, hk, a1, a2⟩)
        · exact Or.inl h9
        · exact Or.inr ⟨j, (hg_in bf (sub j h9)).1, h9, Or.inl rfl⟩
        · obtain ⟨i1, i2⟩ := ix k hk
          obtain ⟨q, q1, ⟨q2, q3⟩, q4⟩ := (lw_bt T i1 (by rw [i2]; exact sub k a1) j).mp a2
          subst q4
          by_cases cj : bt fl j = true
          · exact Or.inr ⟨j, q1, cj, Or.inl rfl⟩
          · refine Or.inr ⟨k, hk, a1, Or.inr ?_⟩
            refine (bl_bt bf T.2.2.2.2.1 i1 j).mpr ⟨j, q1, ⟨q2, ?_⟩, rfl⟩
            rw [bt_and, q3, bt_not _ _ (by omega)]
            cases hb : bt fl j
            · rfl
            · exact absurd hb cj
      · rintro (h9 | ⟨k, hk, a1, a2 | a2⟩)
        · exact Or.inl h9
        · subst a2; exact Or.inr (Or.inl a1)
        · obtain ⟨i1, i2⟩ := ix k hk
          obtain ⟨q, q1, ⟨q2, q3⟩, q4⟩ := (bl_bt bf T.2.2.2.2.1 i1 j).mp a2
          subst q4
          rw [bt_and] at q3
          have q5 : bt (aVS fr ap ba gr) j = true := by
            cases hb : bt (aVS fr ap ba gr) j
            · rw [hb] at q3; simp at q3
            · rfl
          exact Or.inr (Or.inr ⟨k, hk, a1, (lw_bt T i1 (by rw [i2]; exact sub k a1) j).mpr ⟨j, q1, ⟨q2, q5⟩, rfl⟩⟩)
    · rw [s1 17 (by decide), if_neg (fun h9 => by omega)]; exact mq.2.2.1
    · rw [s1 18 (by decide), if_neg (fun h9 => by omega)]; exact mq.2.2.2.1
    · rw [s1 19 (by decide), if_neg (fun h9 => by omega)]; exact mq.2.2.2.2
theorem shake_rel (T : TR fr sd x h w r ft fk mx mh mw mr mf mk) (hst2 : ∀ k : Nat, k < 5 -> st k = told k) {fr9 th und free mund r1 gr1 br1 cl1 und1 free1 r2 th2 mund1 : Int32} {cells1 now1 u1 : Nat -> Int32} (e9 : (r1, gr1, br1, cl1, und1, free1, cells1) = F_X9_shake fr9 x h r ft fk st ap ba gr br la he td cl und free cells) (e10 : (r2, th2, mund1, now1, u1) = F_X10_shake fr th mund now mx mh mr mf mk told u) (hf : fr9 = fr) (hm : MR fr sd ap ba gr br la he td now) (hu : UR fr sd und free mund cells u) : r1 = r2 /\ MR fr sd ap ba gr1 br1 la he td now1 /\ UR fr sd und1 free1 mund1 cells1 u1 := by
  subst hf
  have bf := T.2.2.1
  rw [F_X9_shake] at e9
  rw [F_X10_shake, c17] at e10
  rcases shake_g (cl := cl) T hst2 hm with ⟨a, a2, b, c⟩ | ⟨a, b, c, d⟩
  · rw [hid_n a, c, a2] at e9
    rw [if_pos b] at e10
    simp only [Prod.mk.injEq] at e9 e10
    obtain ⟨rfl, rfl, rfl, rfl, rfl, rfl, rfl⟩ := e9
    obtain ⟨rfl, rfl, rfl, rfl, rfl⟩ := e10
    exact ⟨rfl, hm, UR_note hu bf.2⟩
  · rw [hid_y a] at e9
    rw [if_neg b, c] at e10
    simp only [Prod.mk.injEq] at e9 e10
    obtain ⟨rfl, rfl, rfl, rfl, rfl, rfl, rfl⟩ := e9
    obtain ⟨rfl, rfl, rfl, rfl, rfl⟩ := e10
    exact ⟨rfl, d, UR_hold hu bf.2 hm⟩
end ACT2
/-! undo, keep, again -/
section ACT3
variable {fr sd ap ba gr br la he td cl : Int32} {now cells u : Nat -> Int32}
theorem re_v {p : Int32} (h : 0 <= p.toInt /\ p.toInt <= 96) : F_X2_read p ap ba gr br la he td cl cells = (cells p.toInt.toNat, cells (p.toInt.toNat + 1), cells (p.toInt.toNat + 2), cells (p.toInt.toNat + 3), cells (p.toInt.toNat + 4), cells (p.toInt.toNat + 5), cells (p.toInt.toNat + 6), cells (p.toInt.toNat + 7)) := by
  have l0 : Int32.toInt (0 : Int32) = 0 := by decide
  have l96 : Int32.toInt (104 - 8 : Int32) = 96 := by decide
  have a : ∀ (c : Int32) (n : Nat), c.toInt = (n : Int) -> n <= 7 -> (p + c).toNatClampNeg = p.toInt.toNat + n := by
    intro c n hc hn
    rw [cl_n, aAD _ _ (by omega)]; omega
  rw [F_X2_read, if_neg (fun c => by have := (aAd _ _).mp c; omega), if_pos ((aAO _ _).mpr (by omega)), cl_n p, a 1 1 (by decide) (by decide), a 2 2 (by decide) (by decide), a 3 3 (by decide) (by decide), a 4 4 (by decide) (by decide), a 5 5 (by decide) (by decide), a 6 6 (by decide) (by decide), a 7 7 (by decide) (by decide)]
theorem bk_v {m : Int32} {f : Int32 -> (Nat -> Int32) -> (Nat -> Int32)} {v : Nat -> Int32} (hm : 0 <= m.toInt /\ m.toInt <= 12) (hf : ∀ (c : Int32) (s : Nat -> Int32), f c s = upd s c.toNatClampNeg (v ((21 * m) + c).toNatClampNeg)) (j : Nat) (hj : j < 21) : itr f now 0 21 j = v (21 * m.toInt.toNat + j) := by
  have e := m21 (m := m) (by omega)
  have q := itr_lay (f := f) (g := fun k => k) (v := fun k => v (21 * m.toInt.toNat + k)) 21 now (fun k s hk => by
    have i := nI_0c (k := k) (by omega)
    rw [hf, i.1, pc_n (p := 21 * m) (c := nI (0 + k)) (by omega) (by omega)]
    have e2 : (21 * m).toInt.toNat + (Int32.toInt (nI (0 + k))).toNat = 21 * m.toInt.toNat + k := by omega
    rw [e2]) (fun a b _ _ h => h)
  exact q.1 j hj
theorem undo_rel {th und free mund r1 ap1 ba1 gr1 br1 la1 he1 td1 cl1 und1 free1 r2 th2 mund1 : Int32} {now1 : Nat -> Int32} (bf : 0 <= fr.toInt /\ fr.toInt <= 16) (e9 : (r1, ap1, ba1, gr1, br1, la1, he1, td1, cl1, und1, free1) = F_X9_undo ap ba gr br la he td cl und free cells) (e10 : (r2, th2, mund1, now1) = F_X10_undo th mund now u) (hm : MR fr sd ap ba gr br la he td now) (hu : UR fr sd und free mund cells u) : r1 = r2 /\ MR fr sd ap1 ba1 gr1 br1 la1 he1 td1 now1 /\ UR fr sd und1 free1 mund1 cells u := by
  have l0 : Int32.toInt (0 : Int32) = 0 := by decide
  have l1 : Int32.toInt (1 : Int32) = 1 := by decide
  have l13 : Int32.toInt (13 : Int32) = 13 := by decide
  obtain ⟨h1, h2, h3, h4⟩ := hu
  have hmu : mund = und := i32 h1.symm
  subst hmu
  rw [F_X9_undo] at e9
  rw [F_X10_undo] at e10
  by_cases c : mund = 0
  · rw [if_pos c] at e9 e10
    simp only [Prod.mk.injEq] at e9 e10
    obtain ⟨rfl, rfl, rfl, rfl, rfl, rfl, rfl, rfl, rfl, rfl, rfl⟩ := e9
    obtain ⟨rfl, rfl, rfl, rfl⟩ := e10
    exact ⟨rfl, hm, h1, h2, h3, h4⟩
  · have d := mt (zJ _ _).mpr c
    have a1 := aAD free 13 (by omega)
    have a2 := aCA (free + 13) 1 (by omega)
    have a3 := ti_rem (free + 13 - 1) 13 l13 (by omega) (by omega)
    have a4 := f8 (free := (free + 13 - 1) - (free + 13 - 1) / 13 * 13) (by omega)
    have a5 := aCA mund 1 (by omega)
    have hf : (Int32.toInt ((free + 13 - 1) - (free + 13 - 1) / 13 * 13)).toNat = (free.toInt.toNat + 12) % 13 := by omega
    have hn : (Int32.toInt (mund - 1)).toNat = mund.toInt.toNat - 1 := by omega
    obtain ⟨b1, b2⟩ := URn_b h4 (by omega) (by omega) (by omega)
    rw [if_neg c, aOx, re_v (by omega)] at e9
    rw [if_neg c, ex_X10_undo_26, z21] at e10
    have p8 : (Int32.toInt (((free + 13 - 1) - (free + 13 - 1) / 13 * 13) * 8)).toNat = 8 * ((free.toInt.toNat + 12) % 13) := by omega
    rw [p8] at e9
    simp only [Prod.mk.injEq] at e9 e10
    obtain ⟨rfl, rfl, rfl, rfl, rfl, rfl, rfl, rfl, rfl, rfl, rfl⟩ := e9
    obtain ⟨rfl, rfl, rfl, rfl⟩ := e10
    refine ⟨rfl, MR_c b1 bf.2 (fun j hj => ?_), rfl, by omega, by omega, ?_⟩
    · rw [bk_v (m := mund - 1) (v := u) (by omega) (fun c s => by rw [bd_X10_undo_26]) j hj, hn]
    · rw [hf, hn]; exact b2
end ACT3
/-! what is kept -/
def KR (fr sd came : Int32) (kc isK mk9 isM kcm : Nat -> Int32) : Prop := ∀ i : Nat, i < 2 -> (isK i = 1 /\ isM i = 1 /\ kcm i = came /\ MRC fr sd kc (8 * i) mk9 (21 * i)) \/ (isK i = 0 /\ (isM i = 0 \/ Int32.toInt (kcm i) < came.toInt))
section KEEP
variable {fr sd ap ba gr br la he td cl came : Int32} {now kc isK mk9 isM kcm : Nat -> Int32}
theorem wr2_v {p : Int32} (h : 0 <= p.toInt /\ p.toInt <= 8) : (F_X2_write_b2 p ap ba gr br la he td cl kc p.toInt.toNat = ap /\ F_X2_write_b2 p ap ba gr br la he td cl kc (p.toInt.toNat + 1) = ba /\ F_X2_write_b2 p ap ba gr br la he td cl kc (p.toInt.toNat + 2) = gr /\ F_X2_write_b2 p ap ba gr br la he td cl kc (p.toInt.toNat + 3) = br /\ F_X2_write_b2 p ap ba gr br la he td cl kc (p.toInt.toNat + 4) = la /\ F_X2_write_b2 p ap ba gr br la he td cl kc (p.toInt.toNat + 5) = he /\ F_X2_write_b2 p ap ba gr br la he td cl kc (p.toInt.toNat + 6) = td) /\ (∀ i : Nat, (i < p.toInt.toNat \/ p.toInt.toNat + 8 <= i) -> F_X2_write_b2 p ap ba gr br la he td cl kc i = kc i) := by
  have l0 : Int32.toInt (0 : Int32) = 0 := by decide
  have l8 : Int32.toInt (16 - 8 : Int32) = 8 := by decide
  have l96 : Int32.toInt (104 - 8 : Int32) = 96 := by decide
  have e : F_X2_write_b2 p ap ba gr br la he td cl kc = F_X2_write p ap ba gr br la he td cl kc := by
    have k1 : ¬ p < 0 := fun c => by have := (aAd _ _).mp c; omega
    have k2 : p <= 16 - 8 := (aAO _ _).mpr (by omega)
    have k3 : p <= 104 - 8 := (aAO _ _).mpr (by omega)
    rw [F_X2_write_b2, F_X2_write, if_neg k1, if_neg k1, if_pos k2, if_pos k3]
  rw [e]
  exact wr_v (by omega)
theorem keep_rel {p p' th r1 r2 th2 : Int32} {kc1 isK1 mk1 isM1 kcm1 : Nat -> Int32} (bf : 0 <= fr.toInt /\ fr.toInt <= 16) (e9 : (r1, kc1, isK1) = F_X9_keep p ap ba gr br la he td cl kc isK) (e10 : (r2, th2, mk1, isM1, kcm1) = F_X10_keep p' th came now mk9 isM kcm) (hp : p' = p) (hm : MR fr sd ap ba gr br la he td now) (hk : KR fr sd came kc isK mk9 isM kcm) : r1 = r2 /\ KR fr sd came kc1 isK1 mk1 isM1 kcm1 := by
  subst hp
  have l0 : Int32.toInt (0 : Int32) = 0 := by decide
  have l1 : Int32.toInt (1 : Int32) = 1 := by decide
  have l2 : Int32.toInt (2 : Int32) = 2 := by decide
  have b1 : vp_nar .boolean 1 = 1 := by decide
  rw [F_X9_keep, F_X4_store] at e9
  rw [F_X10_keep] at e10
  rcases in01 p' 0 1 with ⟨q, q2⟩ | ⟨q, q2⟩
  · rw [if_pos q] at e10
    have f : (r1, kc1, isK1) = ((0 : Int32), kc, isK) := by
      by_cases c : p' < 0
      · rw [if_pos c] at e9; exact e9
      · have d := mt (aAd _ _).mpr c
        rw [if_neg c, if_neg (fun c2 => by have := (aAd _ _).mp c2; omega)] at e9
        exact e9
    simp only [Prod.mk.injEq] at f e10
    obtain ⟨rfl, rfl, rfl⟩ := f
    obtain ⟨rfl, rfl, rfl, rfl, rfl⟩ := e10
    exact ⟨rfl, hk⟩
  · rw [if_neg (neg1 q), b1] at e10
    rw [if_neg (fun c2 => by have := (aAd _ _).mp c2; omega), if_pos ((aAd _ _).mpr (by omega)), b1] at e9
    simp only [Prod.mk.injEq] at e9 e10
    obtain ⟨rfl, rfl, rfl⟩ := e9
    obtain ⟨rfl, rfl, rfl, rfl, rfl⟩ := e10
    have e8 := f8 (free := p') (by omega)
    have e21 := m21 (m := p') (by omega)
    have en := cl_n p'
    obtain ⟨w1, w2⟩ := wr2_v (p := p' * 8) (ap := ap) (ba := ba) (gr := gr) (br := br) (la := la) (he := he) (td := td) (cl := cl) (kc := kc) (by omega)
    obtain ⟨y1, y2⟩ := lay4_v (p := 21 * p') (now := now) (u := mk9) (by omega)
    have p8 : (p' * 8).toInt.toNat = 8 * p'.toInt.toNat := by omega
    have p21 : (21 * p').toInt.toNat = 21 * p'.toInt.toNat := by omega
    rw [p8] at w1 w2
    rw [p21] at y1 y2
    refine ⟨rfl, fun i hi => ?_⟩
    by_cases c : i = p'.toInt.toNat
    · left
      rw [en, c, upd_i, upd_i, upd_i]
      refine ⟨rfl, rfl, rfl, ?_⟩
      unfold MRC
      obtain ⟨v0, v1, v2, v3, v4, v5, v6⟩ := w1
      rw [v0, v1, v2, v3, v4, v5, v6]
      exact MR_c hm bf.2 y1
    · rw [en, aGi _ _ c, aGi _ _ c, aGi _ _ c]
      rcases hk i hi with ⟨k1, k2, k3, k4⟩ | k
      · exact Or.inl ⟨k1, k2, k3, MRC_c k4 bf.2 (fun j hj => w2 _ (by omega)) (fun j hj => y2 _ (by omega))⟩
      · exact Or.inr k
theorem re2_v {p : Int32} (h : 0 <= p.toInt /\ p.toInt <= 8) : aRH p ap ba gr br la he td cl kc = (kc p.toInt.toNat, kc (p.toInt.toNat + 1), kc (p.toInt.toNat + 2), kc (p.toInt.toNat + 3), kc (p.toInt.toNat + 4), kc (p.toInt.toNat + 5), kc (p.toInt.toNat + 6), kc (p.toInt.toNat + 7)) := by
  have l0 : Int32.toInt (0 : Int32) = 0 := by decide
  have l8 : Int32.toInt (16 - 8 : Int32) = 8 := by decide
  have l96 : Int32.toInt (104 - 8 : Int32) = 96 := by decide
  have e : aRH p ap ba gr br la he td cl kc = F_X2_read p ap ba gr br la he td cl kc := by
    have k1 : ¬ p < 0 := fun c => by have := (aAd _ _).mp c; omega
    have k2 : p <= 16 - 8 := (aAO _ _).mpr (by omega)
    have k3 : p <= 104 - 8 := (aAO _ _).mpr (by omega)
    rw [aRH, F_X2_read, if_neg k1, if_neg k1, if_pos k2, if_pos k3]
  rw [e]
  exact re_v (by omega)
theorem UR_0 {und free mund : Int32} {cells u : Nat -> Int32} (hf : 0 <= free.toInt /\ free.toInt <= 12) (h1 : und = 0) (h2 : mund = 0) : UR fr sd und free mund cells u := by
  subst h1 h2
  have z : (Int32.toInt (0 : Int32)).toNat = 0 := by decide
  exact ⟨rfl, by decide, hf, fun i hi => by exfalso; omega⟩
theorem again_rel {p p' th und mund free r1 ap1 ba1 gr1 br1 la1 he1 td1 cl1 und1 r2 th2 mund1 : Int32} {now1 cells u : Nat -> Int32} (bf : 0 <= fr.toInt /\ fr.toInt <= 16) (e9 : (r1, ap1, ba1, gr1, br1, la1, he1, td1, cl1, und1) = F_X9_again p ap ba gr br la he td cl und kc isK) (e10 : (r2, th2, mund1, now1) = F_X10_again p' th mund came now mk9 isM kcm) (hp : p' = p) (hm : MR fr sd ap ba gr br la he td now) (hu : UR fr sd und free mund cells u) (hk : KR fr sd came kc isK mk9 isM kcm) : r1 = r2 /\ MR fr sd ap1 ba1 gr1 br1 la1 he1 td1 now1 /\ UR fr sd und1 free mund1 cells u := by
  subst hp
  have l0 : Int32.toInt (0 : Int32) = 0 := by decide
  have l1 : Int32.toInt (1 : Int32) = 1 := by decide
  have l2 : Int32.toInt (2 : Int32) = 2 := by decide
  have no : (r1, ap1, ba1, gr1, br1, la1, he1, td1, cl1, und1) = ((0 : Int32), ap, ba, gr, br, la, he, td, cl, und) -> (r2, th2, mund1, now1) = ((0 : Int32), (0 : Int32), mund, now) -> r1 = r2 /\ MR fr sd ap1 ba1 gr1 br1 la1 he1 td1 now1 /\ UR fr sd und1 free mund1 cells u := by
    intro f9 f10
    simp only [Prod.mk.injEq] at f9 f10
    obtain ⟨rfl, rfl, rfl, rfl, rfl, rfl, rfl, rfl, rfl, rfl⟩ := f9
    obtain ⟨rfl, rfl, rfl, rfl⟩ := f10
    exact ⟨rfl, hm, hu⟩
  rw [F_X9_again, aUd] at e9
  rw [F_X10_again] at e10
  rcases in01 p' 0 1 with ⟨q, q2⟩ | ⟨q, q2⟩
  · rw [if_pos q] at e10
    by_cases c : p' < 0
    · rw [if_pos c] at e9; exact no e9 e10
    · have d := mt (aAd _ _).mpr c
      rw [if_neg c, if_pos ((aAO _ _).mpr (by omega))] at e9
      exact no e9 e10
  · have en := cl_n p'
    rw [if_neg (neg1 q)] at e10
    rw [if_neg (fun c2 => by have := (aAd _ _).mp c2; omega), if_neg (fun c2 => by have := (aAO _ _).mp c2; omega)] at e9
    rcases hk p'.toNatClampNeg (by omega) with ⟨k1, k2, k3, k4⟩ | ⟨k1, k2⟩
    · rw [if_neg (neg1 k1)] at e9
      rw [if_neg (neg1 k2), if_pos k3, ex_X10_again_40, z21] at e10
      have e8 := f8 (free := p') (by omega)
      rw [re2_v (by omega)] at e9
      have p8 : (p' * 8).toInt.toNat = 8 * p'.toInt.toNat := by omega
      rw [p8] at e9
      rw [en] at k4
      simp only [Prod.mk.injEq] at e9 e10
      obtain ⟨rfl, rfl, rfl, rfl, rfl, rfl, rfl, rfl, rfl, rfl⟩ := e9
      obtain ⟨rfl, rfl, rfl, rfl⟩ := e10
      exact ⟨rfl, MR_c k4 bf.2 (fun j hj => bk_v (m := p') (v := mk9) (by omega) (fun c s => by rw [bd_X10_again_40]) j hj), UR_0 hu.2.2.1 rfl rfl⟩
    · rw [if_pos k1] at e9
      rcases k2 with k2 | k2
      · rw [if_pos k2] at e10; exact no e9 e10
      · by_cases c : isM p'.toNatClampNeg = 0
        · rw [if_pos c] at e10; exact no e9 e10
        · rw [if_neg c, if_neg (fun e => by rw [e] at k2; omega)] at e10
          exact no e9 e10
end KEEP
/-! pick (printed by mo6.py) -/
theorem yn_eq (p : Int32) : F_X9_isYesOrNo p = aUe p 0 1 := by
  have l0 : Int32.toInt (0 : Int32) = 0 := by decide
  have l1 : Int32.toInt (1 : Int32) = 1 := by decide
  rw [F_X9_isYesOrNo, j_X9_isYesOrNo_9]
  by_cases c0 : p = 0
  · rw [if_pos c0, c0]; decide
  · rw [if_neg c0]
    by_cases c1 : p = 1
    · rw [if_pos c1, c1]; decide
    · rw [if_neg c1]
      have d0 := mt (zJ _ _).mpr c0
      have d1 := mt (zJ _ _).mpr c1
      rcases in01 p 0 1 with ⟨q, _⟩ | ⟨_, q⟩
      · exact q.symm
      · exfalso; omega
section PICK
variable {fr sd ap ba gr br la he td cl : Int32} {x h w r ft fk mx mh mw mr mf mk st told now : Nat -> Int32}
theorem ps_r {p k a b rl : Int32} {rg rs rp : Nat -> Int32} : 1 <= Int32.toInt (bBV p a k b fr x h w ft fk br rl rg rs rp).1 := by
  have l1 : Int32.toInt (1 : Int32) = 1 := by decide
  have key : ∀ v : Int32, 1 <= Int32.toInt (if 1 < v then v else 1) := by
    intro v
    by_cases c : 1 < v
    · have := (aAd _ _).mp c
      rw [if_pos c]; omega
    · rw [if_neg c]; omega
  rw [bBV, j_X0_pickSeconds_92]
  by_cases c : rl = 0
  · rw [if_pos c, j_X0_pickSeconds_123]; exact key _
  · rw [if_neg c, j_X0_pickSeconds_123]; exact key _
theorem MQm_pick (bf : 0 <= fr.toInt /\ fr.toInt <= 16) {p nb : Int32} (hp : 0 <= p.toInt /\ p.toInt < fr.toInt) (mq : MQm fr ap ba gr br la he td now) (h0 : now p.toInt.toNat = 0) (v : Int32) : MQm fr (ap ||| (1 <<< (p &&& 31))) ba gr nb la he td (F_X10_passBy v (upd (upd now (16 : Int32).toNatClampNeg nb) p.toNatClampNeg 1)) := by
  refine MQm_pass ?_ bf.2 v
  obtain ⟨⟨m1, m2⟩, a, b, c, d⟩ := mq
  have e := cl_n p
  rw [c16, e]
  obtain ⟨g1, g2, g3⟩ := (mo_0 (show MO fr ap ba gr now from ⟨m1, m2⟩) (j := p.toInt.toNat) (by omega)).mp h0
  refine ⟨⟨fun j hj => ?_, fun j hj => ?_⟩, ?_, ?_, ?_, ?_⟩
  · rw [bt_or, bt_shl p (by omega)]
    by_cases hj2 : j = p.toInt.toNat
    · rw [hj2, upd_i, g1, g2, g3, decide_eq_true rfl]
      exact Or.inr (Or.inl ⟨rfl, rfl, rfl, rfl⟩)
    · rw [aGi _ _ hj2, aGi _ _ (by omega), decide_eq_false hj2, Bool.or_false]
      exact m1 j hj
  · obtain ⟨q1, q2, q3⟩ := m2 j hj
    rw [bt_or, bt_shl p (by omega), q1, decide_eq_false (by omega)]
    exact ⟨rfl, q2, q3⟩
  · rw [aGi _ _ (by omega), upd_i]
  · rw [aGi _ _ (by omega), aGi _ _ (by decide)]; exact b
  · rw [aGi _ _ (by omega), aGi _ _ (by decide)]; exact c
  · rw [aGi _ _ (by omega), aGi _ _ (by decide)]; exact d
theorem pick_g (T : TR fr sd x h w r ft fk mx mh mw mr mf mk) (hst2 : ∀ k : Nat, k < 5 -> st k = told k) (hm : MR fr sd ap ba gr br la he td now) (p k : Int32) {rl : Int32} {rg rs rp : Nat -> Int32} :
    (Int32.toInt (aG4 p k fr x h w r ft fk st ap ba gr br la he td cl rl rg rs rp).1 < 0 /\ F_X10_refusesPick p k fr now mx mh mr mf mk told = (aG4 p k fr x h w r ft fk st ap ba gr br la he td cl rl rg rs rp).1 /\ (aG4 p k fr x h w r ft fk st ap ba gr br la he td cl rl rg rs rp).2.1 = ap /\ (aG4 p k fr x h w r ft fk st ap ba gr br la he td cl rl rg rs rp).2.2.1 = br)
    \/ (0 <= Int32.toInt (aG4 p k fr x h w r ft fk st ap ba gr br la he td cl rl rg rs rp).1 /\ F_X10_refusesPick p k fr now mx mh mr mf mk told = 0 /\ ∀ v : Int32, MR fr sd (aG4 p k fr x h w r ft fk st ap ba gr br la he td cl rl rg rs rp).2.1 ba gr (aG4 p k fr x h w r ft fk st ap ba gr br la he td cl rl rg rs rp).2.2.1 la he td (F_X10_passBy v (upd (upd now (16 : Int32).toNatClampNeg ((now (16 : Int32).toNatClampNeg) ||| (F_X10_below p (aUf 0 fr now) fr mx mh))) p.toNatClampNeg 1))) := by
  have bf := T.2.2.1
  have lm : Int32.toInt (-1 : Int32) = -1 := by decide
  obtain ⟨mq, lq⟩ := hm
  have neg : ∀ a : Int32, a.toInt < 0 -> ∀ (b c : Int32) (f g : Nat -> Int32), (Int32.toInt (a, ap, br, b, f, g).1 < 0 /\ a = (a, ap, br, b, f, g).1 /\ (a, ap, br, b, f, g).2.1 = ap /\ (a, ap, br, b, f, g).2.2.1 = br) := fun a ha b c f g => ⟨ha, rfl, rfl, rfl⟩
  rw [aG4, F_X10_refusesPick, yn_eq, c17, c18, c19, <- mq.2.2.1, <- mq.2.2.2.1, <- mq.2.2.2.2, mo_ap mq.1 bf]
  rcases hfr (p := p) (fr := fr) (by omega) with ⟨a, b, _⟩ | ⟨a, b, g⟩
  · rw [if_pos a, if_pos b]; exact Or.inl ⟨i_m1, rfl, rfl, rfl⟩
  · rw [if_neg (neg1 a), if_neg (neg1 b)]
    rcases in01 k 0 1 with ⟨q, _⟩ | ⟨q, _⟩
    · rw [if_pos q, if_pos q]; exact Or.inl ⟨i_m1, rfl, rfl, rfl⟩
    · rw [if_neg (neg1 q), if_neg (neg1 q)]
      have e := cl_n p
      have hh := hs_i (aVS fr ap ba gr) (f := p) (by omega)
      have h9 := hg_bt (ap := ap) (ba := ba) (gr := gr) bf p.toInt.toNat
      have m0 := mo_0 mq.1 (j := p.toInt.toNat) (by omega)
      rw [decide_eq_true (show p.toInt.toNat < fr.toInt.toNat by omega), Bool.true_and] at h9
      by_cases c : now p.toInt.toNat = 0
      · have hb : bt (aVS fr ap ba gr) p.toInt.toNat = true := by
          obtain ⟨g1, g2, g3⟩ := m0.mp c
          rw [h9, g1, g2, g3]; rfl
        rw [if_neg (fun c2 => by have := hh.mp c2; rw [hb] at this; exact absurd this (by decide)), e, if_pos c, (T.1 p.toInt.toNat (by omega)).2.2.2]
        by_cases c3 : mr p.toInt.toNat <= td
        · rw [if_pos c3, if_pos c3]
          by_cases c4 : la = -1
          · rw [if_pos c4, if_pos c4]; exact Or.inl ⟨(by decide : Int32.toInt (-4 : Int32) < 0), rfl, rfl, rfl⟩
          · have d4 := mt (zJ _ _).mpr c4
            have hla : 0 <= la.toInt /\ la.toInt < sd.toInt := by have := lq.1; omega
            rw [if_neg c4, if_neg c4, rch_eq hst2, iw_eq T _ g hla]
            by_cases c5 : bAx p la (F_X10_reachBy he k told) mx mh mf mk = 0
            · rw [if_pos c5, if_pos c5]; exact Or.inl ⟨(by decide : Int32.toInt (-4 : Int32) < 0), rfl, rfl, rfl⟩
            · rw [if_neg c5, if_neg c5, hst2 _ (by decide)]
              by_cases c6 : aLS ap < told (4 : Int32).toNatClampNeg
              · rw [if_pos c6, if_pos c6]
                have r9 := ps_r (fr := fr) (x := x) (h := h) (w := w) (ft := ft) (fk := fk) (br := br) (p := p) (k := k) (a := la) (b := aLS ap) (rl := rl) (rg := rg) (rs := rs) (rp := rp)
                refine Or.inr ⟨by show 0 <= Int32.toInt (bBV p la k (aLS ap) fr x h w ft fk br rl rg rs rp).1; omega, rfl, fun v => ⟨?_, lq⟩⟩
                rw [mo_hg mq.1 bf, <- lw_eq T g hb, c16, <- mq.2.1, <- c16, <- e]
                exact MQm_pick bf g mq c v
              · rw [if_neg c6, if_neg c6]; exact Or.inl ⟨(by decide : Int32.toInt (-5 : Int32) < 0), rfl, rfl, rfl⟩
        · rw [if_neg c3, if_neg c3]; exact Or.inl ⟨(by decide : Int32.toInt (-3 : Int32) < 0), rfl, rfl, rfl⟩
      · have hb : bt (aVS fr ap ba gr) p.toInt.toNat = false := by
          cases hx : bt (aVS fr ap ba gr) p.toInt.toNat
          · rfl
          · exact absurd (m0.mpr (hg_in bf hx).2) c
        rw [if_pos (hh.mpr hb), e, if_neg c]; exact Or.inl ⟨(by decide : Int32.toInt (-2 : Int32) < 0), rfl, rfl, rfl⟩
end PICK
theorem gp_w {P Q : Int32 -> Nat -> Int32 -> Int32 -> Int32 -> Int32 -> Int32 -> Int32 -> Int32 -> Int32 -> Int32 -> (Nat -> Int32) -> Prop} {p0 p1 bT : Int32} {jD : Nat} {mLn oF rP dQ bW bZ aR aE bI aW : Int32} {qG m_x gR pW nG oO qO qQ : Nat -> Int32} (h : wp_X10_goPick P p0 p1 bT jD mLn oF rP dQ bW bZ aR aE bI aW qG m_x gR pW nG oO qO qQ) (hq : ∀ (o0 : Int32) (o1 : Nat) (o2 o3 o4 o5 o6 o7 o8 o9 o10 : Int32) (o11 : Nat -> Int32), P o0 o1 o2 o3 o4 o5 o6 o7 o8 o9 o10 o11 -> (∃ v : Int32, o11 = F_X10_passBy v (upd (upd qG (16 : Int32).toNatClampNeg ((qG (16 : Int32).toNatClampNeg) ||| (F_X10_below p0 (aUf 0 bT qG) bT m_x gR))) p0.toNatClampNeg 1)) -> Q o0 o1 o2 o3 o4 o5 o6 o7 o8 o9 o10 o11) : wp_X10_goPick Q p0 p1 bT jD mLn oF rP dQ bW bZ aR aE bI aW qG m_x gR pW nG oO qO qQ := by
  unfold wp_X10_goPick at h ⊢
  refine ae ?_
  have h := h _ rfl
  refine du_X10_which h ?_
  intro h
  refine du_J6_bitCount_0f7a4 h ?_
  intro h
  refine mn_X10_secondsOf h ?_
  intro z0 z1 z2 z3 z4 z5 z6 z7 z8 z9 z10 h
  refine ae ?_
  have h := h _ rfl
  refine du_X10_which h ?_
  intro h
  refine du_X10_below h ?_
  intro h
  refine ae ?_
  have h := h _ rfl
  refine And.intro (And.left h) ?_
  have h := And.right h
  refine du_X10_passBy h ?_
  intro h
  exact hq _ _ _ _ _ _ _ _ _ _ _ _ h ⟨z0, rfl⟩
/-- what pick leaves behind: of the class (its garden's pick) and of the reference -/
theorem pick_w {Q : Int32 -> Int32 -> Nat -> Int32 -> Int32 -> Int32 -> Int32 -> Int32 -> Int32 -> Int32 -> Int32 -> Int32 -> Int32 -> (Nat -> Int32) -> (Nat -> Int32) -> Prop} {p0 p1 bT bY : Int32} {jD : Nat} {mLn oF rP dQ bW bZ aR aE bI aW bU : Int32} {qG m_x gR pW qR nG oO pJ qO qQ uL : Nat -> Int32} {p9 k9 fr9 sd ap ba gr br la he td cl rl und free r1 ap1 br1 cl1 und1 free1 : Int32} {x h w r ft fk mw mf2 st rg rs rp rg1 rs1 cells cells1 : Nat -> Int32} (e9 : (r1, ap1, br1, cl1, rg1, rs1, und1, free1, cells1) = F_X9_pick p9 k9 fr9 x h w r ft fk st ap ba gr br la he td cl rl rg rs rp und free cells) (T : TR bT sd x h w r ft fk m_x gR mw qR nG oO) (hst2 : ∀ k : Nat, k < 5 -> st k = pJ k) (hp : p0 = p9) (hk : p1 = k9) (hf : fr9 = bT) (hm : MR bT sd ap ba gr br la he td qG) (hu : UR bT sd und free bU cells uL) (h9 : wp_X10_pick (fun o0 o1 o2 o3 o4 o5 o6 o7 o8 o9 o10 o11 o12 o13 o14 => MR bT sd ap1 ba gr br1 la he td o13 /\ UR bT sd und1 free1 o12 cells1 o14 -> Q o0 o1 o2 o3 o4 o5 o6 o7 o8 o9 o10 o11 o12 o13 o14) p0 p1 bT bY jD mLn oF rP dQ bW bZ aR aE bI aW bU qG m_x gR pW qR nG oO pJ qO qQ uL) : wp_X10_pick Q p0 p1 bT bY jD mLn oF rP dQ bW bZ aR aE bI aW bU qG m_x gR pW qR nG oO pJ qO qQ uL := by
  subst hp hk hf
  have l0 : Int32.toInt (0 : Int32) = 0 := by decide
  have bf := T.2.2.1
  unfold wp_X10_pick at h9 ⊢
  refine du_X10_refusesPick h9 ?_
  intro h9
  rw [F_X9_pick] at e9
  rcases pick_g (cl := cl) T hst2 hm p0 p1 (rl := rl) (rg := rg) (rs := rs) (rp := rp) with ⟨a, b, c, d⟩ | ⟨a, b, c⟩
  · rw [hid_n a, c, d] at e9
    simp only [Prod.mk.injEq] at e9
    obtain ⟨rfl, rfl, rfl, rfl, rfl, rfl, rfl, rfl, rfl⟩ := e9
    refine And.intro (fun c1 => ?_) (fun c1 => ?_)
    · exfalso
      rw [b] at c1
      have := (aAO _ _).mp c1
      omega
    · exact And.right h9 c1 ⟨hm, UR_note hu bf.2⟩
  · rw [hid_y a] at e9
    simp only [Prod.mk.injEq] at e9
    obtain ⟨rfl, rfl, rfl, rfl, rfl, rfl, rfl, rfl, rfl⟩ := e9
    refine And.intro (fun c1 => ?_) (fun c1 => ?_)
    · have h9 := And.left h9 c1
      refine du_X10_remember h9 ?_
      intro h9
      refine gp_w h9 ?_
      intro o0 o1 o2 o3 o4 o5 o6 o7 o8 o9 o10 o11 h9 hv
      obtain ⟨v, rfl⟩ := hv
      exact h9 ⟨c v, UR_hold hu bf.2 hm⟩
    · exfalso
      rw [b] at c1
      exact c1 (by decide)
/-! orchard(): the moment, what can be undone, what is kept, behind it -/
theorem MO_ext {fr fr' ap ba gr : Int32} {now now' : Nat -> Int32} (hm : MO fr ap ba gr now) (h0 : 0 <= fr.toInt) (h1 : fr.toInt <= fr'.toInt) (hs : ∀ j : Nat, ((j : Int) < fr.toInt \/ fr'.toInt <= (j : Int)) -> now' j = now j) (hn : ∀ j : Nat, fr.toInt <= (j : Int) -> (j : Int) < fr'.toInt -> now' j = 0) : MO fr' ap ba gr now' := by
  refine ⟨fun j hj => ?_, fun j hj => hm.2 j (by omega)⟩
  by_cases c : (j : Int) < fr.toInt
  · rw [hs j (Or.inl c)]; exact hm.1 j c
  · obtain ⟨a, b, d⟩ := hm.2 j (by omega)
    rw [hn j (by omega) hj, a, b, d]
    exact Or.inl ⟨rfl, rfl, rfl, rfl⟩
theorem LQ_m {sd sd' la he td : Int32} (h : LQ sd la he td) (hs : sd.toInt <= sd'.toInt) : LQ sd' la he td := ⟨⟨h.1.1, by have := h.1.2; omega⟩, h.2⟩
theorem orch_muk {fr sd fr' sd' ap ba gr br la he td und free mund came und1 mund1 came1 : Int32} {now now1 cells u kc isK isK1 mk9 isM kcm : Nat -> Int32} (bf : 0 <= fr.toInt /\ fr.toInt <= 16) (hsd : sd.toInt <= sd'.toInt) (hc : 0 <= came.toInt /\ came.toInt <= 600)
    (h7 : (und1 = und /\ isK1 = isK /\ mund1 = mund /\ came1 = came /\ now1 = now /\ fr' = fr /\ sd' = sd) \/ (und1 = 0 /\ isK1 0 = 0 /\ isK1 1 = 0 /\ mund1 = 0 /\ came1 = came + 1 /\ fr.toInt <= fr'.toInt /\ fr'.toInt <= 16 /\ (∀ j : Nat, ((j : Int) < fr.toInt \/ fr'.toInt <= (j : Int)) -> now1 j = now j) /\ (∀ j : Nat, fr.toInt <= (j : Int) -> (j : Int) < fr'.toInt -> now1 j = 0)))
    (hm : MR fr sd ap ba gr br la he td now) (hu : UR fr sd und free mund cells u) (hk : KR fr sd came kc isK mk9 isM kcm) : MR fr' sd' ap ba gr br la he td now1 /\ UR fr' sd' und1 free mund1 cells u /\ KR fr' sd' came1 kc isK1 mk9 isM kcm /\ 0 <= came1.toInt /\ came1.toInt <= came.toInt + 1 := by
  have l1 : Int32.toInt (1 : Int32) = 1 := by decide
  rcases h7 with ⟨rfl, rfl, rfl, rfl, rfl, rfl, rfl⟩ | ⟨e1, e2, e3, e4, e5, g1, g2, g3, g4⟩
  · exact ⟨hm, hu, hk, by omega, by omega⟩
  · have a := aAD came 1 (by omega)
    rw [<- e5] at a
    obtain ⟨⟨mo, q1, q2, q3, q4⟩, lq⟩ := hm
    refine ⟨⟨⟨MO_ext mo bf.1 g1 g3 g4, ?_, ?_, ?_, ?_⟩, LQ_m lq hsd⟩, UR_0 hu.2.2.1 e1 e4, fun i hi => Or.inr ⟨?_, ?_⟩, by omega, by omega⟩
    · rw [g3 16 (Or.inr (by omega))]; exact q1
    · rw [g3 17 (Or.inr (by omega))]; exact q2
    · rw [g3 18 (Or.inr (by omega))]; exact q3
    · rw [g3 19 (Or.inr (by omega))]; exact q4
    · rcases (show i = 0 \/ i = 1 by omega) with rfl | rfl
      · exact e2
      · exact e3
    · rcases hk i hi with ⟨_, _, k3, _⟩ | ⟨_, k | k⟩
      · right; rw [k3]; omega
      · exact Or.inl k
      · right; omega
theorem fresh_M : MR 0 0 0 0 0 0 (-1) 0 0 (upd (fun _ => 0) (17 : Int32).toNatClampNeg (-1)) := by
  have z : Int32.toInt (0 : Int32) = 0 := by decide
  refine ⟨⟨⟨fun j hj => by exfalso; omega, fun j _ => ?_⟩, by decide, by decide, by decide, by decide⟩, ⟨by decide, by decide⟩, by decide, Or.inl rfl⟩
  rw [bt_zero]
  exact ⟨rfl, rfl, rfl⟩
theorem fresh_U : UR 0 0 0 0 0 (fun _ => 0) (fun _ => 0) := UR_0 (by decide) rfl rfl
theorem fresh_K : KR 0 0 0 (fun _ => 0) (fun _ => 0) (fun _ => 0) (fun _ => 0) (fun _ => 0) := fun i _ => Or.inr ⟨rfl, Or.inl rfl⟩
