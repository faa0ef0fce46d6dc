/-! reading a text, by the functions: signs, numbers, both readers alike -/
def stp (l t : Int32) : Int32 := if t < l then t else l
theorem stp_r (l t : Int32) : (stp l t).toInt ≤ l.toInt ∧ (stp l t).toInt ≤ t.toInt ∧ ((stp l t).toInt = l.toInt ∨ (stp l t).toInt = t.toInt) := ti_min l t
theorem n10 : ¬ (1 : Int32) = 0 := by decide
theorem hr_in {p st : Int32} {sg : Nat → Int32} (h : ¬ aE7 p st sg = -1) : p.toInt < st.toInt := by
  rw [aE7] at h
  by_cases c : st ≤ p
  · rw [if_pos c] at h; exact absurd rfl h
  · have := mt (aAO _ _).mpr c; omega
theorem hr_c {p st c : Int32} {sg : Nat → Int32} (h : aE7 p st sg = c) (hc : ¬ c = -1) : p.toInt < st.toInt := hr_in (by rw [h]; exact hc)
theorem hr_eq {l t a : Int32} {sg tx ru : Nat → Int32} (hs : ∀ k : Nat, sg k = tx k &&& 255) : aRs 1 l t a tx ru = aE7 a (stp l t) sg := by
  rw [aRs, aE7]
  have h := stp_r l t
  by_cases c : l ≤ a
  · have d := (aAO _ _).mp c
    rw [if_pos c, if_pos ((aAO _ _).mpr (by omega))]
  · have d := mt (aAO _ _).mpr c
    rw [if_neg c]
    by_cases c2 : t ≤ a
    · have d2 := (aAO _ _).mp c2
      rw [if_pos c2, if_pos ((aAO _ _).mpr (by omega))]
    · have d2 := mt (aAO _ _).mpr c2
      rw [if_neg c2, if_pos rfl, if_neg (fun c3 => by have := (aAO _ _).mp c3; omega), hs]
theorem dg_eq (p st : Int32) (sg : Nat → Int32) : aC7 p st sg = if aE7 p st sg < 48 then -1 else if 57 < aE7 p st sg then -1 else aE7 p st sg - 48 := by
  rw [aC7, aE7]
  by_cases c : st ≤ p
  · rw [if_pos c, if_pos c, j_X8_digitHere_24]
  · rw [if_neg c, if_neg c, j_X8_digitHere_24]
theorem dg_in {p st : Int32} {sg : Nat → Int32} (h : ¬ aC7 p st sg = -1) : p.toInt < st.toInt := by
  rw [dg_eq] at h
  by_cases c : aE7 p st sg = -1
  · rw [c] at h; exact absurd (by decide) h
  · exact hr_in c
theorem dg_ok {p st : Int32} {sg : Nat → Int32} (h : ¬ aC7 p st sg = -1) : ¬ aE7 p st sg < 48 ∧ ¬ 57 < aE7 p st sg ∧ aC7 p st sg = aE7 p st sg - 48 := by
  rw [dg_eq] at h ⊢
  by_cases c : aE7 p st sg < 48
  · rw [if_pos c] at h; exact absurd rfl h
  · rw [if_neg c] at h ⊢
    by_cases c2 : 57 < aE7 p st sg
    · rw [if_pos c2] at h; exact absurd rfl h
    · rw [if_neg c2]; exact ⟨c, c2, rfl⟩
theorem dg_r {p st : Int32} {sg : Nat → Int32} (h : ¬ aC7 p st sg = -1) : 0 ≤ Int32.toInt (aC7 p st sg) ∧ Int32.toInt (aC7 p st sg) ≤ 9 := by
  obtain ⟨h1, h2, h3⟩ := dg_ok h
  have l48 : Int32.toInt (48 : Int32) = 48 := by decide
  have l57 : Int32.toInt (57 : Int32) = 57 := by decide
  have h1 := mt (aAd _ _).mpr h1
  have h2 := mt (aAd _ _).mpr h2
  rw [h3, aCA _ _ (by omega)]
  omega
theorem in_no {p st : Int32} {sg : Nat → Int32} (h : aC7 p st sg = -1) : aUe (aE7 p st sg) 48 57 = 0 := by
  rw [aUe]
  by_cases c : aE7 p st sg < 48
  · rw [if_pos c]
  · rw [if_neg c]
    by_cases c2 : 57 < aE7 p st sg
    · rw [if_pos c2]
    · exfalso
      rw [dg_eq, if_neg c, if_neg c2] at h
      have l48 : Int32.toInt (48 : Int32) = 48 := by decide
      have l57 : Int32.toInt (57 : Int32) = 57 := by decide
      have lm : Int32.toInt (-1 : Int32) = -1 := by decide
      have c := mt (aAd _ _).mpr c
      have c2 := mt (aAd _ _).mpr c2
      have h := congrArg Int32.toInt h
      rw [aCA _ _ (by omega)] at h
      omega
theorem in_ok {p st : Int32} {sg : Nat → Int32} (h : ¬ aC7 p st sg = -1) : ¬ aUe (aE7 p st sg) 48 57 = 0 := by
  obtain ⟨h1, h2, _⟩ := dg_ok h
  rw [aUe, if_neg h1, if_neg h2]
  decide
theorem sk_in {p st : Int32} (h : p.toInt < st.toInt) : aVj p st = p + 1 := by
  rw [aVj, if_neg (fun c => by have := (aAO _ _).mp c; omega)]
noncomputable def np2 (st : Int32) (sg : Nat → Int32) (p : Int32) : Int32 := if aC7 (p + 1) st sg = -1 then p + 1 else p + 1 + 1
noncomputable def nv2 (st : Int32) (sg : Nat → Int32) (p : Int32) : Int32 := if aC7 (p + 1) st sg = -1 then aC7 p st sg else aC7 p st sg * 10 + aC7 (p + 1) st sg
theorem c_no {p st d : Int32} {sg : Nat → Int32} (h : aC7 p st sg = -1) : aCW d p st sg = (-1, p) := by
  rw [aCW, if_pos h]
theorem c1_ok {p st : Int32} {sg : Nat → Int32} (h : ¬ aC7 p st sg = -1) : aCW 1 p st sg = (aC7 p st sg, p + 1) := by
  rw [aCW, if_neg h, sk_in (dg_in h), show (4 : Nat) = 3 + 1 from rfl, flp_s, fs_X8_readNumber_18, if_pos (by decide)]
theorem c2_ok {p st : Int32} {sg : Nat → Int32} (h : ¬ aC7 p st sg = -1) : aCW 2 p st sg = (nv2 st sg p, np2 st sg p) := by
  rw [aCW, if_neg h, sk_in (dg_in h), show (4 : Nat) = 3 + 1 from rfl, flp_s, fs_X8_readNumber_18, if_neg (by decide), nv2, np2]
  by_cases c : aC7 (p + 1) st sg = -1
  · rw [if_pos c, if_pos c, if_pos c]
  · rw [if_neg c, if_neg c, if_neg c, sk_in (dg_in c), show (3 : Nat) = 2 + 1 from rfl, flp_s, fs_X8_readNumber_18, if_pos (by decide)]
theorem p1_r {p st : Int32} (hp : 0 ≤ p.toInt) (hs : st.toInt ≤ 80) (h : p.toInt < st.toInt) : (p + 1).toInt = p.toInt + 1 := by
  have l1 : Int32.toInt (1 : Int32) = 1 := by decide
  have := aAD p 1 (by omega)
  omega
theorem np2_r {p st : Int32} {sg : Nat → Int32} (hp : 0 ≤ p.toInt) (hs : st.toInt ≤ 80) (h : ¬ aC7 p st sg = -1) : p.toInt + 1 ≤ (np2 st sg p).toInt ∧ (np2 st sg p).toInt ≤ p.toInt + 2 ∧ (np2 st sg p).toInt ≤ st.toInt := by
  have q := p1_r hp hs (dg_in h)
  have q0 := dg_in h
  rw [np2]
  by_cases c : aC7 (p + 1) st sg = -1
  · rw [if_pos c]; omega
  · rw [if_neg c]
    have q2 := dg_in c
    have q3 := p1_r (p := p + 1) (by omega) hs q2
    omega
theorem nv2_r {p st : Int32} {sg : Nat → Int32} (h : ¬ aC7 p st sg = -1) : 0 ≤ (nv2 st sg p).toInt ∧ (nv2 st sg p).toInt ≤ 99 := by
  have q := dg_r h
  rw [nv2]
  by_cases c : aC7 (p + 1) st sg = -1
  · rw [if_pos c]; omega
  · rw [if_neg c]
    have q2 := dg_r c
    have l10 : Int32.toInt (10 : Int32) = 10 := by decide
    have m := ta_mulc (aC7 p st sg) 10 l10 (by omega)
    have a := aAD (aC7 p st sg * 10) (aC7 (p + 1) st sg) (by omega)
    omega
theorem ne_m1 {v : Int32} (h : 0 ≤ v.toInt) : ¬ v = -1 := fun e => by
  have lm : Int32.toInt (-1 : Int32) = -1 := by decide
  rw [e] at h
  omega
theorem fine_m : ¬ F_X10_fine (-1) = 0 := by rw [F_X10_fine, if_pos rfl]; decide
theorem fine_w {w : Int32} (h : ¬ w = -1) : F_X10_fine w = 0 := by rw [F_X10_fine, if_neg h]
theorem fault_m (p : Int32) : F_X10_fault p (-1) = p := by rw [F_X10_fault, if_neg fine_m]
theorem fault_w {p w : Int32} (h : ¬ w = -1) : F_X10_fault p w = w := by rw [F_X10_fault, if_pos (fine_w h)]
theorem num_w {d l t a w : Int32} {r : Nat} {tx ru : Nat → Int32} (h : ¬ w = -1) : aBD d r l t a w tx ru = (0, a, w) := by rw [aBD, if_pos (fine_w h)]
theorem pas_w {c l t a w : Int32} {r : Nat} {tx ru : Nat → Int32} (h : ¬ w = -1) : aH1 c r l t a w tx ru = (0, a) := by rw [aH1, if_pos (fine_w h)]
theorem need_w {c l t a w : Int32} {r : Nat} {tx ru : Nat → Int32} (h : ¬ w = -1) : aD5 c r l t a w tx ru = (a, w) := by
  rw [aD5, pas_w h, fault_w h, if_pos rfl]
theorem m_lt {a b : Int32} (ha : 0 ≤ a.toInt ∧ a.toInt ≤ 100) (hb : 1 ≤ b.toInt ∧ b.toInt ≤ 3) : ¬ (a + b) ≤ a := fun c => by
  have := (aAO _ _).mp c
  have := aAD a b (by omega)
  omega
theorem i_a0 (a b : Int32) : (10 * 0 + a) - b = a - b := by
  rw [show (10 * 0 : Int32) = 0 by decide, Int32.zero_add]
theorem i_asc2 (a b c : Int32) : (10 * a + b) - c = a * 10 + (b - c) := by
  rw [Int32.sub_eq_add_neg, Int32.sub_eq_add_neg, Int32.add_assoc, Int32.mul_comm]
section RD
variable {l t a : Int32} {sg tx ru : Nat → Int32}
theorem pas_eq (hs : ∀ k : Nat, sg k = tx k &&& 255) (c : Int32) : aH1 c 1 l t a (-1) tx ru = aGm c a (stp l t) sg := by
  rw [aH1, if_neg fine_m, hr_eq hs, aGm]
theorem m_no (hs : ∀ k : Nat, sg k = tx k &&& 255) (ha : 0 ≤ a.toInt ∧ a.toInt ≤ 100) {d : Int32} (hd : 1 ≤ d.toInt ∧ d.toInt ≤ 3) (h : aC7 a (stp l t) sg = -1) : aBD d 1 l t a (-1) tx ru = (0, a, a) := by
  rw [aBD, if_neg fine_m, show (4 : Nat) = 3 + 1 from rfl, flp_s, bCU, if_neg (m_lt ha hd), hr_eq hs, if_pos (in_no h), j_X10_number_66, if_pos rfl, fault_m]
theorem m1_ok (hs : ∀ k : Nat, sg k = tx k &&& 255) (ha : 0 ≤ a.toInt ∧ a.toInt ≤ 100) (h : ¬ aC7 a (stp l t) sg = -1) : aBD 1 1 l t a (-1) tx ru = (aC7 a (stp l t) sg, a + 1, -1) := by
  have l1 : Int32.toInt (1 : Int32) = 1 := by decide
  have q := aAD a 1 (by omega)
  rw [aBD, if_neg fine_m, show (4 : Nat) = 3 + 1 from rfl, flp_s, bCU, if_neg (m_lt ha (by decide)), hr_eq hs, if_neg (in_ok h), show (3 : Nat) = 2 + 1 from rfl, flp_s, bCU, if_pos ((aAO _ _).mpr (by omega)), j_X10_number_66, if_neg (fun e => by have := congrArg Int32.toInt e; omega), i_a0, (dg_ok h).2.2]
theorem m2_ok (hs : ∀ k : Nat, sg k = tx k &&& 255) (ha : 0 ≤ a.toInt ∧ a.toInt ≤ 100) (h : ¬ aC7 a (stp l t) sg = -1) : aBD 2 1 l t a (-1) tx ru = (nv2 (stp l t) sg a, np2 (stp l t) sg a, -1) := by
  have l1 : Int32.toInt (1 : Int32) = 1 := by decide
  have l2 : Int32.toInt (2 : Int32) = 2 := by decide
  have q := aAD a 1 (by omega)
  have q1 := aAD a 2 (by omega)
  have q2 := aAD (a + 1) 1 (by omega)
  rw [aBD, if_neg fine_m, show (4 : Nat) = 3 + 1 from rfl, flp_s, bCU, if_neg (m_lt ha (by decide)), hr_eq hs, if_neg (in_ok h), show (3 : Nat) = 2 + 1 from rfl, flp_s, bCU, if_neg (fun c => by have := (aAO _ _).mp c; omega), hr_eq hs, i_a0, ← (dg_ok h).2.2, nv2, np2]
  by_cases c : aC7 (a + 1) (stp l t) sg = -1
  · rw [if_pos (in_no c), if_pos c, if_pos c, j_X10_number_66, if_neg (fun e => by have := congrArg Int32.toInt e; omega)]
  · rw [if_neg (in_ok c), if_neg c, if_neg c, show (2 : Nat) = 1 + 1 from rfl, flp_s, bCU, if_pos ((aAO _ _).mpr (by omega)), j_X10_number_66, if_neg (fun e => by have := congrArg Int32.toInt e; omega), i_asc2, ← (dg_ok c).2.2]
theorem need_y (hs : ∀ k : Nat, sg k = tx k &&& 255) {c : Int32} (h : aE7 a (stp l t) sg = c) : aD5 c 1 l t a (-1) tx ru = (a + 1, -1) := by
  rw [aD5, pas_eq hs, aGm, if_pos h, if_neg n10]
theorem need_n (hs : ∀ k : Nat, sg k = tx k &&& 255) {c : Int32} (h : ¬ aE7 a (stp l t) sg = c) : aD5 c 1 l t a (-1) tx ru = (a, a) := by
  rw [aD5, pas_eq hs, aGm, if_neg h, if_pos rfl, fault_m]
end RD
theorem tk_y {c p st : Int32} {sg : Nat → Int32} (h : aE7 p st sg = c) : aGm c p st sg = (1, p + 1) := by rw [aGm, if_pos h]
theorem tk_n {c p st : Int32} {sg : Nat → Int32} (h : ¬ aE7 p st sg = c) : aGm c p st sg = (0, p) := by rw [aGm, if_neg h]
