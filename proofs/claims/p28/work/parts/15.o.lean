/-! day: reading the acts (printed by day.py) -/
def DAC (c v mv : Int32) : Prop := (c = 109 /\ (0 <= v.toInt /\ v.toInt <= 9) /\ mv = v) \/ ((c = 112 \/ c = 104) /\ (0 <= v.toInt /\ v.toInt <= 99) /\ mv = v) \/ ((c = 97 \/ c = 100 \/ c = 107 \/ c = 111 \/ c = 122) /\ v = 0)
theorem DAC_r {c v mv : Int32} (h : DAC c v mv) : (97 <= c.toInt /\ c.toInt <= 122) /\ (0 <= v.toInt /\ v.toInt <= 99) := by
  rcases h with ⟨rfl, h, _⟩ | ⟨rfl | rfl, h, _⟩ | ⟨rfl | rfl | rfl | rfl | rfl, rfl⟩
  · exact ⟨by decide, by omega⟩
  · exact ⟨by decide, h⟩
  · exact ⟨by decide, h⟩
  · decide
  · decide
  · decide
  · decide
  · decide
def RA (l t a p0 : Int32) (sg tx ru ma : Nat -> Int32) : Prop := (∃ c v w q : Int32, aVT a (stp l t) sg = (w, q) /\ w.toInt = 100 * c.toInt + v.toInt /\ DAC c v ((aMq p0 1 l t a (-1) tx ru ma).2.2 (p0.toInt.toNat + 1)) /\ (aMq p0 1 l t a (-1) tx ru ma).1 = q /\ (aMq p0 1 l t a (-1) tx ru ma).2.1 = -1 /\ (aMq p0 1 l t a (-1) tx ru ma).2.2 p0.toInt.toNat = c /\ (∀ j : Nat, j < p0.toInt.toNat -> (aMq p0 1 l t a (-1) tx ru ma).2.2 j = ma j) /\ a.toInt < q.toInt /\ q.toInt <= (stp l t).toInt)
    \/ (∃ q : Int32, aVT a (stp l t) sg = (-1, q) /\ (aMq p0 1 l t a (-1) tx ru ma).2.1 = q /\ 0 <= q.toInt /\ (q = a \/ a.toInt < (stp l t).toInt))
section RACT
variable {l t a p0 : Int32} {sg tx ru ma : Nat -> Int32}
theorem ra_97 (hs : ∀ k : Nat, sg k = tx k &&& 255) (hl : l.toInt <= 80) (ha : 0 <= a.toInt /\ a.toInt <= 100) (hp : 0 <= p0.toInt /\ p0.toInt <= 100) (h1 : aE7 a (stp l t) sg = 97) : RA l t a p0 sg tx ru ma := by
  have l1 : Int32.toInt (1 : Int32) = 1 := by decide
  have hst := stp_r l t
  have b0 := hr_c h1 (by decide)
  have b1 := p1_r (p := a) (st := (stp l t)) ha.1 (by omega) b0
  have e0 := cl_n p0
  have e1 : (p0 + 1).toNatClampNeg = p0.toInt.toNat + 1 := by rw [cl_n, aAD _ _ (by omega)]; omega
  unfold RA
  rw [aVT, h1, if_pos (rfl : (97 : Int32) = 97), bBX, aUF, if_pos (rfl : (0 : Int32) = 0), sk_in b0, aMq, hr_eq hs, h1, if_neg (by decide : ¬ (97 : Int32) = 109), if_neg (by decide : ¬ (97 : Int32) = 112), if_neg (by decide : ¬ (97 : Int32) = 104), if_neg (by decide : ¬ (97 : Int32) = 100), if_neg (by decide : ¬ (97 : Int32) = 107), if_pos (rfl : (97 : Int32) = 97), aKM]
  rw [if_neg (by decide : ¬ (97 : Int32) = 109), aJS, if_neg (by decide : ¬ (97 : Int32) = 112), if_neg (by decide : ¬ (97 : Int32) = 104)]
  refine Or.inl ⟨97, 0, 97 * 100, a + 1, rfl, by decide, Or.inr (Or.inr ⟨by decide, rfl⟩), rfl, rfl, ?_, fun j hj => ?_, by omega, by omega⟩
  · show upd ma p0.toNatClampNeg 97 p0.toInt.toNat = 97
    rw [e0, upd_i]
  · show upd ma p0.toNatClampNeg 97 j = ma j
    rw [e0, aGi _ _ (by omega)]
theorem ra_100 (hs : ∀ k : Nat, sg k = tx k &&& 255) (hl : l.toInt <= 80) (ha : 0 <= a.toInt /\ a.toInt <= 100) (hp : 0 <= p0.toInt /\ p0.toInt <= 100) (h1 : aE7 a (stp l t) sg = 100) : RA l t a p0 sg tx ru ma := by
  have l1 : Int32.toInt (1 : Int32) = 1 := by decide
  have hst := stp_r l t
  have b0 := hr_c h1 (by decide)
  have b1 := p1_r (p := a) (st := (stp l t)) ha.1 (by omega) b0
  have e0 := cl_n p0
  have e1 : (p0 + 1).toNatClampNeg = p0.toInt.toNat + 1 := by rw [cl_n, aAD _ _ (by omega)]; omega
  unfold RA
  rw [aVT, h1, if_neg (by decide : ¬ (100 : Int32) = 97), if_pos (rfl : (100 : Int32) = 100), bBX, aUF, if_pos (rfl : (0 : Int32) = 0), sk_in b0, aMq, hr_eq hs, h1, if_neg (by decide : ¬ (100 : Int32) = 109), if_neg (by decide : ¬ (100 : Int32) = 112), if_neg (by decide : ¬ (100 : Int32) = 104), if_pos (rfl : (100 : Int32) = 100), aKM]
  rw [if_neg (by decide : ¬ (100 : Int32) = 109), aJS, if_neg (by decide : ¬ (100 : Int32) = 112), if_neg (by decide : ¬ (100 : Int32) = 104)]
  refine Or.inl ⟨100, 0, 100 * 100, a + 1, rfl, by decide, Or.inr (Or.inr ⟨by decide, rfl⟩), rfl, rfl, ?_, fun j hj => ?_, by omega, by omega⟩
  · show upd ma p0.toNatClampNeg 100 p0.toInt.toNat = 100
    rw [e0, upd_i]
  · show upd ma p0.toNatClampNeg 100 j = ma j
    rw [e0, aGi _ _ (by omega)]
theorem ra_107 (hs : ∀ k : Nat, sg k = tx k &&& 255) (hl : l.toInt <= 80) (ha : 0 <= a.toInt /\ a.toInt <= 100) (hp : 0 <= p0.toInt /\ p0.toInt <= 100) (h1 : aE7 a (stp l t) sg = 107) : RA l t a p0 sg tx ru ma := by
  have l1 : Int32.toInt (1 : Int32) = 1 := by decide
  have hst := stp_r l t
  have b0 := hr_c h1 (by decide)
  have b1 := p1_r (p := a) (st := (stp l t)) ha.1 (by omega) b0
  have e0 := cl_n p0
  have e1 : (p0 + 1).toNatClampNeg = p0.toInt.toNat + 1 := by rw [cl_n, aAD _ _ (by omega)]; omega
  unfold RA
  rw [aVT, h1, if_neg (by decide : ¬ (107 : Int32) = 97), if_neg (by decide : ¬ (107 : Int32) = 100), if_neg (by decide : ¬ (107 : Int32) = 104), if_pos (rfl : (107 : Int32) = 107), bBX, aUF, if_pos (rfl : (0 : Int32) = 0), sk_in b0, aMq, hr_eq hs, h1, if_neg (by decide : ¬ (107 : Int32) = 109), if_neg (by decide : ¬ (107 : Int32) = 112), if_neg (by decide : ¬ (107 : Int32) = 104), if_neg (by decide : ¬ (107 : Int32) = 100), if_pos (rfl : (107 : Int32) = 107), aKM]
  rw [if_neg (by decide : ¬ (107 : Int32) = 109), aJS, if_neg (by decide : ¬ (107 : Int32) = 112), if_neg (by decide : ¬ (107 : Int32) = 104)]
  refine Or.inl ⟨107, 0, 107 * 100, a + 1, rfl, by decide, Or.inr (Or.inr ⟨by decide, rfl⟩), rfl, rfl, ?_, fun j hj => ?_, by omega, by omega⟩
  · show upd ma p0.toNatClampNeg 107 p0.toInt.toNat = 107
    rw [e0, upd_i]
  · show upd ma p0.toNatClampNeg 107 j = ma j
    rw [e0, aGi _ _ (by omega)]
theorem ra_111 (hs : ∀ k : Nat, sg k = tx k &&& 255) (hl : l.toInt <= 80) (ha : 0 <= a.toInt /\ a.toInt <= 100) (hp : 0 <= p0.toInt /\ p0.toInt <= 100) (h1 : aE7 a (stp l t) sg = 111) : RA l t a p0 sg tx ru ma := by
  have l1 : Int32.toInt (1 : Int32) = 1 := by decide
  have hst := stp_r l t
  have b0 := hr_c h1 (by decide)
  have b1 := p1_r (p := a) (st := (stp l t)) ha.1 (by omega) b0
  have e0 := cl_n p0
  have e1 : (p0 + 1).toNatClampNeg = p0.toInt.toNat + 1 := by rw [cl_n, aAD _ _ (by omega)]; omega
  unfold RA
  rw [aVT, h1, if_neg (by decide : ¬ (111 : Int32) = 97), if_neg (by decide : ¬ (111 : Int32) = 100), if_neg (by decide : ¬ (111 : Int32) = 104), if_neg (by decide : ¬ (111 : Int32) = 107), if_neg (by decide : ¬ (111 : Int32) = 109), if_pos (rfl : (111 : Int32) = 111), bBX, aUF, if_pos (rfl : (0 : Int32) = 0), sk_in b0, aMq, hr_eq hs, h1, if_neg (by decide : ¬ (111 : Int32) = 109), if_neg (by decide : ¬ (111 : Int32) = 112), if_neg (by decide : ¬ (111 : Int32) = 104), if_neg (by decide : ¬ (111 : Int32) = 100), if_neg (by decide : ¬ (111 : Int32) = 107), if_neg (by decide : ¬ (111 : Int32) = 97), if_pos (rfl : (111 : Int32) = 111), aKM]
  rw [if_neg (by decide : ¬ (111 : Int32) = 109), aJS, if_neg (by decide : ¬ (111 : Int32) = 112), if_neg (by decide : ¬ (111 : Int32) = 104)]
  refine Or.inl ⟨111, 0, 111 * 100, a + 1, rfl, by decide, Or.inr (Or.inr ⟨by decide, rfl⟩), rfl, rfl, ?_, fun j hj => ?_, by omega, by omega⟩
  · show upd ma p0.toNatClampNeg 111 p0.toInt.toNat = 111
    rw [e0, upd_i]
  · show upd ma p0.toNatClampNeg 111 j = ma j
    rw [e0, aGi _ _ (by omega)]
theorem ra_122 (hs : ∀ k : Nat, sg k = tx k &&& 255) (hl : l.toInt <= 80) (ha : 0 <= a.toInt /\ a.toInt <= 100) (hp : 0 <= p0.toInt /\ p0.toInt <= 100) (h1 : aE7 a (stp l t) sg = 122) : RA l t a p0 sg tx ru ma := by
  have l1 : Int32.toInt (1 : Int32) = 1 := by decide
  have hst := stp_r l t
  have b0 := hr_c h1 (by decide)
  have b1 := p1_r (p := a) (st := (stp l t)) ha.1 (by omega) b0
  have e0 := cl_n p0
  have e1 : (p0 + 1).toNatClampNeg = p0.toInt.toNat + 1 := by rw [cl_n, aAD _ _ (by omega)]; omega
  unfold RA
  rw [aVT, h1, if_neg (by decide : ¬ (122 : Int32) = 97), if_neg (by decide : ¬ (122 : Int32) = 100), if_neg (by decide : ¬ (122 : Int32) = 104), if_neg (by decide : ¬ (122 : Int32) = 107), if_neg (by decide : ¬ (122 : Int32) = 109), if_neg (by decide : ¬ (122 : Int32) = 111), if_neg (by decide : ¬ (122 : Int32) = 112), if_pos (rfl : (122 : Int32) = 122), bBX, aUF, if_pos (rfl : (0 : Int32) = 0), sk_in b0, aMq, hr_eq hs, h1, if_neg (by decide : ¬ (122 : Int32) = 109), if_neg (by decide : ¬ (122 : Int32) = 112), if_neg (by decide : ¬ (122 : Int32) = 104), if_neg (by decide : ¬ (122 : Int32) = 100), if_neg (by decide : ¬ (122 : Int32) = 107), if_neg (by decide : ¬ (122 : Int32) = 97), if_neg (by decide : ¬ (122 : Int32) = 111), if_pos (rfl : (122 : Int32) = 122), aKM]
  rw [if_neg (by decide : ¬ (122 : Int32) = 109), aJS, if_neg (by decide : ¬ (122 : Int32) = 112), if_neg (by decide : ¬ (122 : Int32) = 104)]
  refine Or.inl ⟨122, 0, 122 * 100, a + 1, rfl, by decide, Or.inr (Or.inr ⟨by decide, rfl⟩), rfl, rfl, ?_, fun j hj => ?_, by omega, by omega⟩
  · show upd ma p0.toNatClampNeg 122 p0.toInt.toNat = 122
    rw [e0, upd_i]
  · show upd ma p0.toNatClampNeg 122 j = ma j
    rw [e0, aGi _ _ (by omega)]
theorem ra_109 (hs : ∀ k : Nat, sg k = tx k &&& 255) (hl : l.toInt <= 80) (ha : 0 <= a.toInt /\ a.toInt <= 100) (hp : 0 <= p0.toInt /\ p0.toInt <= 100) (h1 : aE7 a (stp l t) sg = 109) : RA l t a p0 sg tx ru ma := by
  have l1 : Int32.toInt (1 : Int32) = 1 := by decide
  have hst := stp_r l t
  have b0 := hr_c h1 (by decide)
  have b1 := p1_r (p := a) (st := (stp l t)) ha.1 (by omega) b0
  have e0 := cl_n p0
  have e1 : (p0 + 1).toNatClampNeg = p0.toInt.toNat + 1 := by rw [cl_n, aAD _ _ (by omega)]; omega
  unfold RA
  rw [aVT, h1, if_neg (by decide : ¬ (109 : Int32) = 97), if_neg (by decide : ¬ (109 : Int32) = 100), if_neg (by decide : ¬ (109 : Int32) = 104), if_neg (by decide : ¬ (109 : Int32) = 107), if_pos (rfl : (109 : Int32) = 109), aUF, if_neg (by decide : ¬ (1 : Int32) = 0), sk_in b0, aMq, hr_eq hs, h1, if_pos (rfl : (109 : Int32) = 109), aKM]
  rw [if_pos (rfl : (109 : Int32) = 109), aJS, if_neg (by decide : ¬ (109 : Int32) = 112), if_neg (by decide : ¬ (109 : Int32) = 104)]
  by_cases c1 : aC7 (a + 1) (stp l t) sg = -1
  · rw [c_no c1, if_pos (rfl : ((-1 : Int32), a + 1).1 = -1), m_no (d := 1) hs (show 0 <= (a + 1).toInt /\ (a + 1).toInt <= 100 by omega) (by decide) c1]
    exact Or.inr ⟨a + 1, rfl, rfl, by omega, Or.inr b0⟩
  · have v1 := dg_r c1
    have b2 := dg_in c1
    have b3 := p1_r (p := a + 1) (st := (stp l t)) (by omega) (by omega) b2
    have s2 : Int32.toInt ((109 : Int32) * 100) = 10900 := by decide
    have s1 := aAD ((109 : Int32) * 100) (aC7 (a + 1) (stp l t) sg) (by omega)
    have s3 : Int32.toInt (109 : Int32) = 109 := by decide
    rw [c1_ok c1, if_neg (ne_m1 v1.1 : ¬ (aC7 (a + 1) (stp l t) sg, a + 1 + 1).1 = -1), m1_ok hs (show 0 <= (a + 1).toInt /\ (a + 1).toInt <= 100 by omega) c1]
    refine Or.inl ⟨109, aC7 (a + 1) (stp l t) sg, 109 * 100 + aC7 (a + 1) (stp l t) sg, a + 1 + 1, rfl, by omega, Or.inl ⟨rfl, by omega, ?_⟩, rfl, rfl, ?_, fun j hj => ?_, by omega, by omega⟩
    · show upd (upd ma p0.toNatClampNeg 109) (p0 + 1).toNatClampNeg (aC7 (a + 1) (stp l t) sg) (p0.toInt.toNat + 1) = aC7 (a + 1) (stp l t) sg
      rw [e1, upd_i]
    · show upd (upd ma p0.toNatClampNeg 109) (p0 + 1).toNatClampNeg (aC7 (a + 1) (stp l t) sg) p0.toInt.toNat = 109
      rw [e1, aGi _ _ (by omega), e0, upd_i]
    · show upd (upd ma p0.toNatClampNeg 109) (p0 + 1).toNatClampNeg (aC7 (a + 1) (stp l t) sg) j = ma j
      rw [e1, aGi _ _ (by omega), e0, aGi _ _ (by omega)]
theorem ra_104 (hs : ∀ k : Nat, sg k = tx k &&& 255) (hl : l.toInt <= 80) (ha : 0 <= a.toInt /\ a.toInt <= 100) (hp : 0 <= p0.toInt /\ p0.toInt <= 100) (h1 : aE7 a (stp l t) sg = 104) : RA l t a p0 sg tx ru ma := by
  have l1 : Int32.toInt (1 : Int32) = 1 := by decide
  have hst := stp_r l t
  have b0 := hr_c h1 (by decide)
  have b1 := p1_r (p := a) (st := (stp l t)) ha.1 (by omega) b0
  have e0 := cl_n p0
  have e1 : (p0 + 1).toNatClampNeg = p0.toInt.toNat + 1 := by rw [cl_n, aAD _ _ (by omega)]; omega
  unfold RA
  rw [aVT, h1, if_neg (by decide : ¬ (104 : Int32) = 97), if_neg (by decide : ¬ (104 : Int32) = 100), if_pos (rfl : (104 : Int32) = 104), j_X9_readAct_133, aUF, if_neg (by decide : ¬ (2 : Int32) = 0), sk_in b0, aMq, hr_eq hs, h1, if_neg (by decide : ¬ (104 : Int32) = 109), if_neg (by decide : ¬ (104 : Int32) = 112), if_pos (rfl : (104 : Int32) = 104), aKM]
  rw [if_neg (by decide : ¬ (104 : Int32) = 109), aJS, if_neg (by decide : ¬ (104 : Int32) = 112), if_pos (rfl : (104 : Int32) = 104), aFc]
  by_cases c1 : aC7 (a + 1) (stp l t) sg = -1
  · rw [c_no c1, if_pos (rfl : ((-1 : Int32), a + 1).1 = -1), m_no (d := 2) hs (show 0 <= (a + 1).toInt /\ (a + 1).toInt <= 100 by omega) (by decide) c1]
    exact Or.inr ⟨a + 1, rfl, rfl, by omega, Or.inr b0⟩
  · have v1 := nv2_r c1
    have b2 := dg_in c1
    have b3 := p1_r (p := a + 1) (st := (stp l t)) (by omega) (by omega) b2
    have b4 := np2_r (p := a + 1) (by omega) (by omega) c1
    have s2 : Int32.toInt ((104 : Int32) * 100) = 10400 := by decide
    have s1 := aAD ((104 : Int32) * 100) (nv2 (stp l t) sg (a + 1)) (by omega)
    have s3 : Int32.toInt (104 : Int32) = 104 := by decide
    rw [c2_ok c1, if_neg (ne_m1 v1.1 : ¬ (nv2 (stp l t) sg (a + 1), np2 (stp l t) sg (a + 1)).1 = -1), m2_ok hs (show 0 <= (a + 1).toInt /\ (a + 1).toInt <= 100 by omega) c1]
    refine Or.inl ⟨104, nv2 (stp l t) sg (a + 1), 104 * 100 + nv2 (stp l t) sg (a + 1), np2 (stp l t) sg (a + 1), rfl, by omega, Or.inr (Or.inl ⟨Or.inr rfl, by omega, ?_⟩), rfl, rfl, ?_, fun j hj => ?_, by omega, by omega⟩
    · show upd (upd ma p0.toNatClampNeg 104) (p0 + 1).toNatClampNeg (nv2 (stp l t) sg (a + 1)) (p0.toInt.toNat + 1) = nv2 (stp l t) sg (a + 1)
      rw [e1, upd_i]
    · show upd (upd ma p0.toNatClampNeg 104) (p0 + 1).toNatClampNeg (nv2 (stp l t) sg (a + 1)) p0.toInt.toNat = 104
      rw [e1, aGi _ _ (by omega), e0, upd_i]
    · show upd (upd ma p0.toNatClampNeg 104) (p0 + 1).toNatClampNeg (nv2 (stp l t) sg (a + 1)) j = ma j
      rw [e1, aGi _ _ (by omega), e0, aGi _ _ (by omega)]
theorem ra_112 (hs : ∀ k : Nat, sg k = tx k &&& 255) (hl : l.toInt <= 80) (ha : 0 <= a.toInt /\ a.toInt <= 100) (hp : 0 <= p0.toInt /\ p0.toInt <= 100) (h1 : aE7 a (stp l t) sg = 112) : RA l t a p0 sg tx ru ma := by
  have l1 : Int32.toInt (1 : Int32) = 1 := by decide
  have hst := stp_r l t
  have b0 := hr_c h1 (by decide)
  have b1 := p1_r (p := a) (st := (stp l t)) ha.1 (by omega) b0
  have e0 := cl_n p0
  have e1 : (p0 + 1).toNatClampNeg = p0.toInt.toNat + 1 := by rw [cl_n, aAD _ _ (by omega)]; omega
  unfold RA
  rw [aVT, h1, if_neg (by decide : ¬ (112 : Int32) = 97), if_neg (by decide : ¬ (112 : Int32) = 100), if_neg (by decide : ¬ (112 : Int32) = 104), if_neg (by decide : ¬ (112 : Int32) = 107), if_neg (by decide : ¬ (112 : Int32) = 109), if_neg (by decide : ¬ (112 : Int32) = 111), if_pos (rfl : (112 : Int32) = 112), j_X9_readAct_133, aUF, if_neg (by decide : ¬ (2 : Int32) = 0), sk_in b0, aMq, hr_eq hs, h1, if_neg (by decide : ¬ (112 : Int32) = 109), if_pos (rfl : (112 : Int32) = 112), aKM]
  rw [if_neg (by decide : ¬ (112 : Int32) = 109), aJS, if_pos (rfl : (112 : Int32) = 112), aFc]
  by_cases c1 : aC7 (a + 1) (stp l t) sg = -1
  · rw [c_no c1, if_pos (rfl : ((-1 : Int32), a + 1).1 = -1), m_no (d := 2) hs (show 0 <= (a + 1).toInt /\ (a + 1).toInt <= 100 by omega) (by decide) c1]
    exact Or.inr ⟨a + 1, rfl, rfl, by omega, Or.inr b0⟩
  · have v1 := nv2_r c1
    have b2 := dg_in c1
    have b3 := p1_r (p := a + 1) (st := (stp l t)) (by omega) (by omega) b2
    have b4 := np2_r (p := a + 1) (by omega) (by omega) c1
    have s2 : Int32.toInt ((112 : Int32) * 100) = 11200 := by decide
    have s1 := aAD ((112 : Int32) * 100) (nv2 (stp l t) sg (a + 1)) (by omega)
    have s3 : Int32.toInt (112 : Int32) = 112 := by decide
    rw [c2_ok c1, if_neg (ne_m1 v1.1 : ¬ (nv2 (stp l t) sg (a + 1), np2 (stp l t) sg (a + 1)).1 = -1), m2_ok hs (show 0 <= (a + 1).toInt /\ (a + 1).toInt <= 100 by omega) c1]
    refine Or.inl ⟨112, nv2 (stp l t) sg (a + 1), 112 * 100 + nv2 (stp l t) sg (a + 1), np2 (stp l t) sg (a + 1), rfl, by omega, Or.inr (Or.inl ⟨Or.inl rfl, by omega, ?_⟩), rfl, rfl, ?_, fun j hj => ?_, by omega, by omega⟩
    · show upd (upd ma p0.toNatClampNeg 112) (p0 + 1).toNatClampNeg (nv2 (stp l t) sg (a + 1)) (p0.toInt.toNat + 1) = nv2 (stp l t) sg (a + 1)
      rw [e1, upd_i]
    · show upd (upd ma p0.toNatClampNeg 112) (p0 + 1).toNatClampNeg (nv2 (stp l t) sg (a + 1)) p0.toInt.toNat = 112
      rw [e1, aGi _ _ (by omega), e0, upd_i]
    · show upd (upd ma p0.toNatClampNeg 112) (p0 + 1).toNatClampNeg (nv2 (stp l t) sg (a + 1)) j = ma j
      rw [e1, aGi _ _ (by omega), e0, aGi _ _ (by omega)]
theorem ra_rel (hs : ∀ k : Nat, sg k = tx k &&& 255) (hl : l.toInt <= 80) (ha : 0 <= a.toInt /\ a.toInt <= 100) (hp : 0 <= p0.toInt /\ p0.toInt <= 100) : RA l t a p0 sg tx ru ma := by
  by_cases k97 : aE7 a (stp l t) sg = 97
  · exact ra_97 hs hl ha hp k97
  by_cases k100 : aE7 a (stp l t) sg = 100
  · exact ra_100 hs hl ha hp k100
  by_cases k104 : aE7 a (stp l t) sg = 104
  · exact ra_104 hs hl ha hp k104
  by_cases k107 : aE7 a (stp l t) sg = 107
  · exact ra_107 hs hl ha hp k107
  by_cases k109 : aE7 a (stp l t) sg = 109
  · exact ra_109 hs hl ha hp k109
  by_cases k111 : aE7 a (stp l t) sg = 111
  · exact ra_111 hs hl ha hp k111
  by_cases k112 : aE7 a (stp l t) sg = 112
  · exact ra_112 hs hl ha hp k112
  by_cases k122 : aE7 a (stp l t) sg = 122
  · exact ra_122 hs hl ha hp k122
  unfold RA
  rw [aVT, if_neg k97, if_neg k100, if_neg k104, if_neg k107, if_neg k109, if_neg k111, if_neg k112, if_neg k122, aMq, hr_eq hs, if_neg k109, if_neg k112, if_neg k104, if_neg k100, if_neg k107, if_neg k97, if_neg k111, if_neg k122, fault_m, aKM, if_neg k109, aJS, if_neg k112, if_neg k104]
  exact Or.inr ⟨a, rfl, rfl, ha.1, Or.inl rfl⟩
end RACT
def AR (n : Nat) (xa ma : Nat -> Int32) : Prop := ∀ k : Nat, k < n -> ∃ c v : Int32, DAC c v (ma (2 * k + 1)) /\ Int32.toInt (xa k) = 100 * c.toInt + v.toInt /\ ma (2 * k) = c
def FinR (R : Int32 × (Nat -> Int32) × Int32) (st x1 at1 wr : Int32) (ma : Nat -> Int32) : Prop := (R.1 = x1 /\ (0 <= x1.toInt /\ x1.toInt <= 30) /\ R.2.2 = at1 /\ wr = -1 /\ (0 <= at1.toInt /\ at1.toInt <= st.toInt) /\ AR x1.toInt.toNat R.2.1 ma) \/ (R.1 = -1 /\ wr = R.2.2 /\ 0 <= wr.toInt)
def DI (R : Int32 × (Nat -> Int32) × Int32) (l t x1 x2 at1 wr : Int32) (sg ma : Nat -> Int32) : Prop := (¬ x2 = 0 /\ wr = -1 /\ ∃ (f : Nat) (xa : Nat -> Int32), R = flp (fs_X9_readActs_2 (fun o0 o1 o2 => (o0, o1, o2)) (stp l t) sg) (fun _ _ _ => (0, (fun _ => 0), 0)) f x1 xa at1 /\ f + x1.toInt.toNat = 31 /\ 0 <= x1.toInt /\ x1.toInt <= 30 /\ 2 * x1.toInt <= at1.toInt /\ at1.toInt <= (stp l t).toInt /\ AR x1.toInt.toNat xa ma) \/ (x2 = 0 /\ FinR R (stp l t) x1 at1 wr ma)
theorem di_step {R : Int32 × (Nat -> Int32) × Int32} {l t x1 at1 : Int32} {sg tx ru ma xa : Nat -> Int32} {f : Nat} (hs : ∀ k : Nat, sg k = tx k &&& 255) (hl : l.toInt <= 80) (ht : t.toInt <= 60) (eR : R = flp (fs_X9_readActs_2 (fun o0 o1 o2 => (o0, o1, o2)) (stp l t) sg) (fun _ _ _ => (0, (fun _ => 0), 0)) f x1 xa at1) (hf : f + x1.toInt.toNat = 31) (h0 : 0 <= x1.toInt) (h30 : x1.toInt <= 30) (h2 : 2 * x1.toInt <= at1.toInt) (h3 : at1.toInt <= (stp l t).toInt) (hA : AR x1.toInt.toNat xa ma) :
    DI R l t (x1 + 1) (aH1 59 1 l t (aMq (2 * x1) 1 l t at1 (-1) tx ru ma).1 (aMq (2 * x1) 1 l t at1 (-1) tx ru ma).2.1 tx ru).1 (aH1 59 1 l t (aMq (2 * x1) 1 l t at1 (-1) tx ru ma).1 (aMq (2 * x1) 1 l t at1 (-1) tx ru ma).2.1 tx ru).2 (aMq (2 * x1) 1 l t at1 (-1) tx ru ma).2.1 sg (aMq (2 * x1) 1 l t at1 (-1) tx ru ma).2.2 := by
  have l1 : Int32.toInt (1 : Int32) = 1 := by decide
  have l2 : Int32.toInt (2 : Int32) = 2 := by decide
  have l30 : Int32.toInt (30 : Int32) = 30 := by decide
  have hst := stp_r l t
  have e2 := ta_cmul 2 x1 l2 (by omega)
  have ex := cl_n x1
  have ax := aAD x1 1 (by omega)
  have en : (2 * x1).toInt.toNat = 2 * x1.toInt.toNat := by omega
  obtain ⟨g, rfl⟩ : ∃ g, f = g + 1 := ⟨f - 1, by omega⟩
  rw [flp_s, fs_X9_readActs_2] at eR
  have hr := ra_rel (t := t) (a := at1) (p0 := 2 * x1) (ru := ru) (ma := ma) hs hl (by omega) (by omega)
  unfold RA at hr
  rw [en] at hr
  obtain ⟨M, hM⟩ : ∃ m, m = aMq (2 * x1) 1 l t at1 (-1) tx ru ma := ⟨_, rfl⟩
  rw [<- hM] at hr ⊢
  by_cases c30 : (30 : Int32) <= x1
  · have d30 := (aAO _ _).mp c30
    rw [if_pos c30] at eR
    rcases hr with ⟨c, v, w, q, e1, hw, hac, m1, m2, m3, m4, g1, g2⟩ | ⟨q, e1, m2, g1, g2⟩
    · exfalso; omega
    · have eq : q = at1 := by
        rcases g2 with g2 | g2
        · exact g2
        · exfalso; omega
      have wn : ¬ M.2.1 = -1 := by rw [m2]; exact ne_m1 g1
      rw [pas_w wn]
      refine Or.inr ⟨rfl, Or.inr ⟨?_, ?_, ?_⟩⟩
      · rw [eR]
      · rw [eR, m2, eq]
      · rw [m2]; exact g1
  · have d30 := mt (aAO _ _).mpr c30
    rw [if_neg c30] at eR
    rcases hr with ⟨c, v, w, q, e1, hw, hac, m1, m2, m3, m4, g1, g2⟩ | ⟨q, e1, m2, g1, g2⟩
    · have r9 := DAC_r hac
      have wn : ¬ (w, q).1 = -1 := ne_m1 (show 0 <= w.toInt by omega)
      have hA2 : AR (x1 + 1).toInt.toNat (upd xa x1.toNatClampNeg w) M.2.2 := by
        intro k hk
        by_cases kk : k = x1.toInt.toNat
        · subst kk
          exact ⟨c, v, hac, by rw [ex, upd_i]; exact hw, m3⟩
        · obtain ⟨c', v', a1, a2, a3⟩ := hA k (by omega)
          refine ⟨c', v', ?_, ?_, ?_⟩
          · rw [m4 _ (by omega)]; exact a1
          · rw [ex, aGi _ _ kk]; exact a2
          · rw [m4 _ (by omega)]; exact a3
      rw [e1, if_neg wn] at eR
      rw [m1, m2, pas_eq hs]
      by_cases c59 : aE7 q (stp l t) sg = 59
      · have b2 := hr_c c59 (by decide)
        have b3 := p1_r (p := q) (st := (stp l t)) (by omega) (by omega) b2
        rw [tk_y c59]
        rw [show aGm 59 (w, q).2 (stp l t) sg = (1, q + 1) from tk_y c59, if_neg (n10 : ¬ ((1 : Int32), q + 1).1 = 0)] at eR
        exact Or.inl ⟨n10, rfl, g, _, eR, by omega, by omega, by omega, by show _ <= (q + 1).toInt; omega, by show (q + 1).toInt <= _; omega, hA2⟩
      · rw [tk_n c59]
        rw [show aGm 59 (w, q).2 (stp l t) sg = (0, q) from tk_n c59, if_pos (rfl : ((0 : Int32), q).1 = 0)] at eR
        refine Or.inr ⟨rfl, Or.inl ⟨by rw [eR], by omega, by rw [eR], rfl, by show 0 <= q.toInt /\ q.toInt <= _; omega, ?_⟩⟩
        rw [eR]; exact hA2
    · have wn : ¬ M.2.1 = -1 := by rw [m2]; exact ne_m1 g1
      rw [e1, if_pos (rfl : ((-1 : Int32), q).1 = -1)] at eR
      rw [pas_w wn]
      refine Or.inr ⟨rfl, Or.inr ⟨?_, ?_, ?_⟩⟩
      · rw [eR]
      · rw [eR, m2]
      · rw [m2]; exact g1
section DAYA
variable {P Q : Int32 -> Int32 -> Int32 -> Int32 -> Nat -> Int32 -> Int32 -> Int32 -> Int32 -> Int32 -> Int32 -> Int32 -> Int32 -> Int32 -> Int32 -> Int32 -> (Nat -> Int32) -> (Nat -> Int32) -> (Nat -> Int32) -> (Nat -> Int32) -> (Nat -> Int32) -> Prop} {bT aG bW l t ty rm th bZ aR aE bI aW bU fJ : Int32} {m_x gR pW qR nG oO pJ qO qQ qG sW uL vF sg : Nat -> Int32} {R : Int32 × (Nat -> Int32) × Int32}
theorem dayA (hs : ∀ k : Nat, sg k = qO k &&& 255) (hl : l.toInt <= 80) (ht : t.toInt <= 60) (hq : ∀ (x1 at1 wr : Int32) (ma : Nat -> Int32), FinR R (stp l t) x1 at1 wr ma -> ws_X10_day_70 P bT aG bW m_x gR pW qR nG oO pJ qO qQ x1 ty rm th 1 l t at1 wr bZ aR aE bI aW bU fJ qG sW uL vF ma -> ws_X10_day_70 Q bT aG bW m_x gR pW qR nG oO pJ qO qQ x1 ty rm th 1 l t at1 wr bZ aR aE bI aW bU fJ qG sW uL vF ma) :
    ∀ (n : Nat) (x1 x2 at1 wr : Int32) (ma : Nat -> Int32), DI R l t x1 x2 at1 wr sg ma -> wb_X10_day_39 P bT aG bW m_x gR pW qR nG oO pJ qO qQ n x1 x2 ty rm th 1 l t at1 wr bZ aR aE bI aW bU fJ qG sW uL vF ma -> wb_X10_day_39 Q bT aG bW m_x gR pW qR nG oO pJ qO qQ n x1 x2 ty rm th 1 l t at1 wr bZ aR aE bI aW bU fJ qG sW uL vF ma := by
  intro n
  induction n with
  | zero => intro x1 x2 at1 wr ma _ h; exact False.elim h
  | succ n ih =>
    intro x1 x2 at1 wr ma hI h
    have h : ws_X10_day_39 P (wb_X10_day_39 P bT aG bW m_x gR pW qR nG oO pJ qO qQ n) bT aG bW m_x gR pW qR nG oO pJ qO qQ x1 x2 ty rm th 1 l t at1 wr bZ aR aE bI aW bU fJ qG sW uL vF ma := h
    show ws_X10_day_39 Q (wb_X10_day_39 Q bT aG bW m_x gR pW qR nG oO pJ qO qQ n) bT aG bW m_x gR pW qR nG oO pJ qO qQ x1 x2 ty rm th 1 l t at1 wr bZ aR aE bI aW bU fJ qG sW uL vF ma
    unfold ws_X10_day_39 at h ⊢
    rcases hI with ⟨k2, kw, f, xa, eR, g1, g2, g3, g4, g5, g6⟩ | ⟨k2, hF⟩
    · subst kw
      refine And.intro (fun c => absurd c k2) (fun _ => ?_)
      have h := And.right h k2
      refine du_X10_fine h ?_
      intro h
      refine And.intro (fun c => absurd c fine_m) (fun c => ?_)
      have h := And.right h c
      refine ae ?_
      have h := h _ rfl
      refine du_X10_readAct h ?_
      intro h
      refine ae ?_
      have h := h _ rfl
      refine du_X10_passes h ?_
      intro h
      exact ih _ _ _ _ _ (di_step hs hl ht eR g1 g2 g3 g4 g5 g6) h
    · refine And.intro (fun _ => hq _ _ _ _ hF (And.left h k2)) (fun c => absurd k2 c)
end DAYA
section ACTS
variable {P Q : Int32 -> Nat -> Int32 -> Int32 -> Int32 -> Int32 -> Int32 -> Int32 -> Int32 -> Int32 -> Int32 -> Int32 -> (Nat -> Int32) -> Prop} {bT aG mLn oF rP dQ bW bZ aR aE bI aW fJ ap ba gr br la he td cl rl : Int32} {jD : Nat} {qG m_x gR pW qR nG oO pJ qO qQ x h w r ft fk st rg rs rp : Nat -> Int32}
theorem act_97 {mv : Int32} (T : TR bT aG x h w r ft fk m_x gR pW qR nG oO) (hst2 : ∀ k : Nat, k < 5 -> st k = pJ k) (ht : ∀ k : Nat, k = 3 -> 0 <= Int32.toInt (pJ k) /\ Int32.toInt (pJ k) <= 9) (hm : MR bT aG ap ba gr br la he td qG) (h9 : aVD P 97 mv bT aG jD mLn oF rP dQ bW bZ aR aE bI aW fJ qG m_x gR pW qR nG oO pJ qO qQ) (hq : ∀ (o0 : Int32) (o1 : Nat) (o2 o3 o4 o5 o6 o7 o8 o9 o10 o11 : Int32) (o12 : Nat -> Int32), P o0 o1 o2 o3 o4 o5 o6 o7 o8 o9 o10 o11 o12 -> (((o0 = 0 /\ Int32.toInt (aCI 97 0 bT aG x h w r ft fk st ap ba gr br la he td cl rl rg rs rp).1 < 0) \/ (¬ o0 = 0 /\ 0 <= Int32.toInt (aCI 97 0 bT aG x h w r ft fk st ap ba gr br la he td cl rl rg rs rp).1)) /\ MR bT aG (aCI 97 0 bT aG x h w r ft fk st ap ba gr br la he td cl rl rg rs rp).2.1 (aCI 97 0 bT aG x h w r ft fk st ap ba gr br la he td cl rl rg rs rp).2.2.1 (aCI 97 0 bT aG x h w r ft fk st ap ba gr br la he td cl rl rg rs rp).2.2.2.1 (aCI 97 0 bT aG x h w r ft fk st ap ba gr br la he td cl rl rg rs rp).2.2.2.2.1 (aCI 97 0 bT aG x h w r ft fk st ap ba gr br la he td cl rl rg rs rp).2.2.2.2.2.1 (aCI 97 0 bT aG x h w r ft fk st ap ba gr br la he td cl rl rg rs rp).2.2.2.2.2.2.1 (aCI 97 0 bT aG x h w r ft fk st ap ba gr br la he td cl rl rg rs rp).2.2.2.2.2.2.2.1 o12) -> Q o0 o1 o2 o3 o4 o5 o6 o7 o8 o9 o10 o11 o12) : aVD Q 97 mv bT aG jD mLn oF rP dQ bW bZ aR aE bI aW fJ qG m_x gR pW qR nG oO pJ qO qQ := by
  have l0 : Int32.toInt (0 : Int32) = 0 := by decide
  have bf := T.2.2.1
  obtain ⟨D, eD⟩ : ∃ d, d = (aCI 97 0 bT aG x h w r ft fk st ap ba gr br la he td cl rl rg rs rp) := ⟨_, rfl⟩
  rw [<- eD] at hq
  rw [aCI, if_pos (rfl : (97 : Int32) = 97)] at eD
  unfold aVD at h9 ⊢
  refine ⟨fun _ => ?_, fun e => absurd e (by decide : ¬ (97 : Int32) = 100), fun e => absurd e (by decide : ¬ (97 : Int32) = 104), fun e => absurd e (by decide : ¬ (97 : Int32) = 107), fun e => absurd e (by decide : ¬ (97 : Int32) = 109), fun e => absurd e (by decide : ¬ (97 : Int32) = 111), fun e => absurd e (by decide : ¬ (97 : Int32) = 112), fun e0 =>  fun _ =>  fun _ =>  fun _ =>  fun _ =>  fun _ =>  fun _ => absurd rfl e0⟩
  have h9 := h9.1 rfl
  unfold ws_X10_act_176 at h9 ⊢
  refine And.intro (fun c => absurd rfl c) (fun _ => ?_)
  have h9 := And.right h9 rfl
  unfold ws_X10_act_193 at h9 ⊢
  refine And.intro (And.left h9) ?_
  have h9 := And.right h9
  have hy : ¬ F_X9_isYesOrNo 1 = 0 := by rw [yn_eq]; decide
  rw [bBa, if_neg hy] at eD
  subst eD
  have h0 : 0 <= he.toInt := by rcases hm.2.2.2 with e | e <;> rw [e] <;> decide
  exact hq _ _ _ _ _ _ _ _ _ _ _ _ _ h9 ⟨Or.inr ⟨n10, h0⟩, MQm_18 hm.1 bf.2 1, hm.2.1, hm.2.2.1, Or.inr rfl⟩
theorem act_111 {mv : Int32} (T : TR bT aG x h w r ft fk m_x gR pW qR nG oO) (hst2 : ∀ k : Nat, k < 5 -> st k = pJ k) (ht : ∀ k : Nat, k = 3 -> 0 <= Int32.toInt (pJ k) /\ Int32.toInt (pJ k) <= 9) (hm : MR bT aG ap ba gr br la he td qG) (h9 : aVD P 111 mv bT aG jD mLn oF rP dQ bW bZ aR aE bI aW fJ qG m_x gR pW qR nG oO pJ qO qQ) (hq : ∀ (o0 : Int32) (o1 : Nat) (o2 o3 o4 o5 o6 o7 o8 o9 o10 o11 : Int32) (o12 : Nat -> Int32), P o0 o1 o2 o3 o4 o5 o6 o7 o8 o9 o10 o11 o12 -> (((o0 = 0 /\ Int32.toInt (aCI 111 0 bT aG x h w r ft fk st ap ba gr br la he td cl rl rg rs rp).1 < 0) \/ (¬ o0 = 0 /\ 0 <= Int32.toInt (aCI 111 0 bT aG x h w r ft fk st ap ba gr br la he td cl rl rg rs rp).1)) /\ MR bT aG (aCI 111 0 bT aG x h w r ft fk st ap ba gr br la he td cl rl rg rs rp).2.1 (aCI 111 0 bT aG x h w r ft fk st ap ba gr br la he td cl rl rg rs rp).2.2.1 (aCI 111 0 bT aG x h w r ft fk st ap ba gr br la he td cl rl rg rs rp).2.2.2.1 (aCI 111 0 bT aG x h w r ft fk st ap ba gr br la he td cl rl rg rs rp).2.2.2.2.1 (aCI 111 0 bT aG x h w r ft fk st ap ba gr br la he td cl rl rg rs rp).2.2.2.2.2.1 (aCI 111 0 bT aG x h w r ft fk st ap ba gr br la he td cl rl rg rs rp).2.2.2.2.2.2.1 (aCI 111 0 bT aG x h w r ft fk st ap ba gr br la he td cl rl rg rs rp).2.2.2.2.2.2.2.1 o12) -> Q o0 o1 o2 o3 o4 o5 o6 o7 o8 o9 o10 o11 o12) : aVD Q 111 mv bT aG jD mLn oF rP dQ bW bZ aR aE bI aW fJ qG m_x gR pW qR nG oO pJ qO qQ := by
  have l0 : Int32.toInt (0 : Int32) = 0 := by decide
  have bf := T.2.2.1
  obtain ⟨D, eD⟩ : ∃ d, d = (aCI 111 0 bT aG x h w r ft fk st ap ba gr br la he td cl rl rg rs rp) := ⟨_, rfl⟩
  rw [<- eD] at hq
  rw [aCI, if_neg (by decide : ¬ (111 : Int32) = 97), if_neg (by decide : ¬ (111 : Int32) = 100), if_neg (by decide : ¬ (111 : Int32) = 104), if_neg (by decide : ¬ (111 : Int32) = 107), if_neg (by decide : ¬ (111 : Int32) = 109), if_pos (rfl : (111 : Int32) = 111)] at eD
  unfold aVD at h9 ⊢
  refine ⟨fun e => absurd e (by decide : ¬ (111 : Int32) = 97), fun e => absurd e (by decide : ¬ (111 : Int32) = 100), fun e => absurd e (by decide : ¬ (111 : Int32) = 104), fun e => absurd e (by decide : ¬ (111 : Int32) = 107), fun e => absurd e (by decide : ¬ (111 : Int32) = 109), fun _ => ?_, fun e => absurd e (by decide : ¬ (111 : Int32) = 112), fun _ =>  fun _ =>  fun _ =>  fun _ =>  fun _ =>  fun e5 =>  fun _ => absurd rfl e5⟩
  have h9 := h9.2.2.2.2.2.1 rfl
  unfold ws_X10_act_176 at h9 ⊢
  refine And.intro (fun _ => ?_) (fun e => absurd e (by decide : ¬ (111 : Int32) = 97))
  have h9 := And.left h9 (by decide : ¬ (111 : Int32) = 97)
  unfold ws_X10_act_193 at h9 ⊢
  refine And.intro (And.left h9) ?_
  have h9 := And.right h9
  have hy : ¬ F_X9_isYesOrNo 0 = 0 := by rw [yn_eq]; decide
  rw [bBa, if_neg hy] at eD
  subst eD
  have h0 : 0 <= he.toInt := by rcases hm.2.2.2 with e | e <;> rw [e] <;> decide
  exact hq _ _ _ _ _ _ _ _ _ _ _ _ _ h9 ⟨Or.inr ⟨n10, h0⟩, MQm_18 hm.1 bf.2 0, hm.2.1, hm.2.2.1, Or.inl rfl⟩
theorem act_100 {mv : Int32} (T : TR bT aG x h w r ft fk m_x gR pW qR nG oO) (hst2 : ∀ k : Nat, k < 5 -> st k = pJ k) (ht : ∀ k : Nat, k = 3 -> 0 <= Int32.toInt (pJ k) /\ Int32.toInt (pJ k) <= 9) (hm : MR bT aG ap ba gr br la he td qG) (h9 : aVD P 100 mv bT aG jD mLn oF rP dQ bW bZ aR aE bI aW fJ qG m_x gR pW qR nG oO pJ qO qQ) (hq : ∀ (o0 : Int32) (o1 : Nat) (o2 o3 o4 o5 o6 o7 o8 o9 o10 o11 : Int32) (o12 : Nat -> Int32), P o0 o1 o2 o3 o4 o5 o6 o7 o8 o9 o10 o11 o12 -> (((o0 = 0 /\ Int32.toInt (aCI 100 0 bT aG x h w r ft fk st ap ba gr br la he td cl rl rg rs rp).1 < 0) \/ (¬ o0 = 0 /\ 0 <= Int32.toInt (aCI 100 0 bT aG x h w r ft fk st ap ba gr br la he td cl rl rg rs rp).1)) /\ MR bT aG (aCI 100 0 bT aG x h w r ft fk st ap ba gr br la he td cl rl rg rs rp).2.1 (aCI 100 0 bT aG x h w r ft fk st ap ba gr br la he td cl rl rg rs rp).2.2.1 (aCI 100 0 bT aG x h w r ft fk st ap ba gr br la he td cl rl rg rs rp).2.2.2.1 (aCI 100 0 bT aG x h w r ft fk st ap ba gr br la he td cl rl rg rs rp).2.2.2.2.1 (aCI 100 0 bT aG x h w r ft fk st ap ba gr br la he td cl rl rg rs rp).2.2.2.2.2.1 (aCI 100 0 bT aG x h w r ft fk st ap ba gr br la he td cl rl rg rs rp).2.2.2.2.2.2.1 (aCI 100 0 bT aG x h w r ft fk st ap ba gr br la he td cl rl rg rs rp).2.2.2.2.2.2.2.1 o12) -> Q o0 o1 o2 o3 o4 o5 o6 o7 o8 o9 o10 o11 o12) : aVD Q 100 mv bT aG jD mLn oF rP dQ bW bZ aR aE bI aW fJ qG m_x gR pW qR nG oO pJ qO qQ := by
  have l0 : Int32.toInt (0 : Int32) = 0 := by decide
  have bf := T.2.2.1
  obtain ⟨D, eD⟩ : ∃ d, d = (aCI 100 0 bT aG x h w r ft fk st ap ba gr br la he td cl rl rg rs rp) := ⟨_, rfl⟩
  rw [<- eD] at hq
  rw [aCI, if_neg (by decide : ¬ (100 : Int32) = 97), if_pos (rfl : (100 : Int32) = 100)] at eD
  unfold aVD at h9 ⊢
  refine ⟨fun e => absurd e (by decide : ¬ (100 : Int32) = 97), fun _ => ?_, fun e => absurd e (by decide : ¬ (100 : Int32) = 104), fun e => absurd e (by decide : ¬ (100 : Int32) = 107), fun e => absurd e (by decide : ¬ (100 : Int32) = 109), fun e => absurd e (by decide : ¬ (100 : Int32) = 111), fun e => absurd e (by decide : ¬ (100 : Int32) = 112), fun _ =>  fun e1 =>  fun _ =>  fun _ =>  fun _ =>  fun _ =>  fun _ => absurd rfl e1⟩
  have h9 := h9.2.1 rfl
  refine du_X10_canDown h9 ?_
  intro h9
  rcases down_g (cl := cl) T hm with ⟨a, _, b, c⟩ | ⟨a, b, _, d⟩
  · refine And.intro (fun e => absurd b e) (fun e => ?_)
    have h9 := And.right h9 e
    rw [c] at eD
    subst eD
    exact hq _ _ _ _ _ _ _ _ _ _ _ _ _ h9 ⟨Or.inl ⟨rfl, a⟩, hm⟩
  · refine And.intro (fun e => ?_) (fun e => absurd e (neg1 b))
    have h9 := And.left h9 e
    refine du_X10_goDown h9 ?_
    intro h9
    have a0 : 0 <= Int32.toInt (aVR fk ap ba la cl).1 := by rw [a]; exact (bc_r ap).1
    subst eD
    exact hq _ _ _ _ _ _ _ _ _ _ _ _ _ h9 ⟨Or.inr ⟨n10, a0⟩, d⟩
theorem act_107 {mv : Int32} (T : TR bT aG x h w r ft fk m_x gR pW qR nG oO) (hst2 : ∀ k : Nat, k < 5 -> st k = pJ k) (ht : ∀ k : Nat, k = 3 -> 0 <= Int32.toInt (pJ k) /\ Int32.toInt (pJ k) <= 9) (hm : MR bT aG ap ba gr br la he td qG) (h9 : aVD P 107 mv bT aG jD mLn oF rP dQ bW bZ aR aE bI aW fJ qG m_x gR pW qR nG oO pJ qO qQ) (hq : ∀ (o0 : Int32) (o1 : Nat) (o2 o3 o4 o5 o6 o7 o8 o9 o10 o11 : Int32) (o12 : Nat -> Int32), P o0 o1 o2 o3 o4 o5 o6 o7 o8 o9 o10 o11 o12 -> (((o0 = 0 /\ Int32.toInt (aCI 107 0 bT aG x h w r ft fk st ap ba gr br la he td cl rl rg rs rp).1 < 0) \/ (¬ o0 = 0 /\ 0 <= Int32.toInt (aCI 107 0 bT aG x h w r ft fk st ap ba gr br la he td cl rl rg rs rp).1)) /\ MR bT aG (aCI 107 0 bT aG x h w r ft fk st ap ba gr br la he td cl rl rg rs rp).2.1 (aCI 107 0 bT aG x h w r ft fk st ap ba gr br la he td cl rl rg rs rp).2.2.1 (aCI 107 0 bT aG x h w r ft fk st ap ba gr br la he td cl rl rg rs rp).2.2.2.1 (aCI 107 0 bT aG x h w r ft fk st ap ba gr br la he td cl rl rg rs rp).2.2.2.2.1 (aCI 107 0 bT aG x h w r ft fk st ap ba gr br la he td cl rl rg rs rp).2.2.2.2.2.1 (aCI 107 0 bT aG x h w r ft fk st ap ba gr br la he td cl rl rg rs rp).2.2.2.2.2.2.1 (aCI 107 0 bT aG x h w r ft fk st ap ba gr br la he td cl rl rg rs rp).2.2.2.2.2.2.2.1 o12) -> Q o0 o1 o2 o3 o4 o5 o6 o7 o8 o9 o10 o11 o12) : aVD Q 107 mv bT aG jD mLn oF rP dQ bW bZ aR aE bI aW fJ qG m_x gR pW qR nG oO pJ qO qQ := by
  have l0 : Int32.toInt (0 : Int32) = 0 := by decide
  have bf := T.2.2.1
  obtain ⟨D, eD⟩ : ∃ d, d = (aCI 107 0 bT aG x h w r ft fk st ap ba gr br la he td cl rl rg rs rp) := ⟨_, rfl⟩
  rw [<- eD] at hq
  rw [aCI, if_neg (by decide : ¬ (107 : Int32) = 97), if_neg (by decide : ¬ (107 : Int32) = 100), if_neg (by decide : ¬ (107 : Int32) = 104), if_pos (rfl : (107 : Int32) = 107)] at eD
  unfold aVD at h9 ⊢
  refine ⟨fun e => absurd e (by decide : ¬ (107 : Int32) = 97), fun e => absurd e (by decide : ¬ (107 : Int32) = 100), fun e => absurd e (by decide : ¬ (107 : Int32) = 104), fun _ => ?_, fun e => absurd e (by decide : ¬ (107 : Int32) = 109), fun e => absurd e (by decide : ¬ (107 : Int32) = 111), fun e => absurd e (by decide : ¬ (107 : Int32) = 112), fun _ =>  fun _ =>  fun _ =>  fun e3 =>  fun _ =>  fun _ =>  fun _ => absurd rfl e3⟩
  have h9 := h9.2.2.2.1 rfl
  refine ae ?_
  have h9 := h9 _ rfl
  rw [c17] at h9 ⊢
  rcases shake_g (cl := cl) T hst2 hm with ⟨a, _, b, c⟩ | ⟨a, b, _, d⟩
  · refine And.intro (fun e => absurd b e) (fun e => ?_)
    have h9 := And.right h9 e
    rw [c] at eD
    subst eD
    exact hq _ _ _ _ _ _ _ _ _ _ _ _ _ h9 ⟨Or.inl ⟨rfl, a⟩, hm⟩
  · refine And.intro (fun e => ?_) (fun e => absurd e b)
    have h9 := And.left h9 e
    refine du_X10_goShake h9 ?_
    intro h9
    subst eD
    exact hq _ _ _ _ _ _ _ _ _ _ _ _ _ h9 ⟨Or.inr ⟨n10, a⟩, d⟩
theorem act_109 {v : Int32} (T : TR bT aG x h w r ft fk m_x gR pW qR nG oO) (hst2 : ∀ k : Nat, k < 5 -> st k = pJ k) (ht : ∀ k : Nat, k = 3 -> 0 <= Int32.toInt (pJ k) /\ Int32.toInt (pJ k) <= 9) (hm : MR bT aG ap ba gr br la he td qG) (h9 : aVD P 109 v bT aG jD mLn oF rP dQ bW bZ aR aE bI aW fJ qG m_x gR pW qR nG oO pJ qO qQ) (hq : ∀ (o0 : Int32) (o1 : Nat) (o2 o3 o4 o5 o6 o7 o8 o9 o10 o11 : Int32) (o12 : Nat -> Int32), P o0 o1 o2 o3 o4 o5 o6 o7 o8 o9 o10 o11 o12 -> (((o0 = 0 /\ Int32.toInt (aCI 109 v bT aG x h w r ft fk st ap ba gr br la he td cl rl rg rs rp).1 < 0) \/ (¬ o0 = 0 /\ 0 <= Int32.toInt (aCI 109 v bT aG x h w r ft fk st ap ba gr br la he td cl rl rg rs rp).1)) /\ MR bT aG (aCI 109 v bT aG x h w r ft fk st ap ba gr br la he td cl rl rg rs rp).2.1 (aCI 109 v bT aG x h w r ft fk st ap ba gr br la he td cl rl rg rs rp).2.2.1 (aCI 109 v bT aG x h w r ft fk st ap ba gr br la he td cl rl rg rs rp).2.2.2.1 (aCI 109 v bT aG x h w r ft fk st ap ba gr br la he td cl rl rg rs rp).2.2.2.2.1 (aCI 109 v bT aG x h w r ft fk st ap ba gr br la he td cl rl rg rs rp).2.2.2.2.2.1 (aCI 109 v bT aG x h w r ft fk st ap ba gr br la he td cl rl rg rs rp).2.2.2.2.2.2.1 (aCI 109 v bT aG x h w r ft fk st ap ba gr br la he td cl rl rg rs rp).2.2.2.2.2.2.2.1 o12) -> Q o0 o1 o2 o3 o4 o5 o6 o7 o8 o9 o10 o11 o12) : aVD Q 109 v bT aG jD mLn oF rP dQ bW bZ aR aE bI aW fJ qG m_x gR pW qR nG oO pJ qO qQ := by
  have l0 : Int32.toInt (0 : Int32) = 0 := by decide
  have bf := T.2.2.1
  obtain ⟨D, eD⟩ : ∃ d, d = (aCI 109 v bT aG x h w r ft fk st ap ba gr br la he td cl rl rg rs rp) := ⟨_, rfl⟩
  rw [<- eD] at hq
  rw [aCI, if_neg (by decide : ¬ (109 : Int32) = 97), if_neg (by decide : ¬ (109 : Int32) = 100), if_neg (by decide : ¬ (109 : Int32) = 104), if_neg (by decide : ¬ (109 : Int32) = 107), if_pos (rfl : (109 : Int32) = 109)] at eD
  unfold aVD at h9 ⊢
  refine ⟨fun e => absurd e (by decide : ¬ (109 : Int32) = 97), fun e => absurd e (by decide : ¬ (109 : Int32) = 100), fun e => absurd e (by decide : ¬ (109 : Int32) = 104), fun e => absurd e (by decide : ¬ (109 : Int32) = 107), fun _ => ?_, fun e => absurd e (by decide : ¬ (109 : Int32) = 111), fun e => absurd e (by decide : ¬ (109 : Int32) = 112), fun _ =>  fun _ =>  fun _ =>  fun _ =>  fun e4 =>  fun _ =>  fun _ => absurd rfl e4⟩
  have h9 := h9.2.2.2.2.1 rfl
  refine du_X10_refusesMove h9 ?_
  intro h9
  rcases lad_g (cl := cl) T hst2 ht v hm with ⟨a, b, c⟩ | ⟨a, b, _, d⟩
  · have k : ¬ (0 : Int32) <= F_X10_refusesMove v aG qG := fun e => by rw [b] at e; have := (aAO _ _).mp e; omega
    refine And.intro (fun e => absurd e k) (fun e => ?_)
    have h9 := And.right h9 e
    rw [c] at eD
    subst eD
    exact hq _ _ _ _ _ _ _ _ _ _ _ _ _ h9 ⟨Or.inl ⟨rfl, a⟩, hm⟩
  · have k : (0 : Int32) <= F_X10_refusesMove v aG qG := by rw [b]; decide
    refine And.intro (fun e => ?_) (fun e => absurd k e)
    have h9 := And.left h9 e
    refine du_X10_goMove h9 ?_
    intro h9
    subst eD
    exact hq _ _ _ _ _ _ _ _ _ _ _ _ _ h9 ⟨Or.inr ⟨n10, a⟩, d⟩
theorem act_122 {mv : Int32} (T : TR bT aG x h w r ft fk m_x gR pW qR nG oO) (hst2 : ∀ k : Nat, k < 5 -> st k = pJ k) (ht : ∀ k : Nat, k = 3 -> 0 <= Int32.toInt (pJ k) /\ Int32.toInt (pJ k) <= 9) (hm : MR bT aG ap ba gr br la he td qG) (h9 : aVD P 122 mv bT aG jD mLn oF rP dQ bW bZ aR aE bI aW fJ qG m_x gR pW qR nG oO pJ qO qQ) (hq : ∀ (o0 : Int32) (o1 : Nat) (o2 o3 o4 o5 o6 o7 o8 o9 o10 o11 : Int32) (o12 : Nat -> Int32), P o0 o1 o2 o3 o4 o5 o6 o7 o8 o9 o10 o11 o12 -> (((o0 = 0 /\ Int32.toInt (aCI 122 0 bT aG x h w r ft fk st ap ba gr br la he td cl rl rg rs rp).1 < 0) \/ (¬ o0 = 0 /\ 0 <= Int32.toInt (aCI 122 0 bT aG x h w r ft fk st ap ba gr br la he td cl rl rg rs rp).1)) /\ MR bT aG (aCI 122 0 bT aG x h w r ft fk st ap ba gr br la he td cl rl rg rs rp).2.1 (aCI 122 0 bT aG x h w r ft fk st ap ba gr br la he td cl rl rg rs rp).2.2.1 (aCI 122 0 bT aG x h w r ft fk st ap ba gr br la he td cl rl rg rs rp).2.2.2.1 (aCI 122 0 bT aG x h w r ft fk st ap ba gr br la he td cl rl rg rs rp).2.2.2.2.1 (aCI 122 0 bT aG x h w r ft fk st ap ba gr br la he td cl rl rg rs rp).2.2.2.2.2.1 (aCI 122 0 bT aG x h w r ft fk st ap ba gr br la he td cl rl rg rs rp).2.2.2.2.2.2.1 (aCI 122 0 bT aG x h w r ft fk st ap ba gr br la he td cl rl rg rs rp).2.2.2.2.2.2.2.1 o12) -> Q o0 o1 o2 o3 o4 o5 o6 o7 o8 o9 o10 o11 o12) : aVD Q 122 mv bT aG jD mLn oF rP dQ bW bZ aR aE bI aW fJ qG m_x gR pW qR nG oO pJ qO qQ := by
  have l0 : Int32.toInt (0 : Int32) = 0 := by decide
  have bf := T.2.2.1
  obtain ⟨D, eD⟩ : ∃ d, d = (aCI 122 0 bT aG x h w r ft fk st ap ba gr br la he td cl rl rg rs rp) := ⟨_, rfl⟩
  rw [<- eD] at hq
  rw [aCI, if_neg (by decide : ¬ (122 : Int32) = 97), if_neg (by decide : ¬ (122 : Int32) = 100), if_neg (by decide : ¬ (122 : Int32) = 104), if_neg (by decide : ¬ (122 : Int32) = 107), if_neg (by decide : ¬ (122 : Int32) = 109), if_neg (by decide : ¬ (122 : Int32) = 111), if_neg (by decide : ¬ (122 : Int32) = 112), j_X9_doAct_143] at eD
  unfold aVD at h9 ⊢
  refine ⟨fun e => absurd e (by decide : ¬ (122 : Int32) = 97), fun e => absurd e (by decide : ¬ (122 : Int32) = 100), fun e => absurd e (by decide : ¬ (122 : Int32) = 104), fun e => absurd e (by decide : ¬ (122 : Int32) = 107), fun e => absurd e (by decide : ¬ (122 : Int32) = 109), fun e => absurd e (by decide : ¬ (122 : Int32) = 111), fun e => absurd e (by decide : ¬ (122 : Int32) = 112), fun _ _ _ _ _ _ _ => ?_⟩
  have h9 := h9.2.2.2.2.2.2.2 (by decide : ¬ (122 : Int32) = 97) (by decide : ¬ (122 : Int32) = 100) (by decide : ¬ (122 : Int32) = 104) (by decide : ¬ (122 : Int32) = 107) (by decide : ¬ (122 : Int32) = 109) (by decide : ¬ (122 : Int32) = 111) (by decide : ¬ (122 : Int32) = 112)
  unfold ws_X10_act_196 at h9 ⊢
  refine ae ?_
  have h9 := h9 _ rfl
  rw [c19] at h9 ⊢
  rcases sleep_g (cl := cl) bf T.2.2.2.1 hm with ⟨a, _, b, c⟩ | ⟨a, b, _, d⟩
  · refine And.intro (fun e => absurd b e) (fun e => ?_)
    have h9 := And.right h9 e
    rw [c] at eD
    subst eD
    exact hq _ _ _ _ _ _ _ _ _ _ _ _ _ h9 ⟨Or.inl ⟨rfl, a⟩, hm⟩
  · refine And.intro (fun e => ?_) (fun e => absurd e b)
    have h9 := And.left h9 e
    refine du_X10_goSleep h9 ?_
    intro h9
    subst eD
    exact hq _ _ _ _ _ _ _ _ _ _ _ _ _ h9 ⟨Or.inr ⟨n10, a⟩, d⟩
theorem act_112 {v : Int32} (T : TR bT aG x h w r ft fk m_x gR pW qR nG oO) (hst2 : ∀ k : Nat, k < 5 -> st k = pJ k) (ht : ∀ k : Nat, k = 3 -> 0 <= Int32.toInt (pJ k) /\ Int32.toInt (pJ k) <= 9) (hm : MR bT aG ap ba gr br la he td qG) (h9 : aVD P 112 v bT aG jD mLn oF rP dQ bW bZ aR aE bI aW fJ qG m_x gR pW qR nG oO pJ qO qQ) (hq : ∀ (o0 : Int32) (o1 : Nat) (o2 o3 o4 o5 o6 o7 o8 o9 o10 o11 : Int32) (o12 : Nat -> Int32), P o0 o1 o2 o3 o4 o5 o6 o7 o8 o9 o10 o11 o12 -> (((o0 = 0 /\ Int32.toInt (aCI 112 v bT aG x h w r ft fk st ap ba gr br la he td cl rl rg rs rp).1 < 0) \/ (¬ o0 = 0 /\ 0 <= Int32.toInt (aCI 112 v bT aG x h w r ft fk st ap ba gr br la he td cl rl rg rs rp).1)) /\ MR bT aG (aCI 112 v bT aG x h w r ft fk st ap ba gr br la he td cl rl rg rs rp).2.1 (aCI 112 v bT aG x h w r ft fk st ap ba gr br la he td cl rl rg rs rp).2.2.1 (aCI 112 v bT aG x h w r ft fk st ap ba gr br la he td cl rl rg rs rp).2.2.2.1 (aCI 112 v bT aG x h w r ft fk st ap ba gr br la he td cl rl rg rs rp).2.2.2.2.1 (aCI 112 v bT aG x h w r ft fk st ap ba gr br la he td cl rl rg rs rp).2.2.2.2.2.1 (aCI 112 v bT aG x h w r ft fk st ap ba gr br la he td cl rl rg rs rp).2.2.2.2.2.2.1 (aCI 112 v bT aG x h w r ft fk st ap ba gr br la he td cl rl rg rs rp).2.2.2.2.2.2.2.1 o12) -> Q o0 o1 o2 o3 o4 o5 o6 o7 o8 o9 o10 o11 o12) : aVD Q 112 v bT aG jD mLn oF rP dQ bW bZ aR aE bI aW fJ qG m_x gR pW qR nG oO pJ qO qQ := by
  have l0 : Int32.toInt (0 : Int32) = 0 := by decide
  have bf := T.2.2.1
  obtain ⟨D, eD⟩ : ∃ d, d = (aCI 112 v bT aG x h w r ft fk st ap ba gr br la he td cl rl rg rs rp) := ⟨_, rfl⟩
  rw [<- eD] at hq
  rw [aCI, if_neg (by decide : ¬ (112 : Int32) = 97), if_neg (by decide : ¬ (112 : Int32) = 100), if_neg (by decide : ¬ (112 : Int32) = 104), if_neg (by decide : ¬ (112 : Int32) = 107), if_neg (by decide : ¬ (112 : Int32) = 109), if_neg (by decide : ¬ (112 : Int32) = 111), if_pos (rfl : (112 : Int32) = 112)] at eD
  unfold aVD at h9 ⊢
  refine ⟨fun e => absurd e (by decide : ¬ (112 : Int32) = 97), fun e => absurd e (by decide : ¬ (112 : Int32) = 100), fun e => absurd e (by decide : ¬ (112 : Int32) = 104), fun e => absurd e (by decide : ¬ (112 : Int32) = 107), fun e => absurd e (by decide : ¬ (112 : Int32) = 109), fun e => absurd e (by decide : ¬ (112 : Int32) = 111), fun _ => ?_, fun _ =>  fun _ =>  fun _ =>  fun _ =>  fun _ =>  fun _ =>  fun e6 => absurd rfl e6⟩
  have h9 := h9.2.2.2.2.2.2.1 rfl
  unfold ws_X10_act_98 at h9 ⊢
  refine And.intro (fun _ => ?_) (fun e => absurd e (by decide : ¬ (112 : Int32) = 104))
  have h9 := And.left h9 (by decide : ¬ (112 : Int32) = 104)
  unfold ws_X10_act_109 at h9 ⊢
  refine du_X10_refusesPick h9 ?_
  intro h9
  rcases pick_g (cl := cl) T hst2 hm v 0 (rl := rl) (rg := rg) (rs := rs) (rp := rp) with ⟨a, b, c, d⟩ | ⟨a, b, c⟩
  · have k : ¬ (0 : Int32) <= F_X10_refusesPick v 0 bT qG m_x gR qR nG oO pJ := fun e => by rw [b] at e; have := (aAO _ _).mp e; omega
    refine And.intro (fun e => absurd e k) (fun e => ?_)
    have h9 := And.right h9 e
    rw [c, d] at eD
    subst eD
    exact hq _ _ _ _ _ _ _ _ _ _ _ _ _ h9 ⟨Or.inl ⟨rfl, a⟩, hm⟩
  · have k : (0 : Int32) <= F_X10_refusesPick v 0 bT qG m_x gR qR nG oO pJ := by rw [b]; decide
    refine And.intro (fun e => ?_) (fun e => absurd k e)
    have h9 := And.left h9 e
    refine gp_w h9 ?_
    intro o0 o1 o2 o3 o4 o5 o6 o7 o8 o9 o10 o11 h9 hv
    obtain ⟨z, rfl⟩ := hv
    refine ae ?_
    have h9 := h9 _ rfl
    subst eD
    exact hq _ _ _ _ _ _ _ _ _ _ _ _ _ h9 ⟨Or.inr ⟨n10, a⟩, c z⟩
theorem act_104 {v : Int32} (T : TR bT aG x h w r ft fk m_x gR pW qR nG oO) (hst2 : ∀ k : Nat, k < 5 -> st k = pJ k) (ht : ∀ k : Nat, k = 3 -> 0 <= Int32.toInt (pJ k) /\ Int32.toInt (pJ k) <= 9) (hm : MR bT aG ap ba gr br la he td qG) (h9 : aVD P 104 v bT aG jD mLn oF rP dQ bW bZ aR aE bI aW fJ qG m_x gR pW qR nG oO pJ qO qQ) (hq : ∀ (o0 : Int32) (o1 : Nat) (o2 o3 o4 o5 o6 o7 o8 o9 o10 o11 : Int32) (o12 : Nat -> Int32), P o0 o1 o2 o3 o4 o5 o6 o7 o8 o9 o10 o11 o12 -> (((o0 = 0 /\ Int32.toInt (aCI 104 v bT aG x h w r ft fk st ap ba gr br la he td cl rl rg rs rp).1 < 0) \/ (¬ o0 = 0 /\ 0 <= Int32.toInt (aCI 104 v bT aG x h w r ft fk st ap ba gr br la he td cl rl rg rs rp).1)) /\ MR bT aG (aCI 104 v bT aG x h w r ft fk st ap ba gr br la he td cl rl rg rs rp).2.1 (aCI 104 v bT aG x h w r ft fk st ap ba gr br la he td cl rl rg rs rp).2.2.1 (aCI 104 v bT aG x h w r ft fk st ap ba gr br la he td cl rl rg rs rp).2.2.2.1 (aCI 104 v bT aG x h w r ft fk st ap ba gr br la he td cl rl rg rs rp).2.2.2.2.1 (aCI 104 v bT aG x h w r ft fk st ap ba gr br la he td cl rl rg rs rp).2.2.2.2.2.1 (aCI 104 v bT aG x h w r ft fk st ap ba gr br la he td cl rl rg rs rp).2.2.2.2.2.2.1 (aCI 104 v bT aG x h w r ft fk st ap ba gr br la he td cl rl rg rs rp).2.2.2.2.2.2.2.1 o12) -> Q o0 o1 o2 o3 o4 o5 o6 o7 o8 o9 o10 o11 o12) : aVD Q 104 v bT aG jD mLn oF rP dQ bW bZ aR aE bI aW fJ qG m_x gR pW qR nG oO pJ qO qQ := by
  have l0 : Int32.toInt (0 : Int32) = 0 := by decide
  have bf := T.2.2.1
  obtain ⟨D, eD⟩ : ∃ d, d = (aCI 104 v bT aG x h w r ft fk st ap ba gr br la he td cl rl rg rs rp) := ⟨_, rfl⟩
  rw [<- eD] at hq
  rw [aCI, if_neg (by decide : ¬ (104 : Int32) = 97), if_neg (by decide : ¬ (104 : Int32) = 100), if_pos (rfl : (104 : Int32) = 104)] at eD
  unfold aVD at h9 ⊢
  refine ⟨fun e => absurd e (by decide : ¬ (104 : Int32) = 97), fun e => absurd e (by decide : ¬ (104 : Int32) = 100), fun _ => ?_, fun e => absurd e (by decide : ¬ (104 : Int32) = 107), fun e => absurd e (by decide : ¬ (104 : Int32) = 109), fun e => absurd e (by decide : ¬ (104 : Int32) = 111), fun e => absurd e (by decide : ¬ (104 : Int32) = 112), fun _ =>  fun _ =>  fun e2 =>  fun _ =>  fun _ =>  fun _ =>  fun _ => absurd rfl e2⟩
  have h9 := h9.2.2.1 rfl
  unfold ws_X10_act_98 at h9 ⊢
  refine And.intro (fun c => absurd rfl c) (fun _ => ?_)
  have h9 := And.right h9 rfl
  unfold ws_X10_act_109 at h9 ⊢
  refine du_X10_refusesPick h9 ?_
  intro h9
  rcases pick_g (cl := cl) T hst2 hm v 1 (rl := rl) (rg := rg) (rs := rs) (rp := rp) with ⟨a, b, c, d⟩ | ⟨a, b, c⟩
  · have k : ¬ (0 : Int32) <= F_X10_refusesPick v 1 bT qG m_x gR qR nG oO pJ := fun e => by rw [b] at e; have := (aAO _ _).mp e; omega
    refine And.intro (fun e => absurd e k) (fun e => ?_)
    have h9 := And.right h9 e
    rw [c, d] at eD
    subst eD
    exact hq _ _ _ _ _ _ _ _ _ _ _ _ _ h9 ⟨Or.inl ⟨rfl, a⟩, hm⟩
  · have k : (0 : Int32) <= F_X10_refusesPick v 1 bT qG m_x gR qR nG oO pJ := by rw [b]; decide
    refine And.intro (fun e => ?_) (fun e => absurd k e)
    have h9 := And.left h9 e
    refine gp_w h9 ?_
    intro o0 o1 o2 o3 o4 o5 o6 o7 o8 o9 o10 o11 h9 hv
    obtain ⟨z, rfl⟩ := hv
    refine ae ?_
    have h9 := h9 _ rfl
    subst eD
    exact hq _ _ _ _ _ _ _ _ _ _ _ _ _ h9 ⟨Or.inr ⟨n10, a⟩, c z⟩
theorem act_w {c v mv : Int32} (hac : DAC c v mv) (T : TR bT aG x h w r ft fk m_x gR pW qR nG oO) (hst2 : ∀ k : Nat, k < 5 -> st k = pJ k) (ht : ∀ k : Nat, k = 3 -> 0 <= Int32.toInt (pJ k) /\ Int32.toInt (pJ k) <= 9) (hm : MR bT aG ap ba gr br la he td qG) (h9 : aVD P c mv bT aG jD mLn oF rP dQ bW bZ aR aE bI aW fJ qG m_x gR pW qR nG oO pJ qO qQ) (hq : ∀ (o0 : Int32) (o1 : Nat) (o2 o3 o4 o5 o6 o7 o8 o9 o10 o11 : Int32) (o12 : Nat -> Int32), P o0 o1 o2 o3 o4 o5 o6 o7 o8 o9 o10 o11 o12 -> (((o0 = 0 /\ Int32.toInt (aCI c v bT aG x h w r ft fk st ap ba gr br la he td cl rl rg rs rp).1 < 0) \/ (¬ o0 = 0 /\ 0 <= Int32.toInt (aCI c v bT aG x h w r ft fk st ap ba gr br la he td cl rl rg rs rp).1)) /\ MR bT aG (aCI c v bT aG x h w r ft fk st ap ba gr br la he td cl rl rg rs rp).2.1 (aCI c v bT aG x h w r ft fk st ap ba gr br la he td cl rl rg rs rp).2.2.1 (aCI c v bT aG x h w r ft fk st ap ba gr br la he td cl rl rg rs rp).2.2.2.1 (aCI c v bT aG x h w r ft fk st ap ba gr br la he td cl rl rg rs rp).2.2.2.2.1 (aCI c v bT aG x h w r ft fk st ap ba gr br la he td cl rl rg rs rp).2.2.2.2.2.1 (aCI c v bT aG x h w r ft fk st ap ba gr br la he td cl rl rg rs rp).2.2.2.2.2.2.1 (aCI c v bT aG x h w r ft fk st ap ba gr br la he td cl rl rg rs rp).2.2.2.2.2.2.2.1 o12) -> Q o0 o1 o2 o3 o4 o5 o6 o7 o8 o9 o10 o11 o12) : aVD Q c mv bT aG jD mLn oF rP dQ bW bZ aR aE bI aW fJ qG m_x gR pW qR nG oO pJ qO qQ := by
  rcases hac with ⟨rfl, _, rfl⟩ | ⟨rfl | rfl, _, rfl⟩ | ⟨rfl | rfl | rfl | rfl | rfl, rfl⟩
  · exact act_109 T hst2 ht hm h9 hq
  · exact act_112 T hst2 ht hm h9 hq
  · exact act_104 T hst2 ht hm h9 hq
  · exact act_97 T hst2 ht hm h9 hq
  · exact act_100 T hst2 ht hm h9 hq
  · exact act_107 T hst2 ht hm h9 hq
  · exact act_111 T hst2 ht hm h9 hq
  · exact act_122 T hst2 ht hm h9 hq
end ACTS
section ACTL
variable {bT aG ap ba gr br la he td cl rl x1 x2 x3 x4 x5 und free ros : Int32} {x h w r ft fk st rg rs rp xa cells ron : Nat -> Int32} {nx : Int32 -> Int32 -> Int32 -> Int32 -> Int32 -> Int32 -> Int32 -> Int32 -> Int32 -> Int32 -> Int32 -> Int32 -> Int32 -> (Nat -> Int32) -> (Nat -> Int32) -> Int32 -> Int32 -> (Nat -> Int32) -> Int32 -> (Nat -> Int32) -> (Int32 × Int32 × Int32 × Int32 × Int32 × Int32 × Int32 × Int32 × Int32 × (Nat -> Int32) × (Nat -> Int32) × Int32 × Int32 × (Nat -> Int32) × Int32 × (Nat -> Int32))}
theorem ds_end (hc : x1 <= x5 \/ (30 : Int32) <= x5 \/ ¬ x4 = 0) : fs_X9_doActs_21 (fun o0 o1 o2 o3 o4 o5 o6 o7 o8 o9 o10 o11 o12 o13 o14 o15 => (o0, o1, o2, o3, o4, o5, o6, o7, o8, o9, o10, o11, o12, o13, o14, o15)) xa bT aG x h w r ft fk st rl rp nx x1 x2 x3 x4 x5 ap ba gr br la he td cl rg rs und free cells ros ron = j_X9_doActs_107 (fun o0 o1 o2 o3 o4 o5 o6 o7 o8 o9 o10 o11 o12 o13 o14 o15 => (o0, o1, o2, o3, o4, o5, o6, o7, o8, o9, o10, o11, o12, o13, o14, o15)) xa bT aG x h w r ft fk st rl rp x2 x3 x4 ap ba gr br la he td cl rg rs und free cells ros ron := by
  rw [fs_X9_doActs_21]
  by_cases c1 : x1 <= x5
  · rw [if_pos c1]
  · rw [if_neg c1]
    by_cases c2 : (30 : Int32) <= x5
    · rw [if_pos c2]
    · rw [if_neg c2]
      rcases hc with hc | hc | hc
      · exact absurd hc c1
      · exact absurd hc c2
      · rw [if_neg hc]
theorem ds_go {c v d0 d1 d2 d3 d4 d5 d6 d7 d8 : Int32} {d9 d10 : Nat -> Int32} (c1 : ¬ x1 <= x5) (c2 : ¬ (30 : Int32) <= x5) (ec : xa x5.toNatClampNeg / 100 = c) (ev : xa x5.toNatClampNeg - c * 100 = v) (ed : (aCI c v bT aG x h w r ft fk st ap ba gr br la he td cl rl rg rs rp) = (d0, d1, d2, d3, d4, d5, d6, d7, d8, d9, d10)) : (d0.toInt < 0 -> fs_X9_doActs_21 (fun o0 o1 o2 o3 o4 o5 o6 o7 o8 o9 o10 o11 o12 o13 o14 o15 => (o0, o1, o2, o3, o4, o5, o6, o7, o8, o9, o10, o11, o12, o13, o14, o15)) xa bT aG x h w r ft fk st rl rp nx x1 x2 x3 0 x5 ap ba gr br la he td cl rg rs und free cells ros ron = nx x1 x2 x3 1 (x5 + 1) d1 d2 d3 d4 d5 d6 d7 d8 d9 d10 und free cells ros ron) /\ (0 <= d0.toInt -> ∃ k : Int32, fs_X9_doActs_21 (fun o0 o1 o2 o3 o4 o5 o6 o7 o8 o9 o10 o11 o12 o13 o14 o15 => (o0, o1, o2, o3, o4, o5, o6, o7, o8, o9, o10, o11, o12, o13, o14, o15)) xa bT aG x h w r ft fk st rl rp nx x1 x2 x3 0 x5 ap ba gr br la he td cl rg rs und free cells ros ron = nx x1 (x2 + 1) k 0 (x5 + 1) d1 d2 d3 d4 d5 d6 d7 d8 d9 d10 und free cells ros ron) := by
  have l0 : Int32.toInt (0 : Int32) = 0 := by decide
  rw [fs_X9_doActs_21, if_neg c1, if_neg c2, if_pos (rfl : (0 : Int32) = 0), ec, ev, ed]
  refine And.intro (fun h => ?_) (fun h => ?_)
  · have k : ¬ (0 : Int32) <= d0 := fun e => by have := (aAO _ _).mp e; omega
    rw [if_neg (k : ¬ (0 : Int32) <= (d0, d1, d2, d3, d4, d5, d6, d7, d8, d9, d10).1), j_X9_doActs_101]
  · have k : (0 : Int32) <= d0 := (aAO _ _).mpr (by omega)
    rw [if_pos (k : (0 : Int32) <= (d0, d1, d2, d3, d4, d5, d6, d7, d8, d9, d10).1)]
    by_cases e1 : c = 112
    · rw [if_pos e1, j_X9_doActs_94, j_X9_doActs_99, j_X9_doActs_101]; exact ⟨_, rfl⟩
    · rw [if_neg e1]
      by_cases e2 : c = 104
      · rw [if_pos e2, j_X9_doActs_94, j_X9_doActs_99, j_X9_doActs_101]; exact ⟨_, rfl⟩
      · rw [if_neg e2, j_X9_doActs_99, j_X9_doActs_101]; exact ⟨_, rfl⟩
end ACTL
def FB (R : Int32 × Int32 × Int32 × Int32 × Int32 × Int32 × Int32 × Int32 × Int32 × (Nat -> Int32) × (Nat -> Int32) × Int32 × Int32 × (Nat -> Int32) × Int32 × (Nat -> Int32)) (fr sd und free : Int32) (cells : Nat -> Int32) (x3 : Int32) (now : Nat -> Int32) : Prop := R.1 = x3 /\ MR fr sd R.2.1 R.2.2.1 R.2.2.2.1 R.2.2.2.2.1 R.2.2.2.2.2.1 R.2.2.2.2.2.2.1 R.2.2.2.2.2.2.2.1 now /\ R.2.2.2.2.2.2.2.2.2.2.2.2.2.1 = cells /\ ((x3.toInt <= 0 /\ R.2.2.2.2.2.2.2.2.2.2.2.1 = und /\ R.2.2.2.2.2.2.2.2.2.2.2.2.1 = free) \/ (0 < x3.toInt /\ R.2.2.2.2.2.2.2.2.2.2.2.1 = (F_X4_hold und free).1 /\ R.2.2.2.2.2.2.2.2.2.2.2.2.1 = (F_X4_hold und free).2))
theorem dec_a {w c v : Int32} (h : w.toInt = 100 * c.toInt + v.toInt) (hc : 97 <= c.toInt /\ c.toInt <= 122) (hv : 0 <= v.toInt /\ v.toInt <= 99) : w / 100 = c /\ w - c * 100 = v := by
  have l : Int32.toInt (100 : Int32) = 100 := by decide
  have d := ti_div w 100 l (by omega) (by omega)
  have m := ta_mulc c 100 l (by omega)
  have s := aCA w (c * 100) (by omega)
  exact ⟨i32 (by omega), i32 (by omega)⟩
section DAYB
variable {P Q : Int32 -> Int32 -> Int32 -> Int32 -> Nat -> Int32 -> Int32 -> Int32 -> Int32 -> Int32 -> Int32 -> Int32 -> Int32 -> Int32 -> Int32 -> Int32 -> (Nat -> Int32) -> (Nat -> Int32) -> (Nat -> Int32) -> (Nat -> Int32) -> (Nat -> Int32) -> Prop} {bT aG ap ba gr br la he td cl rl x1 x2 x3 x4 x5 und free ros l t ty rm th bU bW : Int32} {x h w r ft fk st rg rs rp xa cells ron m_x gR pW qR nG oO pJ qO qQ sW uL vF ma : Nat -> Int32} {R : Int32 × Int32 × Int32 × Int32 × Int32 × Int32 × Int32 × Int32 × Int32 × (Nat -> Int32) × (Nat -> Int32) × Int32 × Int32 × (Nat -> Int32) × Int32 × (Nat -> Int32)}
theorem fb_j {now : Nat -> Int32} (eR : R = j_X9_doActs_107 (fun o0 o1 o2 o3 o4 o5 o6 o7 o8 o9 o10 o11 o12 o13 o14 o15 => (o0, o1, o2, o3, o4, o5, o6, o7, o8, o9, o10, o11, o12, o13, o14, o15)) xa bT aG x h w r ft fk st rl rp x2 x3 x4 ap ba gr br la he td cl rg rs und free cells ros ron) (hm : MR bT aG ap ba gr br la he td now) : FB R bT aG und free cells x2 now := by
  have l0 : Int32.toInt (0 : Int32) = 0 := by decide
  rw [j_X9_doActs_107] at eR
  by_cases c : x2 <= 0
  · have d := (aAO _ _).mp c
    rw [if_pos c, j_X9_doActs_118] at eR
    subst eR
    exact ⟨rfl, hm, rfl, Or.inl ⟨by omega, rfl, rfl⟩⟩
  · have d := mt (aAO _ _).mpr c
    rw [if_neg c, j_X9_doActs_118] at eR
    subst eR
    exact ⟨rfl, hm, rfl, Or.inr ⟨by omega, rfl, rfl⟩⟩
theorem dayB (T : TR bT aG x h w r ft fk m_x gR pW qR nG oO) (hst2 : ∀ k : Nat, k < 5 -> st k = pJ k) (ht : ∀ k : Nat, k = 3 -> 0 <= Int32.toInt (pJ k) /\ Int32.toInt (pJ k) <= 9) (hx : 0 <= x1.toInt /\ x1.toInt <= 30) (hA : AR x1.toInt.toNat xa ma) (hq : ∀ (x3 : Int32) (rd : Nat) (le to at1 wr ia af as1 ah aa pk : Int32) (now : Nat -> Int32), FB R bT aG und free cells x3 now -> (0 <= x3.toInt) -> ws_X10_day_158 P bT aG bW m_x gR pW qR nG oO pJ qO qQ x1 x3 ty rm th rd le to at1 wr ia af as1 ah aa bU pk now sW uL vF ma -> ws_X10_day_158 Q bT aG bW m_x gR pW qR nG oO pJ qO qQ x1 x3 ty rm th rd le to at1 wr ia af as1 ah aa bU pk now sW uL vF ma) :
    ∀ (n f : Nat) (x3 x3c ap ba gr br la he td cl : Int32) (rg rs : Nat -> Int32) (rd : Nat) (le to at1 wr ia af as1 ah aa pk : Int32) (now : Nat -> Int32), R = flp (fs_X9_doActs_21 (fun o0 o1 o2 o3 o4 o5 o6 o7 o8 o9 o10 o11 o12 o13 o14 o15 => (o0, o1, o2, o3, o4, o5, o6, o7, o8, o9, o10, o11, o12, o13, o14, o15)) xa bT aG x h w r ft fk st rl rp) (fun _ _ _ _ _ _ _ _ _ _ _ _ _ _ _ _ _ _ _ _ => (0, 0, 0, 0, 0, 0, 0, 0, 0, (fun _ => 0), (fun _ => 0), 0, 0, (fun _ => 0), 0, (fun _ => 0))) f x1 x3 x3c 0 x3 ap ba gr br la he td cl rg rs und free cells ros ron -> f + x3.toInt.toNat = 31 -> 0 <= x3.toInt /\ x3.toInt <= 30 -> MR bT aG ap ba gr br la he td now -> wb_X10_day_122 P bT aG bW m_x gR pW qR nG oO pJ qO qQ n x1 x3 ty rm th rd le to at1 wr ia af as1 ah aa bU pk now sW uL vF ma -> wb_X10_day_122 Q bT aG bW m_x gR pW qR nG oO pJ qO qQ n x1 x3 ty rm th rd le to at1 wr ia af as1 ah aa bU pk now sW uL vF ma := by
  have l1 : Int32.toInt (1 : Int32) = 1 := by decide
  have l2 : Int32.toInt (2 : Int32) = 2 := by decide
  have l30 : Int32.toInt (30 : Int32) = 30 := by decide
  intro n
  induction n with
  | zero => intro f x3 x3c ap ba gr br la he td cl rg rs rd le to at1 wr ia af as1 ah aa pk now _ _ _ _ h; exact False.elim h
  | succ n ih =>
    intro f x3 x3c ap ba gr br la he td cl rg rs rd le to at1 wr ia af as1 ah aa pk now eR hf h3 hm h9
    have h9 : ws_X10_day_122 P (wb_X10_day_122 P bT aG bW m_x gR pW qR nG oO pJ qO qQ n) bT aG bW m_x gR pW qR nG oO pJ qO qQ x1 x3 ty rm th rd le to at1 wr ia af as1 ah aa bU pk now sW uL vF ma := h9
    show ws_X10_day_122 Q (wb_X10_day_122 Q bT aG bW m_x gR pW qR nG oO pJ qO qQ n) bT aG bW m_x gR pW qR nG oO pJ qO qQ x1 x3 ty rm th rd le to at1 wr ia af as1 ah aa bU pk now sW uL vF ma
    unfold ws_X10_day_122 at h9 ⊢
    obtain ⟨g, rfl⟩ : ∃ g, f = g + 1 := ⟨f - 1, by omega⟩
    rw [flp_s] at eR
    by_cases c : x1 <= x3
    · refine And.intro (fun _ => ?_) (fun e => absurd c e)
      rw [ds_end (Or.inl c)] at eR
      exact hq _ _ _ _ _ _ _ _ _ _ _ _ _ (fb_j eR hm) h3.1 (And.left h9 c)
    · have d := mt (aAO _ _).mpr c
      refine And.intro (fun e => absurd e c) (fun _ => ?_)
      have h9 := And.right h9 c
      have c2 : ¬ (30 : Int32) <= x3 := fun e => by have := (aAO _ _).mp e; omega
      have m2 := ta_cmul 2 x3 l2 (by omega)
      have a2 := aAD (2 * x3) 1 (by omega)
      have ax := aAD x3 1 (by omega)
      have i0 : (2 * x3).toNatClampNeg = 2 * x3.toInt.toNat := by rw [cl_n]; omega
      have i1 : (2 * x3 + 1).toNatClampNeg = 2 * x3.toInt.toNat + 1 := by rw [cl_n]; omega
      obtain ⟨c', v', hac, hw, hc'⟩ := hA x3.toInt.toNat (by omega)
      have r9 := DAC_r hac
      obtain ⟨e1, e2⟩ := dec_a hw r9.1 r9.2
      refine ae ?_
      have h9 := h9 _ rfl
      refine And.intro (And.left h9) ?_
      have h9 := And.right h9
      refine ae ?_
      have h9 := h9 _ rfl
      refine ae ?_
      have h9 := h9 _ rfl
      refine ae ?_
      have h9 := h9 _ rfl
      refine And.intro (And.left h9) ?_
      have h9 := And.right h9
      refine ae ?_
      have h9 := h9 _ rfl
      rw [i0, i1, hc'] at h9 ⊢
      obtain ⟨d0, d1, d2, d3, d4, d5, d6, d7, d8, d9, d10, ed⟩ : ∃ (d0 d1 d2 d3 d4 d5 d6 d7 d8 : Int32) (d9 d10 : Nat -> Int32), (aCI c' v' bT aG x h w r ft fk st ap ba gr br la he td cl rl rg rs rp) = (d0, d1, d2, d3, d4, d5, d6, d7, d8, d9, d10) := ⟨_, _, _, _, _, _, _, _, _, _, _, rfl⟩
      refine act_w (rl := rl) (rg := rg) (rs := rs) (rp := rp) (cl := cl) hac T hst2 ht hm h9 ?_
      rw [ed]
      intro o0 o1 o2 o3 o4 o5 o6 o7 o8 o9 o10 o11 o12 hp hr
      obtain ⟨k1, k2⟩ := ds_go (nx := flp (fs_X9_doActs_21 (fun o0 o1 o2 o3 o4 o5 o6 o7 o8 o9 o10 o11 o12 o13 o14 o15 => (o0, o1, o2, o3, o4, o5, o6, o7, o8, o9, o10, o11, o12, o13, o14, o15)) xa bT aG x h w r ft fk st rl rp) (fun _ _ _ _ _ _ _ _ _ _ _ _ _ _ _ _ _ _ _ _ => (0, 0, 0, 0, 0, 0, 0, 0, 0, (fun _ => 0), (fun _ => 0), 0, 0, (fun _ => 0), 0, (fun _ => 0))) g) (x2 := x3) (x3 := x3c) (und := und) (free := free) (cells := cells) (ros := ros) (ron := ron) c c2 e1 e2 ed
      obtain ⟨hr, hm2⟩ := hr
      rcases hr with ⟨r0, s0⟩ | ⟨r0, s0⟩
      · refine And.intro (fun _ => ?_) (fun e => absurd r0 e)
        rw [k1 s0] at eR
        obtain ⟨g', rfl⟩ : ∃ g', g = g' + 1 := ⟨g - 1, by omega⟩
        rw [flp_s, ds_end (Or.inr (Or.inr n10))] at eR
        exact hq _ _ _ _ _ _ _ _ _ _ _ _ _ (fb_j eR hm2) h3.1 (And.left hp r0)
      · refine And.intro (fun e => absurd e r0) (fun _ => ?_)
        refine ae ?_
        have h9 := And.right hp r0 _ rfl
        obtain ⟨k, ek⟩ := k2 s0
        rw [ek] at eR
        exact ih _ _ _ _ _ _ _ _ _ _ _ _ _ _ _ _ _ _ _ _ _ _ _ _ _ eR (by omega) (by omega) hm2 h9
end DAYB
theorem ar0 {xa ma : Nat -> Int32} : AR (Int32.toInt (0 : Int32)).toNat xa ma := by
  intro k hk
  have e : (Int32.toInt (0 : Int32)).toNat = 0 := by decide
  rw [e] at hk
  omega
theorem rem2_eq (m : Int32) (u a : Nat -> Int32) : F_X10_remember_b2 m u a = aNN m a u := rfl
section DAY
variable {P Q : Int32 -> Int32 -> Int32 -> Int32 -> Nat -> Int32 -> Int32 -> Int32 -> Int32 -> Int32 -> Int32 -> Int32 -> Int32 -> Int32 -> Int32 -> Int32 -> (Nat -> Int32) -> (Nat -> Int32) -> (Nat -> Int32) -> (Nat -> Int32) -> (Nat -> Int32) -> Prop} {bT aG jC bL bY mLn oF rP dQ bW bZ aR aE bI aW bU fJ ap ba gr br la he td cl rl und free ros l9 fr9 sd9 pl sp : Int32} {jD : Nat} {qG m_x gR pW qR nG oO pJ qO sW qQ uL vF wJ x h w r ft fk st rg rs rp sg cells ron xa : Nat -> Int32} {R9 : Int32 × (Nat -> Int32) × Int32 × Int32 × Int32 × Int32 × Int32 × Int32 × Int32 × Int32 × Int32 × Int32 × Int32 × (Nat -> Int32) × (Nat -> Int32) × Int32 × Int32 × (Nat -> Int32) × Int32 × (Nat -> Int32)} {R : Int32 × (Nat -> Int32) × Int32}
theorem day_no {x1 at1 wr : Int32} {ma : Nat -> Int32} (hm : MR bT aG ap ba gr br la he td qG) (hu : UR bT aG und free bU cells uL) (hq : ∀ (o0 o1 o2 o3 : Int32) (o4 : Nat) (o5 o6 o7 o8 o9 o10 o11 o12 o13 o14 o15 : Int32) (o16 o17 o18 o19 o20 : Nat -> Int32), P o0 o1 o2 o3 o4 o5 o6 o7 o8 o9 o10 o11 o12 o13 o14 o15 o16 o17 o18 o19 o20 -> (R9.1 = o0 /\ MR bT aG R9.2.2.2.2.2.1 R9.2.2.2.2.2.2.1 R9.2.2.2.2.2.2.2.1 R9.2.2.2.2.2.2.2.2.1 R9.2.2.2.2.2.2.2.2.2.1 R9.2.2.2.2.2.2.2.2.2.2.1 R9.2.2.2.2.2.2.2.2.2.2.2.1 o16 /\ UR bT aG R9.2.2.2.2.2.2.2.2.2.2.2.2.2.2.2.1 R9.2.2.2.2.2.2.2.2.2.2.2.2.2.2.2.2.1 o14 R9.2.2.2.2.2.2.2.2.2.2.2.2.2.2.2.2.2.1 o18) -> Q o0 o1 o2 o3 o4 o5 o6 o7 o8 o9 o10 o11 o12 o13 o14 o15 o16 o17 o18 o19 o20) (hw : 0 <= wr.toInt) {xb : Nat -> Int32} {p0 p1 p2 : Int32} (e9 : R9 = (-1 - wr, xb, p0, p1, p2, ap, ba, gr, br, la, he, td, cl, rg, rs, und, free, cells, ros, ron)) (h9 : ws_X10_day_89 P bT aG bW m_x gR pW qR nG oO pJ qO qQ x1 0 bL 0 1 jC 60 at1 wr bZ aR aE bI aW bU fJ qG sW uL vF ma) : ws_X10_day_89 Q bT aG bW m_x gR pW qR nG oO pJ qO qQ x1 0 bL 0 1 jC 60 at1 wr bZ aR aE bI aW bU fJ qG sW uL vF ma := by
  unfold ws_X10_day_89 at h9 ⊢
  refine du_X10_fine h9 ?_
  intro h9
  have k := fine_w (ne_m1 hw)
  refine And.intro (fun e => absurd k e) (fun e => ?_)
  have h9 := And.right h9 e
  subst e9
  exact hq _ _ _ _ _ _ _ _ _ _ _ _ _ _ _ _ _ _ _ _ _ h9 ⟨rfl, hm, hu⟩
theorem day_e {x1 x3 um rm le to at1 wr ia af as1 ah aa pk : Int32} {rd : Nat} {now us asd ma : Nat -> Int32} (hq : ∀ (o0 o1 o2 o3 : Int32) (o4 : Nat) (o5 o6 o7 o8 o9 o10 o11 o12 o13 o14 o15 : Int32) (o16 o17 o18 o19 o20 : Nat -> Int32), P o0 o1 o2 o3 o4 o5 o6 o7 o8 o9 o10 o11 o12 o13 o14 o15 o16 o17 o18 o19 o20 -> (R9.1 = o0 /\ MR bT aG R9.2.2.2.2.2.1 R9.2.2.2.2.2.2.1 R9.2.2.2.2.2.2.2.1 R9.2.2.2.2.2.2.2.2.1 R9.2.2.2.2.2.2.2.2.2.1 R9.2.2.2.2.2.2.2.2.2.2.1 R9.2.2.2.2.2.2.2.2.2.2.2.1 o16 /\ UR bT aG R9.2.2.2.2.2.2.2.2.2.2.2.2.2.2.2.1 R9.2.2.2.2.2.2.2.2.2.2.2.2.2.2.2.2.1 o14 R9.2.2.2.2.2.2.2.2.2.2.2.2.2.2.2.2.2.1 o18) -> Q o0 o1 o2 o3 o4 o5 o6 o7 o8 o9 o10 o11 o12 o13 o14 o15 o16 o17 o18 o19 o20) (hr : (R9.1 = x3 /\ MR bT aG R9.2.2.2.2.2.1 R9.2.2.2.2.2.2.1 R9.2.2.2.2.2.2.2.1 R9.2.2.2.2.2.2.2.2.1 R9.2.2.2.2.2.2.2.2.2.1 R9.2.2.2.2.2.2.2.2.2.2.1 R9.2.2.2.2.2.2.2.2.2.2.2.1 now /\ UR bT aG R9.2.2.2.2.2.2.2.2.2.2.2.2.2.2.2.1 R9.2.2.2.2.2.2.2.2.2.2.2.2.2.2.2.2.1 um R9.2.2.2.2.2.2.2.2.2.2.2.2.2.2.2.2.2.1 us)) (h9 : ws_X10_day_170 P bT aG bW m_x gR pW qR nG oO pJ qO qQ x1 x3 0 rm 0 rd le to at1 wr ia af as1 ah aa um pk now sW us asd ma) : ws_X10_day_170 Q bT aG bW m_x gR pW qR nG oO pJ qO qQ x1 x3 0 rm 0 rd le to at1 wr ia af as1 ah aa um pk now sW us asd ma := by
  unfold ws_X10_day_170 at h9 ⊢
  refine And.intro (fun e => ?_) (fun e => ?_)
  · have h9 := And.left h9 e
    unfold ws_X10_day_186 at h9 ⊢
    refine du_X10_tell h9 ?_
    intro h9
    refine du_X10_tell h9 ?_
    intro h9
    exact hq _ _ _ _ _ _ _ _ _ _ _ _ _ _ _ _ _ _ _ _ _ h9 hr
  · have h9 := And.right h9 e
    unfold ws_X10_day_186 at h9 ⊢
    refine du_X10_tell h9 ?_
    intro h9
    refine du_X10_tell h9 ?_
    intro h9
    exact hq _ _ _ _ _ _ _ _ _ _ _ _ _ _ _ _ _ _ _ _ _ h9 hr
theorem day_yes {x1 at1 : Int32} {ma : Nat -> Int32} (T : TR bT aG x h w r ft fk m_x gR pW qR nG oO) (hst2 : ∀ k : Nat, k < 5 -> st k = pJ k) (ht : ∀ k : Nat, k = 3 -> 0 <= Int32.toInt (pJ k) /\ Int32.toInt (pJ k) <= 9) (hm : MR bT aG ap ba gr br la he td qG) (hu : UR bT aG und free bU cells uL) (hq : ∀ (o0 o1 o2 o3 : Int32) (o4 : Nat) (o5 o6 o7 o8 o9 o10 o11 o12 o13 o14 o15 : Int32) (o16 o17 o18 o19 o20 : Nat -> Int32), P o0 o1 o2 o3 o4 o5 o6 o7 o8 o9 o10 o11 o12 o13 o14 o15 o16 o17 o18 o19 o20 -> (R9.1 = o0 /\ MR bT aG R9.2.2.2.2.2.1 R9.2.2.2.2.2.2.1 R9.2.2.2.2.2.2.2.1 R9.2.2.2.2.2.2.2.2.1 R9.2.2.2.2.2.2.2.2.2.1 R9.2.2.2.2.2.2.2.2.2.2.1 R9.2.2.2.2.2.2.2.2.2.2.2.1 o16 /\ UR bT aG R9.2.2.2.2.2.2.2.2.2.2.2.2.2.2.2.1 R9.2.2.2.2.2.2.2.2.2.2.2.2.2.2.2.2.1 o14 R9.2.2.2.2.2.2.2.2.2.2.2.2.2.2.2.2.2.1 o18) -> Q o0 o1 o2 o3 o4 o5 o6 o7 o8 o9 o10 o11 o12 o13 o14 o15 o16 o17 o18 o19 o20) (hx : 0 <= x1.toInt /\ x1.toInt <= 30) {xb : Nat -> Int32} (hA : AR x1.toInt.toNat xb ma) {R2 : Int32 × Int32 × Int32 × Int32 × Int32 × Int32 × Int32 × Int32 × Int32 × (Nat -> Int32) × (Nat -> Int32) × Int32 × Int32 × (Nat -> Int32) × Int32 × (Nat -> Int32)} (e2 : R2 = aHg x1 xb bT aG x h w r ft fk st ap ba gr br la he td cl rl rg rs rp und free cells ros ron) {p0 p1 p2 : Int32} (e9 : R9 = (R2.1, xb, p0, p1, p2, R2.2.1, R2.2.2.1, R2.2.2.2.1, R2.2.2.2.2.1, R2.2.2.2.2.2.1, R2.2.2.2.2.2.2.1, R2.2.2.2.2.2.2.2.1, R2.2.2.2.2.2.2.2.2.1, R2.2.2.2.2.2.2.2.2.2.1, R2.2.2.2.2.2.2.2.2.2.2.1, R2.2.2.2.2.2.2.2.2.2.2.2.1, R2.2.2.2.2.2.2.2.2.2.2.2.2.1, R2.2.2.2.2.2.2.2.2.2.2.2.2.2.1, R2.2.2.2.2.2.2.2.2.2.2.2.2.2.2.1, R2.2.2.2.2.2.2.2.2.2.2.2.2.2.2.2)) (h9 : ws_X10_day_89 P bT aG bW m_x gR pW qR nG oO pJ qO qQ x1 0 bL 0 1 jC 60 at1 (-1) bZ aR aE bI aW bU fJ qG sW uL vF ma) : ws_X10_day_89 Q bT aG bW m_x gR pW qR nG oO pJ qO qQ x1 0 bL 0 1 jC 60 at1 (-1) bZ aR aE bI aW bU fJ qG sW uL vF ma := by
  have l0 : Int32.toInt (0 : Int32) = 0 := by decide
  have bf := T.2.2.1
  unfold ws_X10_day_89 at h9 ⊢
  refine du_X10_fine h9 ?_
  intro h9
  refine And.intro (fun e => ?_) (fun e => absurd e fine_m)
  have h9 := And.left h9 e
  refine du_X10_lay_b2 h9 ?_
  intro h9
  obtain ⟨n, h9⟩ := h9
  refine ⟨n, ?_⟩
  rw [aHg] at e2
  have la9 := (lay2_v (p := 0) (now := qG) (u := vF) (by decide)).1
  have hma : MR bT aG ap ba gr br la he td (F_X10_lay_b2 0 qG vF) := MR_c hm bf.2 (fun j hj => by have := la9 j hj; rw [show (Int32.toInt (0 : Int32)).toNat + j = j by rw [l0]; omega] at this; exact this)
  refine dayB (R := R2) (x1 := x1) T hst2 ht hx hA ?_ n 31 0 0 ap ba gr br la he td cl rg rs _ _ _ _ _ _ _ _ _ _ _ _ e2 (by decide) (by decide) hm h9
  intro x3 rd le to at2 wr ia af as1 ah aa pk now hF h0 h9
  obtain ⟨f1, f2, f3, f4⟩ := hF
  unfold ws_X10_day_158 at h9 ⊢
  refine And.intro (fun c => ?_) (fun c => ?_)
  · have d := (aAO _ _).mp c
    refine day_e hq ?_ (And.left h9 c)
    rcases f4 with ⟨_, g1, g2⟩ | ⟨g0, _, _⟩
    · rw [e9]
      refine ⟨f1, f2, ?_⟩
      show UR bT aG R2.2.2.2.2.2.2.2.2.2.2.2.1 R2.2.2.2.2.2.2.2.2.2.2.2.2.1 bU R2.2.2.2.2.2.2.2.2.2.2.2.2.2.1 uL
      rw [g1, g2, f3]
      exact UR_note hu bf.2
    · exfalso; omega
  · have d := mt (aAO _ _).mpr c
    have h9 := And.right h9 c
    refine du_X10_remember_b2 h9 ?_
    intro h9
    refine day_e hq ?_ h9
    rcases f4 with ⟨g0, _, _⟩ | ⟨_, g1, g2⟩
    · exfalso; omega
    · rw [e9]
      refine ⟨f1, f2, ?_⟩
      show UR bT aG R2.2.2.2.2.2.2.2.2.2.2.2.1 R2.2.2.2.2.2.2.2.2.2.2.2.2.1 _ R2.2.2.2.2.2.2.2.2.2.2.2.2.2.1 _
      rw [g1, g2, f3, rem2_eq]
      exact UR_hold hu bf.2 hma
theorem day_f (T : TR bT aG x h w r ft fk m_x gR pW qR nG oO) (hst2 : ∀ k : Nat, k < 5 -> st k = pJ k) (ht : ∀ k : Nat, k = 3 -> 0 <= Int32.toInt (pJ k) /\ Int32.toInt (pJ k) <= 9) (hm : MR bT aG ap ba gr br la he td qG) (hu : UR bT aG und free bU cells uL) (hl : 0 <= jC.toInt /\ jC.toInt <= 80) (e9 : R9 = j_X9_day_27 (fun o0 o1 o2 o3 o4 o5 o6 o7 o8 o9 o10 o11 o12 o13 o14 o15 o16 o17 o18 o19 => (o0, o1, o2, o3, o4, o5, o6, o7, o8, o9, o10, o11, o12, o13, o14, o15, o16, o17, o18, o19)) sg bT aG x h w r ft fk st rl rp R.1 R.2.1 jC R.2.2 (stp jC 60) ap ba gr br la he td cl rg rs und free cells ros ron) (hq : ∀ (o0 o1 o2 o3 : Int32) (o4 : Nat) (o5 o6 o7 o8 o9 o10 o11 o12 o13 o14 o15 : Int32) (o16 o17 o18 o19 o20 : Nat -> Int32), P o0 o1 o2 o3 o4 o5 o6 o7 o8 o9 o10 o11 o12 o13 o14 o15 o16 o17 o18 o19 o20 -> (R9.1 = o0 /\ MR bT aG R9.2.2.2.2.2.1 R9.2.2.2.2.2.2.1 R9.2.2.2.2.2.2.2.1 R9.2.2.2.2.2.2.2.2.1 R9.2.2.2.2.2.2.2.2.2.1 R9.2.2.2.2.2.2.2.2.2.2.1 R9.2.2.2.2.2.2.2.2.2.2.2.1 o16 /\ UR bT aG R9.2.2.2.2.2.2.2.2.2.2.2.2.2.2.2.1 R9.2.2.2.2.2.2.2.2.2.2.2.2.2.2.2.2.1 o14 R9.2.2.2.2.2.2.2.2.2.2.2.2.2.2.2.2.2.1 o18) -> Q o0 o1 o2 o3 o4 o5 o6 o7 o8 o9 o10 o11 o12 o13 o14 o15 o16 o17 o18 o19 o20) (x1 at1 wr : Int32) (ma : Nat -> Int32) (hF : FinR R (stp jC 60) x1 at1 wr ma) (h9 : ws_X10_day_70 P bT aG bW m_x gR pW qR nG oO pJ qO qQ x1 0 bL 0 1 jC 60 at1 wr bZ aR aE bI aW bU fJ qG sW uL vF ma) : ws_X10_day_70 Q bT aG bW m_x gR pW qR nG oO pJ qO qQ x1 0 bL 0 1 jC 60 at1 wr bZ aR aE bI aW bU fJ qG sW uL vF ma := by
  have hst := stp_r jC 60
  unfold ws_X10_day_70 at h9 ⊢
  rw [j_X9_day_27] at e9
  rcases hF with ⟨f1, f2, f3, rfl, f5, f6⟩ | ⟨f1, f2, f3⟩
  · have k : ¬ R.1 = -1 := ne_m1 (by rw [f1]; omega)
    rw [if_neg k, F_X8_isThrough] at e9
    refine And.intro (fun c => ?_) (fun c => ?_)
    · have d := (aAO _ _).mp c
      have k2 : R.2.2 = jC := i32 (by rw [f3]; omega)
      rw [if_pos k2, if_neg n10, j_X9_day_48, if_neg n10, j_X9_day_68, f1] at e9
      exact day_yes T hst2 ht hm hu hq f2 f6 rfl e9 (And.left h9 c)
    · have d := mt (aAO _ _).mpr c
      have k2 : ¬ R.2.2 = jC := fun e => by rw [f3] at e; have := congrArg Int32.toInt e; omega
      rw [if_neg k2, if_pos rfl, j_X9_day_47, j_X9_day_48, if_pos rfl, j_X9_day_68, F_X8_wrong, f3] at e9
      have h9 := And.right h9 c
      refine du_X10_fault h9 ?_
      intro h9
      rw [fault_m] at h9 ⊢
      exact day_no hm hu hq f5.1 e9 h9
  · rw [if_pos f1, j_X9_day_47, j_X9_day_48, if_pos rfl, j_X9_day_68, F_X8_wrong, <- f2] at e9
    refine And.intro (fun c => ?_) (fun c => ?_)
    · exact day_no hm hu hq f3 e9 (And.left h9 c)
    · have h9 := And.right h9 c
      refine du_X10_fault h9 ?_
      intro h9
      rw [fault_w (ne_m1 f3)] at h9 ⊢
      exact day_no hm hu hq f3 e9 h9
theorem day_rel (T : TR bT aG x h w r ft fk m_x gR pW qR nG oO) (hst2 : ∀ k : Nat, k < 5 -> st k = pJ k) (ht : ∀ k : Nat, k = 3 -> 0 <= Int32.toInt (pJ k) /\ Int32.toInt (pJ k) <= 9) (hm : MR bT aG ap ba gr br la he td qG) (hu : UR bT aG und free bU cells uL) (hs : ∀ k : Nat, sg k = qO k &&& 255) (hl : 0 <= jC.toInt /\ jC.toInt <= 80) (e9 : R9 = (aM7 xa jC pl sp sg bT aG x h w r ft fk st ap ba gr br la he td cl rl rg rs rp und free cells ros ron)) (hq : ∀ (o0 o1 o2 o3 : Int32) (o4 : Nat) (o5 o6 o7 o8 o9 o10 o11 o12 o13 o14 o15 : Int32) (o16 o17 o18 o19 o20 : Nat -> Int32), P o0 o1 o2 o3 o4 o5 o6 o7 o8 o9 o10 o11 o12 o13 o14 o15 o16 o17 o18 o19 o20 -> (R9.1 = o0 /\ MR bT aG R9.2.2.2.2.2.1 R9.2.2.2.2.2.2.1 R9.2.2.2.2.2.2.2.1 R9.2.2.2.2.2.2.2.2.1 R9.2.2.2.2.2.2.2.2.2.1 R9.2.2.2.2.2.2.2.2.2.2.1 R9.2.2.2.2.2.2.2.2.2.2.2.1 o16 /\ UR bT aG R9.2.2.2.2.2.2.2.2.2.2.2.2.2.2.2.1 R9.2.2.2.2.2.2.2.2.2.2.2.2.2.2.2.2.1 o14 R9.2.2.2.2.2.2.2.2.2.2.2.2.2.2.2.2.2.1 o18) -> Q o0 o1 o2 o3 o4 o5 o6 o7 o8 o9 o10 o11 o12 o13 o14 o15 o16 o17 o18 o19 o20) (h9 : wp_X10_day P bT aG jC bL bY jD mLn oF rP dQ bW bZ aR aE bI aW bU fJ qG m_x gR pW qR nG oO pJ qO sW qQ uL vF wJ) : wp_X10_day Q bT aG jC bL bY jD mLn oF rP dQ bW bZ aR aE bI aW bU fJ qG m_x gR pW qR nG oO pJ qO sW qQ uL vF wJ := by
  have l0 : Int32.toInt (0 : Int32) = 0 := by decide
  have hst := stp_r jC 60
  have l60 : Int32.toInt (60 : Int32) = 60 := by decide
  unfold wp_X10_day at h9 ⊢
  refine du_X10_begin h9 ?_
  intro h9
  rw [aM7, show aJ0 60 jC pl sp = (0, stp jC 60) from rfl] at e9
  refine And.intro (fun c1 => ?_) (fun c1 => ?_)
  · have h9 := And.left h9 c1
    have c1 : jC <= 0 := c1
    have d := (aAO _ _).mp c1
    have e0 : jC = 0 := i32 (by omega)
    rw [if_pos e0] at e9
    unfold ws_X10_day_38 at h9 ⊢
    obtain ⟨n, h9⟩ := h9
    refine ⟨n, ?_⟩
    exact dayA (R := (0, xa, 0)) hs hl.2 (by decide) (day_f T hst2 ht hm hu hl e9 hq) n 0 0 0 (-1) wJ (Or.inr ⟨rfl, Or.inl ⟨rfl, by decide, rfl, rfl, ⟨by decide, by omega⟩, ar0⟩⟩) h9
  · have h9 := And.right h9 c1
    have c1 : ¬ jC <= 0 := c1
    have e0 : ¬ jC = 0 := fun e => c1 (by rw [e]; decide)
    rw [if_neg e0] at e9
    unfold ws_X10_day_38 at h9 ⊢
    obtain ⟨n, h9⟩ := h9
    refine ⟨n, ?_⟩
    exact dayA (R := F_X9_readActs xa 0 (stp jC 60) sg) hs hl.2 (by decide) (day_f T hst2 ht hm hu hl e9 hq) n 0 1 0 (-1) wJ (Or.inl ⟨n10, rfl, 31, xa, rfl, by decide, by decide, by decide, by decide, by omega, ar0⟩) h9
end DAY
/-- what day() leaves behind -/
theorem day_w {Q : Int32 -> Int32 -> Int32 -> Int32 -> Nat -> Int32 -> Int32 -> Int32 -> Int32 -> Int32 -> Int32 -> Int32 -> Int32 -> Int32 -> Int32 -> Int32 -> (Nat -> Int32) -> (Nat -> Int32) -> (Nat -> Int32) -> (Nat -> Int32) -> (Nat -> Int32) -> Prop} {bT aG jC bL bY mLn oF rP dQ bW bZ aR aE bI aW bU fJ ap ba gr br la he td cl rl und free ros l9 fr9 sd9 pl sp : Int32} {jD : Nat} {qG m_x gR pW qR nG oO pJ qO sW qQ uL vF wJ x h w r ft fk st rg rs rp sg cells ron xa : Nat -> Int32} (T : TR bT aG x h w r ft fk m_x gR pW qR nG oO) (hst2 : ∀ k : Nat, k < 5 -> st k = pJ k) (ht : ∀ k : Nat, k = 3 -> 0 <= Int32.toInt (pJ k) /\ Int32.toInt (pJ k) <= 9) (eT : l9.toInt = jC.toInt) (eF : fr9 = bT) (eN : sd9 = aG) (hs : ∀ k : Nat, sg k = qO k &&& 255) (hl : 0 <= jC.toInt /\ jC.toInt <= 80) (hm : MR bT aG ap ba gr br la he td qG) (hu : UR bT aG und free bU cells uL)
    (h9 : wp_X10_day (fun o0 o1 o2 o3 o4 o5 o6 o7 o8 o9 o10 o11 o12 o13 o14 o15 o16 o17 o18 o19 o20 => ((aM7 xa l9 pl sp sg fr9 sd9 x h w r ft fk st ap ba gr br la he td cl rl rg rs rp und free cells ros ron).1 = o0 /\ MR bT aG (aM7 xa l9 pl sp sg fr9 sd9 x h w r ft fk st ap ba gr br la he td cl rl rg rs rp und free cells ros ron).2.2.2.2.2.1 (aM7 xa l9 pl sp sg fr9 sd9 x h w r ft fk st ap ba gr br la he td cl rl rg rs rp und free cells ros ron).2.2.2.2.2.2.1 (aM7 xa l9 pl sp sg fr9 sd9 x h w r ft fk st ap ba gr br la he td cl rl rg rs rp und free cells ros ron).2.2.2.2.2.2.2.1 (aM7 xa l9 pl sp sg fr9 sd9 x h w r ft fk st ap ba gr br la he td cl rl rg rs rp und free cells ros ron).2.2.2.2.2.2.2.2.1 (aM7 xa l9 pl sp sg fr9 sd9 x h w r ft fk st ap ba gr br la he td cl rl rg rs rp und free cells ros ron).2.2.2.2.2.2.2.2.2.1 (aM7 xa l9 pl sp sg fr9 sd9 x h w r ft fk st ap ba gr br la he td cl rl rg rs rp und free cells ros ron).2.2.2.2.2.2.2.2.2.2.1 (aM7 xa l9 pl sp sg fr9 sd9 x h w r ft fk st ap ba gr br la he td cl rl rg rs rp und free cells ros ron).2.2.2.2.2.2.2.2.2.2.2.1 o16 /\ UR bT aG (aM7 xa l9 pl sp sg fr9 sd9 x h w r ft fk st ap ba gr br la he td cl rl rg rs rp und free cells ros ron).2.2.2.2.2.2.2.2.2.2.2.2.2.2.2.1 (aM7 xa l9 pl sp sg fr9 sd9 x h w r ft fk st ap ba gr br la he td cl rl rg rs rp und free cells ros ron).2.2.2.2.2.2.2.2.2.2.2.2.2.2.2.2.1 o14 (aM7 xa l9 pl sp sg fr9 sd9 x h w r ft fk st ap ba gr br la he td cl rl rg rs rp und free cells ros ron).2.2.2.2.2.2.2.2.2.2.2.2.2.2.2.2.2.1 o18) -> Q o0 o1 o2 o3 o4 o5 o6 o7 o8 o9 o10 o11 o12 o13 o14 o15 o16 o17 o18 o19 o20) bT aG jC bL bY jD mLn oF rP dQ bW bZ aR aE bI aW bU fJ qG m_x gR pW qR nG oO pJ qO sW qQ uL vF wJ) : wp_X10_day Q bT aG jC bL bY jD mLn oF rP dQ bW bZ aR aE bI aW bU fJ qG m_x gR pW qR nG oO pJ qO sW qQ uL vF wJ := by
  obtain rfl : l9 = jC := i32 eT
  subst eF eN
  refine day_rel (xa := xa) (ron := ron) (rp := rp) (rs := rs) (rg := rg) (sp := sp) (pl := pl) (ros := ros) (rl := rl) (cl := cl) T hst2 ht hm hu hs hl rfl ?_ h9
  intro o0 o1 o2 o3 o4 o5 o6 o7 o8 o9 o10 o11 o12 o13 o14 o15 o16 o17 o18 o19 o20 hp hr
  exact hp hr
