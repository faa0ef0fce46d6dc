theorem di_step {R : Int32 × (Nat → Int32) × Int32} {l t x1 at1 : Int32} {sg tx ru ma xa : Nat → Int32} {f : Nat} (hs : ∀ k : Nat, sg k = tx k &&& 255) (hl : l.toInt ≤ 80) (ht : t.toInt ≤ 60) (eR : R = flp (fs_X9_readActs_2 (fun o0 o1 o2 => (o0, o1, o2)) (stp l t) sg) (fun _ _ _ => (0, (fun _ => 0), 0)) f x1 xa at1) (hf : f + x1.toInt.toNat = 31) (h0 : 0 ≤ x1.toInt) (h30 : x1.toInt ≤ 30) (h2 : 2 * x1.toInt ≤ at1.toInt) (h3 : at1.toInt ≤ (stp l t).toInt) (hA : AR x1.toInt.toNat xa ma) :
    DI R l t (x1 + 1) (aH1 59 1 l t (aMq (2 * x1) 1 l t at1 (-1) tx ru ma).1 (aMq (2 * x1) 1 l t at1 (-1) tx ru ma).2.1 tx ru).1 (aH1 59 1 l t (aMq (2 * x1) 1 l t at1 (-1) tx ru ma).1 (aMq (2 * x1) 1 l t at1 (-1) tx ru ma).2.1 tx ru).2 (aMq (2 * x1) 1 l t at1 (-1) tx ru ma).2.1 sg (aMq (2 * x1) 1 l t at1 (-1) tx ru ma).2.2 := by
  have l1 : Int32.toInt (1 : Int32) = 1 := by decide
  have l2 : Int32.toInt (2 : Int32) = 2 := by decide
  have l30 : Int32.toInt (30 : Int32) = 30 := by decide
  have hst := stp_r l t
  have e2 := ta_cmul 2 x1 l2 (by omega)
  have ex := cl_n x1
  have ax := aAD x1 1 (by omega)
  have en : (2 * x1).toInt.toNat = 2 * x1.toInt.toNat := by omega
  obtain ⟨g, rfl⟩ : ∃ g, f = g + 1 := ⟨f - 1, by omega⟩
  rw [flp_s, fs_X9_readActs_2] at eR
  have hr := ra_rel (t := t) (a := at1) (p0 := 2 * x1) (ru := ru) (ma := ma) hs hl (by omega) (by omega)
  unfold RA at hr
  rw [en] at hr
  obtain ⟨M, hM⟩ : ∃ m, m = aMq (2 * x1) 1 l t at1 (-1) tx ru ma := ⟨_, rfl⟩
  rw [← hM] at hr ⊢
  by_cases c30 : (30 : Int32) ≤ x1
  · have d30 := (aAO _ _).mp c30
    rw [if_pos c30] at eR
    rcases hr with ⟨c, v, w, q, e1, hw, hac, m1, m2, m3, m4, g1, g2⟩ | ⟨q, e1, m2, g1, g2⟩
    · exfalso; omega
    · have eq : q = at1 := by
        rcases g2 with g2 | g2
        · exact g2
        · exfalso; omega
      have wn : ¬ M.2.1 = -1 := by rw [m2]; exact ne_m1 g1
      rw [pas_w wn]
      refine Or.inr ⟨rfl, Or.inr ⟨?_, ?_, ?_⟩⟩
      · rw [eR]
      · rw [eR, m2, eq]
      · rw [m2]; exact g1
  · have d30 := mt (aAO _ _).mpr c30
    rw [if_neg c30] at eR
    rcases hr with ⟨c, v, w, q, e1, hw, hac, m1, m2, m3, m4, g1, g2⟩ | ⟨q, e1, m2, g1, g2⟩
    · have r9 := DAC_r hac
      have wn : ¬ (w, q).1 = -1 := ne_m1 (show 0 ≤ w.toInt by omega)
      have hA2 : AR (x1 + 1).toInt.toNat (upd xa x1.toNatClampNeg w) M.2.2 := by
        intro k hk
        by_cases kk : k = x1.toInt.toNat
        · subst kk
          exact ⟨c, v, hac, by rw [ex, upd_i]; exact hw, m3⟩
        · obtain ⟨c', v', a1, a2, a3⟩ := hA k (by omega)
          refine ⟨c', v', ?_, ?_, ?_⟩
          · rw [m4 _ (by omega)]; exact a1
          · rw [ex, aGi _ _ kk]; exact a2
          · rw [m4 _ (by omega)]; exact a3
      rw [e1, if_neg wn] at eR
      rw [m1, m2, pas_eq hs]
      by_cases c59 : aE7 q (stp l t) sg = 59
      · have b2 := hr_c c59 (by decide)
        have b3 := p1_r (p := q) (st := (stp l t)) (by omega) (by omega) b2
        rw [tk_y c59]
        rw [show aGm 59 (w, q).2 (stp l t) sg = (1, q + 1) from tk_y c59, if_neg (n10 : ¬ ((1 : Int32), q + 1).1 = 0)] at eR
        exact Or.inl ⟨n10, rfl, g, _, eR, by omega, by omega, by omega, by show _ ≤ (q + 1).toInt; omega, by show (q + 1).toInt ≤ _; omega, hA2⟩
      · rw [tk_n c59]
        rw [show aGm 59 (w, q).2 (stp l t) sg = (0, q) from tk_n c59, if_pos (rfl : ((0 : Int32), q).1 = 0)] at eR
        refine Or.inr ⟨rfl, Or.inl ⟨by rw [eR], by omega, by rw [eR], rfl, by show 0 ≤ q.toInt ∧ q.toInt ≤ _; omega, ?_⟩⟩
        rw [eR]; exact hA2
    · have wn : ¬ M.2.1 = -1 := by rw [m2]; exact ne_m1 g1
      rw [e1, if_pos (rfl : ((-1 : Int32), q).1 = -1)] at eR
      rw [pas_w wn]
      refine Or.inr ⟨rfl, Or.inr ⟨?_, ?_, ?_⟩⟩
      · rw [eR]
      · rw [eR, m2]
      · rw [m2]; exact g1
