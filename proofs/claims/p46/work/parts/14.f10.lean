noncomputable def F_X10_next (p0 bT aG bL bY dO : Int32) (qG m_x gR pW qR nG oO pJ sW sH : Nat -> Int32) : Int32 × Int32 × Int32 × Int32 × (Nat -> Int32) × (Nat -> Int32) := if (aUe p0 0 (F_X10_allStandings aG)) = 0 then ((-1), bL, 0, dO, sW, sH) else (ex_X10_next_28 (fun o0 o1 o2 o3 o4 o5 => (o0, o1, o2, o3, o4, o5)) bT aG qG m_x gR pW qR nG oO pJ p0 bL 0 ((bBY bT aG dO qG m_x gR qR nG oO pJ sH).1) sW ((bBY bT aG dO qG m_x gR qR nG oO pJ sH).2) (nI (0 + (Int32.toInt aG - ((0 : Nat) : Int)).toNat)) (itr (bd_X10_next_28 bT aG qG m_x gR pW qR nG oO pJ p0 bL 0 ((bBY bT aG dO qG m_x gR qR nG oO pJ sH).1) sW ((bBY bT aG dO qG m_x gR qR nG oO pJ sH).2)) (-2) 0 (Int32.toInt aG - ((0 : Nat) : Int)).toNat))
set_option maxHeartbeats 200000 in
set_option maxRecDepth 10000 in
theorem dt_X10_next {P Q : Int32 -> Int32 -> Int32 -> Int32 -> (Nat -> Int32) -> (Nat -> Int32) -> Prop} {p0 bT aG bL bY dO : Int32} {qG m_x gR pW qR nG oO pJ sW sH : Nat -> Int32} (h : wp_X10_next P p0 bT aG bL bY dO qG m_x gR pW qR nG oO pJ sW sH) (hq : ∀ o : Int32 × Int32 × Int32 × Int32 × (Nat -> Int32) × (Nat -> Int32), o = F_X10_next p0 bT aG bL bY dO qG m_x gR pW qR nG oO pJ sW sH -> P o.1 o.2.1 o.2.2.1 o.2.2.2.1 o.2.2.2.2.1 o.2.2.2.2.2 -> Q o.1 o.2.1 o.2.2.1 o.2.2.2.1 o.2.2.2.2.1 o.2.2.2.2.2) : wp_X10_next Q p0 bT aG bL bY dO qG m_x gR pW qR nG oO pJ sW sH := by
  rw [F_X10_next] at hq
  refine du_X10_allStandings h ?_
  intro h
  refine du_X10_in h ?_
  intro h
  refine And.intro (fun c1 => ?_) (fun c1 => ?_)
  · have h := And.left h c1
    rw [if_neg c1] at hq
    refine du_X10_layHands h ?_
    intro h
    obtain ⟨n2, h⟩ := h
    refine ⟨n2, dl_X10_next_28 (a := (-2)) (i := 0) (by decide) ?_ n2 0 0 (by decide) (Nat.zero_le _) h⟩
    intro cc3 s4 ec5 es6 h
    rw [<- ec5, <- es6, ex_X10_next_28] at hq
    refine And.intro (fun c7 => ?_) (fun c7 => ?_)
    · have h := And.left h c7
      rw [if_pos c7] at hq
      refine ae ?_
      have h := h _ rfl
      refine du_X10_leftBy h ?_
      intro h
      refine du_X10_tell h ?_
      intro h
      refine du_X10_leftBy h ?_
      intro h
      refine du_X10_tell h ?_
      intro h
      have q9 := hq _ rfl
      dsimp only at q9
      exact q9 h
    · have h := And.right h c7
      rw [if_neg c7] at hq
      have q9 := hq _ rfl
      dsimp only at q9
      exact q9 h
  · have h := And.right h c1
    rw [if_pos c1] at hq
    have q9 := hq _ rfl
    dsimp only at q9
    exact q9 h
theorem du_X10_next {P Q : Int32 -> Int32 -> Int32 -> Int32 -> (Nat -> Int32) -> (Nat -> Int32) -> Prop} {p0 bT aG bL bY dO : Int32} {qG m_x gR pW qR nG oO pJ sW sH : Nat -> Int32} (h : wp_X10_next P p0 bT aG bL bY dO qG m_x gR pW qR nG oO pJ sW sH) (hq : P (F_X10_next p0 bT aG bL bY dO qG m_x gR pW qR nG oO pJ sW sH).1 (F_X10_next p0 bT aG bL bY dO qG m_x gR pW qR nG oO pJ sW sH).2.1 (F_X10_next p0 bT aG bL bY dO qG m_x gR pW qR nG oO pJ sW sH).2.2.1 (F_X10_next p0 bT aG bL bY dO qG m_x gR pW qR nG oO pJ sW sH).2.2.2.1 (F_X10_next p0 bT aG bL bY dO qG m_x gR pW qR nG oO pJ sW sH).2.2.2.2.1 (F_X10_next p0 bT aG bL bY dO qG m_x gR pW qR nG oO pJ sW sH).2.2.2.2.2 -> Q (F_X10_next p0 bT aG bL bY dO qG m_x gR pW qR nG oO pJ sW sH).1 (F_X10_next p0 bT aG bL bY dO qG m_x gR pW qR nG oO pJ sW sH).2.1 (F_X10_next p0 bT aG bL bY dO qG m_x gR pW qR nG oO pJ sW sH).2.2.1 (F_X10_next p0 bT aG bL bY dO qG m_x gR pW qR nG oO pJ sW sH).2.2.2.1 (F_X10_next p0 bT aG bL bY dO qG m_x gR pW qR nG oO pJ sW sH).2.2.2.2.1 (F_X10_next p0 bT aG bL bY dO qG m_x gR pW qR nG oO pJ sW sH).2.2.2.2.2) : wp_X10_next Q p0 bT aG bL bY dO qG m_x gR pW qR nG oO pJ sW sH := dt_X10_next h (fun o eo => by rw [eo]; exact hq)
theorem dw_X10_next {Q : Int32 -> Int32 -> Int32 -> Int32 -> (Nat -> Int32) -> (Nat -> Int32) -> Prop} {p0 bT aG bL bY dO : Int32} {qG m_x gR pW qR nG oO pJ sW sH : Nat -> Int32} (h : wp_X10_next (fun o0 o1 o2 o3 o4 o5 => (o0, o1, o2, o3, o4, o5) = F_X10_next p0 bT aG bL bY dO qG m_x gR pW qR nG oO pJ sW sH -> Q o0 o1 o2 o3 o4 o5) p0 bT aG bL bY dO qG m_x gR pW qR nG oO pJ sW sH) : wp_X10_next Q p0 bT aG bL bY dO qG m_x gR pW qR nG oO pJ sW sH := dt_X10_next h (fun o eo hp => hp eo)
noncomputable def F_X10_helps (bT aG bL bY dO : Int32) (qG m_x gR qR nG oO pJ sW sH : Nat -> Int32) : Int32 × Int32 × Int32 × Int32 × (Nat -> Int32) × (Nat -> Int32) := (((aLS (F_X10_cover (F_X10_layHands_ 0 bT aG dO qG m_x gR qR nG oO pJ sH).1 aG (F_X10_layHands_ 0 bT aG dO qG m_x gR qR nG oO pJ sH).2)) - (aLS (F_X10_cover (F_X10_layHands_ 1 bT aG (F_X10_layHands_ 0 bT aG dO qG m_x gR qR nG oO pJ sH).1 qG m_x gR qR nG oO pJ (F_X10_layHands_ 0 bT aG dO qG m_x gR qR nG oO pJ sH).2).1 aG (F_X10_layHands_ 1 bT aG (F_X10_layHands_ 0 bT aG dO qG m_x gR qR nG oO pJ sH).1 qG m_x gR qR nG oO pJ (F_X10_layHands_ 0 bT aG dO qG m_x gR qR nG oO pJ sH).2).2))), (bBW (aLS (F_X10_layHands_ 1 bT aG (F_X10_layHands_ 0 bT aG dO qG m_x gR qR nG oO pJ sH).1 qG m_x gR qR nG oO pJ (F_X10_layHands_ 0 bT aG dO qG m_x gR qR nG oO pJ sH).2).1) (bBW (aLS (F_X10_layHands_ 0 bT aG dO qG m_x gR qR nG oO pJ sH).1) 0 sW).1 (bBW (aLS (F_X10_layHands_ 0 bT aG dO qG m_x gR qR nG oO pJ sH).1) 0 sW).2).1, 0, (F_X10_layHands_ 1 bT aG (F_X10_layHands_ 0 bT aG dO qG m_x gR qR nG oO pJ sH).1 qG m_x gR qR nG oO pJ (F_X10_layHands_ 0 bT aG dO qG m_x gR qR nG oO pJ sH).2).1, (bBW (aLS (F_X10_layHands_ 1 bT aG (F_X10_layHands_ 0 bT aG dO qG m_x gR qR nG oO pJ sH).1 qG m_x gR qR nG oO pJ (F_X10_layHands_ 0 bT aG dO qG m_x gR qR nG oO pJ sH).2).1) (bBW (aLS (F_X10_layHands_ 0 bT aG dO qG m_x gR qR nG oO pJ sH).1) 0 sW).1 (bBW (aLS (F_X10_layHands_ 0 bT aG dO qG m_x gR qR nG oO pJ sH).1) 0 sW).2).2, (F_X10_layHands_ 1 bT aG (F_X10_layHands_ 0 bT aG dO qG m_x gR qR nG oO pJ sH).1 qG m_x gR qR nG oO pJ (F_X10_layHands_ 0 bT aG dO qG m_x gR qR nG oO pJ sH).2).2)
set_option maxHeartbeats 200000 in
set_option maxRecDepth 10000 in
theorem dt_X10_helps {P Q : Int32 -> Int32 -> Int32 -> Int32 -> (Nat -> Int32) -> (Nat -> Int32) -> Prop} {bT aG bL bY dO : Int32} {qG m_x gR qR nG oO pJ sW sH : Nat -> Int32} (hy0 : Int32.toInt (F_X10_allStandings aG) < 2147483647) (h : wp_X10_helps P bT aG bL bY dO qG m_x gR qR nG oO pJ sW sH) (hq : ∀ o : Int32 × Int32 × Int32 × Int32 × (Nat -> Int32) × (Nat -> Int32), o = F_X10_helps bT aG bL bY dO qG m_x gR qR nG oO pJ sW sH -> P o.1 o.2.1 o.2.2.1 o.2.2.2.1 o.2.2.2.2.1 o.2.2.2.2.2 -> Q o.1 o.2.1 o.2.2.1 o.2.2.2.1 o.2.2.2.2.1 o.2.2.2.2.2) : wp_X10_helps Q bT aG bL bY dO qG m_x gR qR nG oO pJ sW sH := by
  rw [F_X10_helps] at hq
  refine du_X10_layHands_ h ?_
  intro h
  refine du_X10_cover hy0 h ?_
  intro h
  refine du_J6_bitCount_0f7a4 h ?_
  intro h
  refine du_J6_bitCount_0f7a4 h ?_
  intro h
  refine du_X10_layHands_ h ?_
  intro h
  refine du_X10_cover hy0 h ?_
  intro h
  refine du_J6_bitCount_0f7a4 h ?_
  intro h
  refine du_X10_tell h ?_
  intro h
  refine du_J6_bitCount_0f7a4 h ?_
  intro h
  refine du_X10_tell h ?_
  intro h
  have q9 := hq _ rfl
  dsimp only at q9
  exact q9 h
theorem du_X10_helps {P Q : Int32 -> Int32 -> Int32 -> Int32 -> (Nat -> Int32) -> (Nat -> Int32) -> Prop} {bT aG bL bY dO : Int32} {qG m_x gR qR nG oO pJ sW sH : Nat -> Int32} (hy0 : Int32.toInt (F_X10_allStandings aG) < 2147483647) (h : wp_X10_helps P bT aG bL bY dO qG m_x gR qR nG oO pJ sW sH) (hq : P (F_X10_helps bT aG bL bY dO qG m_x gR qR nG oO pJ sW sH).1 (F_X10_helps bT aG bL bY dO qG m_x gR qR nG oO pJ sW sH).2.1 (F_X10_helps bT aG bL bY dO qG m_x gR qR nG oO pJ sW sH).2.2.1 (F_X10_helps bT aG bL bY dO qG m_x gR qR nG oO pJ sW sH).2.2.2.1 (F_X10_helps bT aG bL bY dO qG m_x gR qR nG oO pJ sW sH).2.2.2.2.1 (F_X10_helps bT aG bL bY dO qG m_x gR qR nG oO pJ sW sH).2.2.2.2.2 -> Q (F_X10_helps bT aG bL bY dO qG m_x gR qR nG oO pJ sW sH).1 (F_X10_helps bT aG bL bY dO qG m_x gR qR nG oO pJ sW sH).2.1 (F_X10_helps bT aG bL bY dO qG m_x gR qR nG oO pJ sW sH).2.2.1 (F_X10_helps bT aG bL bY dO qG m_x gR qR nG oO pJ sW sH).2.2.2.1 (F_X10_helps bT aG bL bY dO qG m_x gR qR nG oO pJ sW sH).2.2.2.2.1 (F_X10_helps bT aG bL bY dO qG m_x gR qR nG oO pJ sW sH).2.2.2.2.2) : wp_X10_helps Q bT aG bL bY dO qG m_x gR qR nG oO pJ sW sH := dt_X10_helps hy0 h (fun o eo => by rw [eo]; exact hq)
theorem dw_X10_helps {Q : Int32 -> Int32 -> Int32 -> Int32 -> (Nat -> Int32) -> (Nat -> Int32) -> Prop} {bT aG bL bY dO : Int32} {qG m_x gR qR nG oO pJ sW sH : Nat -> Int32} (hy0 : Int32.toInt (F_X10_allStandings aG) < 2147483647) (h : wp_X10_helps (fun o0 o1 o2 o3 o4 o5 => (o0, o1, o2, o3, o4, o5) = F_X10_helps bT aG bL bY dO qG m_x gR qR nG oO pJ sW sH -> Q o0 o1 o2 o3 o4 o5) bT aG bL bY dO qG m_x gR qR nG oO pJ sW sH) : wp_X10_helps Q bT aG bL bY dO qG m_x gR qR nG oO pJ sW sH := dt_X10_helps hy0 h (fun o eo hp => hp eo)
noncomputable def F_X10_hereWanted (bT : Int32) (qG m_x gR qR nG oO pJ : Nat -> Int32) : Int32 := (((aUf 0 bT qG) &&& (F_X10_ripeOnes (qG (19 : Int32).toNatClampNeg) bT qR)) &&& (F_X10_byHand (qG (17 : Int32).toNatClampNeg) bT qG m_x gR nG oO pJ))
set_option maxHeartbeats 200000 in
set_option maxRecDepth 10000 in
theorem dt_X10_hereWanted {P Q : Int32 -> Prop} {bT : Int32} {qG m_x gR qR nG oO pJ : Nat -> Int32} (h : bBQ P bT qG m_x gR qR nG oO pJ) (hq : ∀ o : Int32, o = F_X10_hereWanted bT qG m_x gR qR nG oO pJ -> P o -> Q o) : bBQ Q bT qG m_x gR qR nG oO pJ := by
  rw [F_X10_hereWanted] at hq
  refine du_X10_which h ?_
  intro h
  refine ae ?_
  have h := h _ rfl
  refine du_X10_ripeOnes h ?_
  intro h
  refine ae ?_
  have h := h _ rfl
  refine ae ?_
  have h := h _ rfl
  refine du_X10_byHand h ?_
  intro h
  have q9 := hq _ rfl
  exact q9 h
theorem du_X10_hereWanted {P Q : Int32 -> Prop} {bT : Int32} {qG m_x gR qR nG oO pJ : Nat -> Int32} (h : bBQ P bT qG m_x gR qR nG oO pJ) (hq : P (F_X10_hereWanted bT qG m_x gR qR nG oO pJ) -> Q (F_X10_hereWanted bT qG m_x gR qR nG oO pJ)) : bBQ Q bT qG m_x gR qR nG oO pJ := dt_X10_hereWanted h (fun o eo => by rw [eo]; exact hq)
theorem dw_X10_hereWanted {Q : Int32 -> Prop} {bT : Int32} {qG m_x gR qR nG oO pJ : Nat -> Int32} (h : bBQ (fun o0 => o0 = F_X10_hereWanted bT qG m_x gR qR nG oO pJ -> Q o0) bT qG m_x gR qR nG oO pJ) : bBQ Q bT qG m_x gR qR nG oO pJ := dt_X10_hereWanted h (fun o eo hp => hp eo)
noncomputable def F_X10_allFruits (bT : Int32) : Int32 := ((1 <<< (bT &&& 31)) - 1)
set_option maxHeartbeats 200000 in
set_option maxRecDepth 10000 in
theorem dt_X10_allFruits {P Q : Int32 -> Prop} {bT : Int32} (h : wp_X10_allFruits P bT) (hq : ∀ o : Int32, o = F_X10_allFruits bT -> P o -> Q o) : wp_X10_allFruits Q bT := by
  rw [F_X10_allFruits] at hq
  refine ae ?_
  have h := h _ rfl
  have q9 := hq _ rfl
  exact q9 h
theorem du_X10_allFruits {P Q : Int32 -> Prop} {bT : Int32} (h : wp_X10_allFruits P bT) (hq : P (F_X10_allFruits bT) -> Q (F_X10_allFruits bT)) : wp_X10_allFruits Q bT := dt_X10_allFruits h (fun o eo => by rw [eo]; exact hq)
theorem dw_X10_allFruits {Q : Int32 -> Prop} {bT : Int32} (h : wp_X10_allFruits (fun o0 => o0 = F_X10_allFruits bT -> Q o0) bT) : wp_X10_allFruits Q bT := dt_X10_allFruits h (fun o eo hp => hp eo)
noncomputable def j_X10_fits_54 {R : Type} (k27 : Int32 -> Int32 -> Int32 -> Int32 -> Int32 -> Int32 -> (Nat -> Int32) -> (Nat -> Int32) -> R) (bT aG : Int32) (qG m_x gR qR nG oO pJ : Nat -> Int32) (x1 x3 k0 k1 bL bY dO : Int32) (sW sH : Nat -> Int32) : R := k27 x1 (k0 ||| k1) (x3 + 1) bL bY dO sW sH
noncomputable def bd_X10_fits_27 (bT aG : Int32) (qG m_x gR qR nG oO pJ : Nat -> Int32) (x1 bL bY dO : Int32) (sW sH : Nat -> Int32) (c s : Int32) : Int32 := if ((sH c.toNatClampNeg) &&& x1) = 0 then (j_X10_fits_54 (fun q0 q1 q2 q3 q4 q5 q6 q7 => q1) bT aG qG m_x gR qR nG oO pJ x1 c s 0 bL bY dO sW sH) else (j_X10_fits_54 (fun q0 q1 q2 q3 q4 q5 q6 q7 => q1) bT aG qG m_x gR qR nG oO pJ x1 c s (1 <<< (c &&& 31)) bL bY dO sW sH)
noncomputable def j_X10_fits_156 {R : Type} (k73 : Int32 -> Int32 -> Int32 -> Int32 -> Int32 -> Int32 -> Int32 -> Int32 -> Int32 -> (Nat -> Int32) -> (Nat -> Int32) -> R) (bT aG : Int32) (qG m_x gR qR nG oO pJ : Nat -> Int32) (x1 x2 x3 x4 x5 x6 bL bY dO : Int32) (sW sH : Nat -> Int32) : R := k73 x1 x2 x3 x4 x5 (x6 + 1) bL bY dO sW sH
noncomputable def j_X10_fits_152 {R : Type} (k73 : Int32 -> Int32 -> Int32 -> Int32 -> Int32 -> Int32 -> Int32 -> Int32 -> Int32 -> (Nat -> Int32) -> (Nat -> Int32) -> R) (bT aG : Int32) (qG m_x gR qR nG oO pJ : Nat -> Int32) (x1 x2 x3 x4 x6 bL bY dO : Int32) (sW sH : Nat -> Int32) : R := j_X10_fits_156 k73 bT aG qG m_x gR qR nG oO pJ x1 x2 x3 x4 x6 x6 bL bY dO sW sH
noncomputable def j_X10_fits_133 {R : Type} (k73 : Int32 -> Int32 -> Int32 -> Int32 -> Int32 -> Int32 -> Int32 -> Int32 -> Int32 -> (Nat -> Int32) -> (Nat -> Int32) -> R) (bT aG : Int32) (qG m_x gR qR nG oO pJ : Nat -> Int32) (x1 x2 x3 x4 x5 x6 bL bY dO : Int32) (sW sH : Nat -> Int32) : R := if x5 = (-1) then (j_X10_fits_152 k73 bT aG qG m_x gR qR nG oO pJ x1 x2 x3 x4 x6 bL bY dO sW sH) else (if (aLS x6) <= (aLS x5) then (j_X10_fits_156 k73 bT aG qG m_x gR qR nG oO pJ x1 x2 x3 x4 x5 x6 bL bY dO sW sH) else (j_X10_fits_152 k73 bT aG qG m_x gR qR nG oO pJ x1 x2 x3 x4 x6 bL bY dO sW sH))
noncomputable def j_X10_fits_129 {R : Type} (k73 : Int32 -> Int32 -> Int32 -> Int32 -> Int32 -> Int32 -> Int32 -> Int32 -> Int32 -> (Nat -> Int32) -> (Nat -> Int32) -> R) (bT aG : Int32) (qG m_x gR qR nG oO pJ : Nat -> Int32) (x1 x2 x3 x5 x6 bL bY dO : Int32) (sW sH : Nat -> Int32) : R := j_X10_fits_133 k73 bT aG qG m_x gR qR nG oO pJ x1 x2 x3 x6 x5 x6 bL bY dO sW sH
noncomputable def bd_X10_fits_73 (bT aG : Int32) (qG m_x gR qR nG oO pJ : Nat -> Int32) (x1 x2 bL bY dO : Int32) (sW sH : Nat -> Int32) (c : Int32) (s : Int32 × Int32 × Int32) : Int32 × Int32 × Int32 := if (c &&& (x2 ^^^ (-1))) = 0 then (if (x1 &&& ((F_X10_handOf c aG sH) ^^^ (-1))) = 0 then (if s.2.1 = (-1) then (j_X10_fits_129 (fun q0 q1 q2 q3 q4 q5 q6 q7 q8 q9 q10 => (q2, q3, q4)) bT aG qG m_x gR qR nG oO pJ x1 x2 (s.1 + 1) s.2.2 c bL bY dO sW sH) else (if (aLS s.2.1) <= (aLS c) then (j_X10_fits_133 (fun q0 q1 q2 q3 q4 q5 q6 q7 q8 q9 q10 => (q2, q3, q4)) bT aG qG m_x gR qR nG oO pJ x1 x2 (s.1 + 1) s.2.1 s.2.2 c bL bY dO sW sH) else (j_X10_fits_129 (fun q0 q1 q2 q3 q4 q5 q6 q7 q8 q9 q10 => (q2, q3, q4)) bT aG qG m_x gR qR nG oO pJ x1 x2 (s.1 + 1) s.2.2 c bL bY dO sW sH))) else (j_X10_fits_156 (fun q0 q1 q2 q3 q4 q5 q6 q7 q8 q9 q10 => (q2, q3, q4)) bT aG qG m_x gR qR nG oO pJ x1 x2 s.1 s.2.1 s.2.2 c bL bY dO sW sH)) else (j_X10_fits_156 (fun q0 q1 q2 q3 q4 q5 q6 q7 q8 q9 q10 => (q2, q3, q4)) bT aG qG m_x gR qR nG oO pJ x1 x2 s.1 s.2.1 s.2.2 c bL bY dO sW sH)
noncomputable def ex_X10_fits_73 {R : Type} (po : Int32 -> Int32 -> Int32 -> Int32 -> (Nat -> Int32) -> (Nat -> Int32) -> R) (bT aG : Int32) (qG m_x gR qR nG oO pJ : Nat -> Int32) (x1 x2 bL bY dO : Int32) (sW sH : Nat -> Int32) (c : Int32) (s : Int32 × Int32 × Int32) : R := po s.1 ((bBW s.2.2 (bBW s.2.1 0 sW).1 (bBW s.2.1 0 sW).2).1) bY dO ((bBW s.2.2 (bBW s.2.1 0 sW).1 (bBW s.2.1 0 sW).2).2) sH
set_option maxHeartbeats 200000 in
set_option maxRecDepth 10000 in
theorem dl_X10_fits_73 {P Q : Int32 -> Int32 -> Int32 -> Int32 -> (Nat -> Int32) -> (Nat -> Int32) -> Prop} {bT aG : Int32} {qG m_x gR qR nG oO pJ : Nat -> Int32} {x1 x2 bL bY dO : Int32} {sW sH : Nat -> Int32} {a : Int32 × Int32 × Int32} {i : Nat} (hi0 : i < 2147483648) (hz0 : Int32.toInt (F_X10_allStandings aG) < 2147483647) (hE : ∀ (c : Int32) (s : Int32 × Int32 × Int32), c = nI (i + (Int32.toInt (F_X10_allStandings aG) + 1 - ((i : Nat) : Int)).toNat) -> s = itr (bd_X10_fits_73 bT aG qG m_x gR qR nG oO pJ x1 x2 bL bY dO sW sH) a i (Int32.toInt (F_X10_allStandings aG) + 1 - ((i : Nat) : Int)).toNat -> (aDs (fun aVd m_row_7 => aDs (fun aG6 aUs => P s.1 aG6 bY dO aUs sH) s.2.2 aVd m_row_7) s.2.1 0 sW) -> (aDs (fun aVd m_row_7 => aDs (fun aG6 aUs => Q s.1 aG6 bY dO aUs sH) s.2.2 aVd m_row_7) s.2.1 0 sW)) : ∀ (n k : Nat) (c : Int32), c = nI (i + k) -> k <= (Int32.toInt (F_X10_allStandings aG) + 1 - ((i : Nat) : Int)).toNat -> wb_X10_fits_73 P bT aG qG m_x gR qR nG oO pJ n x1 x2 (itr (bd_X10_fits_73 bT aG qG m_x gR qR nG oO pJ x1 x2 bL bY dO sW sH) a i k).1 (itr (bd_X10_fits_73 bT aG qG m_x gR qR nG oO pJ x1 x2 bL bY dO sW sH) a i k).2.1 (itr (bd_X10_fits_73 bT aG qG m_x gR qR nG oO pJ x1 x2 bL bY dO sW sH) a i k).2.2 c bL bY dO sW sH -> wb_X10_fits_73 Q bT aG qG m_x gR qR nG oO pJ n x1 x2 (itr (bd_X10_fits_73 bT aG qG m_x gR qR nG oO pJ x1 x2 bL bY dO sW sH) a i k).1 (itr (bd_X10_fits_73 bT aG qG m_x gR qR nG oO pJ x1 x2 bL bY dO sW sH) a i k).2.1 (itr (bd_X10_fits_73 bT aG qG m_x gR qR nG oO pJ x1 x2 bL bY dO sW sH) a i k).2.2 c bL bY dO sW sH := by
  intro n
  induction n with
  | zero => intro k c hc hk h; exact False.elim h
  | succ n ih =>
    intro k c hc hk h
    have hr := aAT (F_X10_allStandings aG)
    have hi : Int32.toInt c = ((i + k : Nat) : Int) := by rw [hc]; exact nI_toInt (by omega)
    have h : ws_X10_fits_73 P (wb_X10_fits_73 P bT aG qG m_x gR qR nG oO pJ n) bT aG qG m_x gR qR nG oO pJ x1 x2 (itr (bd_X10_fits_73 bT aG qG m_x gR qR nG oO pJ x1 x2 bL bY dO sW sH) a i k).1 (itr (bd_X10_fits_73 bT aG qG m_x gR qR nG oO pJ x1 x2 bL bY dO sW sH) a i k).2.1 (itr (bd_X10_fits_73 bT aG qG m_x gR qR nG oO pJ x1 x2 bL bY dO sW sH) a i k).2.2 c bL bY dO sW sH := h
    show ws_X10_fits_73 Q (wb_X10_fits_73 Q bT aG qG m_x gR qR nG oO pJ n) bT aG qG m_x gR qR nG oO pJ x1 x2 (itr (bd_X10_fits_73 bT aG qG m_x gR qR nG oO pJ x1 x2 bL bY dO sW sH) a i k).1 (itr (bd_X10_fits_73 bT aG qG m_x gR qR nG oO pJ x1 x2 bL bY dO sW sH) a i k).2.1 (itr (bd_X10_fits_73 bT aG qG m_x gR qR nG oO pJ x1 x2 bL bY dO sW sH) a i k).2.2 c bL bY dO sW sH
    unfold ws_X10_fits_73 at h ⊢
    refine du_X10_allStandings h ?_
    intro h
    refine And.intro (fun t0 => ?_) (fun t0 => ?_)
    · have h := And.left h t0
      have t1 := (aAd _ _).mp t0
      have hk2 : k = (Int32.toInt (F_X10_allStandings aG) + 1 - ((i : Nat) : Int)).toNat := by omega
      subst hk2
      exact hE _ _ hc rfl h
    · have h := And.right h t0
      have t1 := mt (aAd _ _).mpr t0
      have hs : ∀ o : Int32 × Int32 × Int32, o = itr (bd_X10_fits_73 bT aG qG m_x gR qR nG oO pJ x1 x2 bL bY dO sW sH) a i (k + 1) -> wb_X10_fits_73 P bT aG qG m_x gR qR nG oO pJ n x1 x2 o.1 o.2.1 o.2.2 (c + 1) bL bY dO sW sH -> wb_X10_fits_73 Q bT aG qG m_x gR qR nG oO pJ n x1 x2 o.1 o.2.1 o.2.2 (c + 1) bL bY dO sW sH := by
        intro o eo h9
        have q := ih (k + 1) (c + 1) (by rw [hc]; exact nI_1 _) (by omega)
        rw [<- eo] at q
        exact q h9
      rw [itr_s, <- hc, bd_X10_fits_73] at hs
      refine And.intro (fun c1 => ?_) (fun c1 => ?_)
      · have h := And.left h c1
        rw [if_neg c1] at hs
        rw [j_X10_fits_156] at hs
        unfold ws_X10_fits_156 at h ⊢
        refine ae ?_
        have h := h _ rfl
        have q9 := hs _ rfl
        dsimp only at q9
        exact q9 h
      · have h := And.right h c1
        rw [if_pos c1] at hs
        refine du_X10_handOf h ?_
        intro h
        refine And.intro (fun c2 => ?_) (fun c2 => ?_)
        · have h := And.left h c2
          rw [if_pos c2] at hs
          refine ae ?_
          have h := h _ rfl
          refine And.intro (fun c3 => ?_) (fun c3 => ?_)
          · have h := And.left h c3
            rw [if_pos c3] at hs
            rw [j_X10_fits_129] at hs
            unfold ws_X10_fits_129 at h ⊢
            rw [j_X10_fits_133] at hs
            unfold ws_X10_fits_133 at h ⊢
            refine And.intro (fun c4 => ?_) (fun c4 => ?_)
            · have h := And.left h c4
              rw [if_pos c4] at hs
              rw [j_X10_fits_152] at hs
              unfold ws_X10_fits_152 at h ⊢
              rw [j_X10_fits_156] at hs
              unfold ws_X10_fits_156 at h ⊢
              refine ae ?_
              have h := h _ rfl
              have q9 := hs _ rfl
              dsimp only at q9
              exact q9 h
            · have h := And.right h c4
              rw [if_neg c4] at hs
              refine du_J6_bitCount_0f7a4 h ?_
              intro h
              refine du_J6_bitCount_0f7a4 h ?_
              intro h
              refine And.intro (fun c5 => ?_) (fun c5 => ?_)
              · have h := And.left h c5
                rw [if_pos c5] at hs
                rw [j_X10_fits_156] at hs
                unfold ws_X10_fits_156 at h ⊢
                refine ae ?_
                have h := h _ rfl
                have q9 := hs _ rfl
                dsimp only at q9
                exact q9 h
              · have h := And.right h c5
                rw [if_neg c5] at hs
                rw [j_X10_fits_152] at hs
                unfold ws_X10_fits_152 at h ⊢
                rw [j_X10_fits_156] at hs
                unfold ws_X10_fits_156 at h ⊢
                refine ae ?_
                have h := h _ rfl
                have q9 := hs _ rfl
                dsimp only at q9
                exact q9 h
          · have h := And.right h c3
            rw [if_neg c3] at hs
            refine du_J6_bitCount_0f7a4 h ?_
            intro h
            refine du_J6_bitCount_0f7a4 h ?_
            intro h
            refine And.intro (fun c6 => ?_) (fun c6 => ?_)
            · have h := And.left h c6
              rw [if_pos c6] at hs
              rw [j_X10_fits_133] at hs
              unfold ws_X10_fits_133 at h ⊢
              refine And.intro (fun c7 => ?_) (fun c7 => ?_)
              · have h := And.left h c7
                rw [if_pos c7] at hs
                rw [j_X10_fits_152] at hs
                unfold ws_X10_fits_152 at h ⊢
                rw [j_X10_fits_156] at hs
                unfold ws_X10_fits_156 at h ⊢
                refine ae ?_
                have h := h _ rfl
                have q9 := hs _ rfl
                dsimp only at q9
                exact q9 h
              · have h := And.right h c7
                rw [if_neg c7] at hs
                refine du_J6_bitCount_0f7a4 h ?_
                intro h
                refine du_J6_bitCount_0f7a4 h ?_
                intro h
                refine And.intro (fun c8 => ?_) (fun c8 => ?_)
                · have h := And.left h c8
                  rw [if_pos c8] at hs
                  rw [j_X10_fits_156] at hs
                  unfold ws_X10_fits_156 at h ⊢
                  refine ae ?_
                  have h := h _ rfl
                  have q9 := hs _ rfl
                  dsimp only at q9
                  exact q9 h
                · have h := And.right h c8
                  rw [if_neg c8] at hs
                  rw [j_X10_fits_152] at hs
                  unfold ws_X10_fits_152 at h ⊢
                  rw [j_X10_fits_156] at hs
                  unfold ws_X10_fits_156 at h ⊢
                  refine ae ?_
                  have h := h _ rfl
                  have q9 := hs _ rfl
                  dsimp only at q9
                  exact q9 h
            · have h := And.right h c6
              rw [if_neg c6] at hs
              rw [j_X10_fits_129] at hs
              unfold ws_X10_fits_129 at h ⊢
              rw [j_X10_fits_133] at hs
              unfold ws_X10_fits_133 at h ⊢
              refine And.intro (fun c9 => ?_) (fun c9 => ?_)
              · have h := And.left h c9
                rw [if_pos c9] at hs
                rw [j_X10_fits_152] at hs
                unfold ws_X10_fits_152 at h ⊢
                rw [j_X10_fits_156] at hs
                unfold ws_X10_fits_156 at h ⊢
                refine ae ?_
                have h := h _ rfl
                have q9 := hs _ rfl
                dsimp only at q9
                exact q9 h
              · have h := And.right h c9
                rw [if_neg c9] at hs
                refine du_J6_bitCount_0f7a4 h ?_
                intro h
                refine du_J6_bitCount_0f7a4 h ?_
                intro h
                refine And.intro (fun c10 => ?_) (fun c10 => ?_)
                · have h := And.left h c10
                  rw [if_pos c10] at hs
                  rw [j_X10_fits_156] at hs
                  unfold ws_X10_fits_156 at h ⊢
                  refine ae ?_
                  have h := h _ rfl
                  have q9 := hs _ rfl
                  dsimp only at q9
                  exact q9 h
                · have h := And.right h c10
                  rw [if_neg c10] at hs
                  rw [j_X10_fits_152] at hs
                  unfold ws_X10_fits_152 at h ⊢
                  rw [j_X10_fits_156] at hs
                  unfold ws_X10_fits_156 at h ⊢
                  refine ae ?_
                  have h := h _ rfl
                  have q9 := hs _ rfl
                  dsimp only at q9
                  exact q9 h
        · have h := And.right h c2
          rw [if_neg c2] at hs
          rw [j_X10_fits_156] at hs
          unfold ws_X10_fits_156 at h ⊢
          refine ae ?_
          have h := h _ rfl
          have q9 := hs _ rfl
          dsimp only at q9
          exact q9 h
noncomputable def ex_X10_fits_27 {R : Type} (po : Int32 -> Int32 -> Int32 -> Int32 -> (Nat -> Int32) -> (Nat -> Int32) -> R) (bT aG : Int32) (qG m_x gR qR nG oO pJ : Nat -> Int32) (x1 bL bY dO : Int32) (sW sH : Nat -> Int32) (c s : Int32) : R := ex_X10_fits_73 po bT aG qG m_x gR qR nG oO pJ x1 s bL bY dO sW sH (nI (0 + (Int32.toInt (F_X10_allStandings aG) + 1 - ((0 : Nat) : Int)).toNat)) (itr (bd_X10_fits_73 bT aG qG m_x gR qR nG oO pJ x1 s bL bY dO sW sH) (0, (-1), (-1)) 0 (Int32.toInt (F_X10_allStandings aG) + 1 - ((0 : Nat) : Int)).toNat)
set_option maxHeartbeats 200000 in
set_option maxRecDepth 10000 in
theorem dl_X10_fits_27 {P Q : Int32 -> Int32 -> Int32 -> Int32 -> (Nat -> Int32) -> (Nat -> Int32) -> Prop} {bT aG : Int32} {qG m_x gR qR nG oO pJ : Nat -> Int32} {x1 bL bY dO : Int32} {sW sH : Nat -> Int32} {a : Int32} {i : Nat} (hi0 : i < 2147483648) (hE : ∀ (c : Int32) (s : Int32), c = nI (i + (Int32.toInt aG - ((i : Nat) : Int)).toNat) -> s = itr (bd_X10_fits_27 bT aG qG m_x gR qR nG oO pJ x1 bL bY dO sW sH) a i (Int32.toInt aG - ((i : Nat) : Int)).toNat -> (∃ n : Nat, wb_X10_fits_73 P bT aG qG m_x gR qR nG oO pJ n x1 s 0 (-1) (-1) 0 bL bY dO sW sH) -> (∃ n : Nat, wb_X10_fits_73 Q bT aG qG m_x gR qR nG oO pJ n x1 s 0 (-1) (-1) 0 bL bY dO sW sH)) : ∀ (n k : Nat) (c : Int32), c = nI (i + k) -> k <= (Int32.toInt aG - ((i : Nat) : Int)).toNat -> wb_X10_fits_27 P bT aG qG m_x gR qR nG oO pJ n x1 (itr (bd_X10_fits_27 bT aG qG m_x gR qR nG oO pJ x1 bL bY dO sW sH) a i k) c bL bY dO sW sH -> wb_X10_fits_27 Q bT aG qG m_x gR qR nG oO pJ n x1 (itr (bd_X10_fits_27 bT aG qG m_x gR qR nG oO pJ x1 bL bY dO sW sH) a i k) c bL bY dO sW sH := by
  intro n
  induction n with
  | zero => intro k c hc hk h; exact False.elim h
  | succ n ih =>
    intro k c hc hk h
    have hr := aAT aG
    have hi : Int32.toInt c = ((i + k : Nat) : Int) := by rw [hc]; exact nI_toInt (by omega)
    refine And.intro (fun t0 => ?_) (fun t0 => ?_)
    · have h := And.left h t0
      have t1 := (aAO _ _).mp t0
      have hk2 : k = (Int32.toInt aG - ((i : Nat) : Int)).toNat := by omega
      subst hk2
      exact hE _ _ hc rfl h
    · have h := And.right h t0
      have t1 := mt (aAO _ _).mpr t0
      have hs : ∀ o : Int32, o = itr (bd_X10_fits_27 bT aG qG m_x gR qR nG oO pJ x1 bL bY dO sW sH) a i (k + 1) -> wb_X10_fits_27 P bT aG qG m_x gR qR nG oO pJ n x1 o (c + 1) bL bY dO sW sH -> wb_X10_fits_27 Q bT aG qG m_x gR qR nG oO pJ n x1 o (c + 1) bL bY dO sW sH := by
        intro o eo h9
        have q := ih (k + 1) (c + 1) (by rw [hc]; exact nI_1 _) (by omega)
        rw [<- eo] at q
        exact q h9
      rw [itr_s, <- hc, bd_X10_fits_27] at hs
      refine And.intro (And.left h) ?_
      have h := And.right h
      refine ae ?_
      have h := h _ rfl
      refine And.intro (fun c1 => ?_) (fun c1 => ?_)
      · have h := And.left h c1
        rw [if_pos c1] at hs
        rw [j_X10_fits_54] at hs
        unfold ws_X10_fits_54 at h ⊢
        refine ae ?_
        have h := h _ rfl
        refine ae ?_
        have h := h _ rfl
        have q9 := hs _ rfl
        exact q9 h
      · have h := And.right h c1
        rw [if_neg c1] at hs
        refine ae ?_
        have h := h _ rfl
        rw [j_X10_fits_54] at hs
        unfold ws_X10_fits_54 at h ⊢
        refine ae ?_
        have h := h _ rfl
        refine ae ?_
        have h := h _ rfl
        have q9 := hs _ rfl
        exact q9 h
noncomputable def F_X10_fits (p0 bT aG bL bY dO : Int32) (qG m_x gR qR nG oO pJ sW sH : Nat -> Int32) : Int32 × Int32 × Int32 × Int32 × (Nat -> Int32) × (Nat -> Int32) := if (aUe p0 0 (F_X10_allFruits bT)) = 0 then ((-1), bL, 0, dO, sW, sH) else (ex_X10_fits_27 (fun o0 o1 o2 o3 o4 o5 => (o0, o1, o2, o3, o4, o5)) bT aG qG m_x gR qR nG oO pJ p0 bL 0 ((bBY bT aG dO qG m_x gR qR nG oO pJ sH).1) sW ((bBY bT aG dO qG m_x gR qR nG oO pJ sH).2) (nI (0 + (Int32.toInt aG - ((0 : Nat) : Int)).toNat)) (itr (bd_X10_fits_27 bT aG qG m_x gR qR nG oO pJ p0 bL 0 ((bBY bT aG dO qG m_x gR qR nG oO pJ sH).1) sW ((bBY bT aG dO qG m_x gR qR nG oO pJ sH).2)) 0 0 (Int32.toInt aG - ((0 : Nat) : Int)).toNat))
set_option maxHeartbeats 200000 in
set_option maxRecDepth 10000 in
theorem dt_X10_fits {P Q : Int32 -> Int32 -> Int32 -> Int32 -> (Nat -> Int32) -> (Nat -> Int32) -> Prop} {p0 bT aG bL bY dO : Int32} {qG m_x gR qR nG oO pJ sW sH : Nat -> Int32} (hy0 : Int32.toInt (F_X10_allStandings aG) < 2147483647) (h : wp_X10_fits P p0 bT aG bL bY dO qG m_x gR qR nG oO pJ sW sH) (hq : ∀ o : Int32 × Int32 × Int32 × Int32 × (Nat -> Int32) × (Nat -> Int32), o = F_X10_fits p0 bT aG bL bY dO qG m_x gR qR nG oO pJ sW sH -> P o.1 o.2.1 o.2.2.1 o.2.2.2.1 o.2.2.2.2.1 o.2.2.2.2.2 -> Q o.1 o.2.1 o.2.2.1 o.2.2.2.1 o.2.2.2.2.1 o.2.2.2.2.2) : wp_X10_fits Q p0 bT aG bL bY dO qG m_x gR qR nG oO pJ sW sH := by
  rw [F_X10_fits] at hq
  refine du_X10_allFruits h ?_
  intro h
  refine du_X10_in h ?_
  intro h
  refine And.intro (fun c1 => ?_) (fun c1 => ?_)
  · have h := And.left h c1
    rw [if_neg c1] at hq
    refine du_X10_layHands h ?_
    intro h
    obtain ⟨n2, h⟩ := h
    refine ⟨n2, dl_X10_fits_27 (a := 0) (i := 0) (by decide) ?_ n2 0 0 (by decide) (Nat.zero_le _) h⟩
    intro cc3 s4 ec5 es6 h
    rw [<- ec5, <- es6, ex_X10_fits_27] at hq
    obtain ⟨n7, h⟩ := h
    refine ⟨n7, dl_X10_fits_73 (a := (0, (-1), (-1))) (i := 0) (by decide) hy0 ?_ n7 0 0 (by decide) (Nat.zero_le _) h⟩
    intro cc8 s9 ec10 es11 h
    rw [<- ec10, <- es11, ex_X10_fits_73] at hq
    refine du_X10_tell h ?_
    intro h
    refine du_X10_tell h ?_
    intro h
    have q9 := hq _ rfl
    dsimp only at q9
    exact q9 h
  · have h := And.right h c1
    rw [if_pos c1] at hq
    have q9 := hq _ rfl
    dsimp only at q9
    exact q9 h
theorem du_X10_fits {P Q : Int32 -> Int32 -> Int32 -> Int32 -> (Nat -> Int32) -> (Nat -> Int32) -> Prop} {p0 bT aG bL bY dO : Int32} {qG m_x gR qR nG oO pJ sW sH : Nat -> Int32} (hy0 : Int32.toInt (F_X10_allStandings aG) < 2147483647) (h : wp_X10_fits P p0 bT aG bL bY dO qG m_x gR qR nG oO pJ sW sH) (hq : P (F_X10_fits p0 bT aG bL bY dO qG m_x gR qR nG oO pJ sW sH).1 (F_X10_fits p0 bT aG bL bY dO qG m_x gR qR nG oO pJ sW sH).2.1 (F_X10_fits p0 bT aG bL bY dO qG m_x gR qR nG oO pJ sW sH).2.2.1 (F_X10_fits p0 bT aG bL bY dO qG m_x gR qR nG oO pJ sW sH).2.2.2.1 (F_X10_fits p0 bT aG bL bY dO qG m_x gR qR nG oO pJ sW sH).2.2.2.2.1 (F_X10_fits p0 bT aG bL bY dO qG m_x gR qR nG oO pJ sW sH).2.2.2.2.2 -> Q (F_X10_fits p0 bT aG bL bY dO qG m_x gR qR nG oO pJ sW sH).1 (F_X10_fits p0 bT aG bL bY dO qG m_x gR qR nG oO pJ sW sH).2.1 (F_X10_fits p0 bT aG bL bY dO qG m_x gR qR nG oO pJ sW sH).2.2.1 (F_X10_fits p0 bT aG bL bY dO qG m_x gR qR nG oO pJ sW sH).2.2.2.1 (F_X10_fits p0 bT aG bL bY dO qG m_x gR qR nG oO pJ sW sH).2.2.2.2.1 (F_X10_fits p0 bT aG bL bY dO qG m_x gR qR nG oO pJ sW sH).2.2.2.2.2) : wp_X10_fits Q p0 bT aG bL bY dO qG m_x gR qR nG oO pJ sW sH := dt_X10_fits hy0 h (fun o eo => by rw [eo]; exact hq)
theorem dw_X10_fits {Q : Int32 -> Int32 -> Int32 -> Int32 -> (Nat -> Int32) -> (Nat -> Int32) -> Prop} {p0 bT aG bL bY dO : Int32} {qG m_x gR qR nG oO pJ sW sH : Nat -> Int32} (hy0 : Int32.toInt (F_X10_allStandings aG) < 2147483647) (h : wp_X10_fits (fun o0 o1 o2 o3 o4 o5 => (o0, o1, o2, o3, o4, o5) = F_X10_fits p0 bT aG bL bY dO qG m_x gR qR nG oO pJ sW sH -> Q o0 o1 o2 o3 o4 o5) p0 bT aG bL bY dO qG m_x gR qR nG oO pJ sW sH) : wp_X10_fits Q p0 bT aG bL bY dO qG m_x gR qR nG oO pJ sW sH := dt_X10_fits hy0 h (fun o eo hp => hp eo)
noncomputable def bd_X10_lay_b4_2 (qG : Nat -> Int32) (x2 c : Int32) (s : (Nat -> Int32)) : (Nat -> Int32) := (upd s (x2 + c).toNatClampNeg (qG c.toNatClampNeg))
noncomputable def ex_X10_lay_b4_2 {R : Type} (po : (Nat -> Int32) -> R) (qG : Nat -> Int32) (x2 c : Int32) (s : (Nat -> Int32)) : R := po s
set_option maxHeartbeats 200000 in
set_option maxRecDepth 10000 in
theorem dl_X10_lay_b4_2 {P Q : (Nat -> Int32) -> Prop} {qG : Nat -> Int32} {x2 : Int32} {a : (Nat -> Int32)} {i : Nat} (hi0 : i < 2147483648) (hE : ∀ (c : Int32) (s : (Nat -> Int32)), c = nI (i + (Int32.toInt 21 - ((i : Nat) : Int)).toNat) -> s = itr (bd_X10_lay_b4_2 qG x2) a i (Int32.toInt 21 - ((i : Nat) : Int)).toNat -> (P s) -> (Q s)) : ∀ (n k : Nat) (c : Int32), c = nI (i + k) -> k <= (Int32.toInt 21 - ((i : Nat) : Int)).toNat -> wb_X10_lay_b4_2 P qG n x2 c (itr (bd_X10_lay_b4_2 qG x2) a i k) -> wb_X10_lay_b4_2 Q qG n x2 c (itr (bd_X10_lay_b4_2 qG x2) a i k) := by
  intro n
  induction n with
  | zero => intro k c hc hk h; exact False.elim h
  | succ n ih =>
    intro k c hc hk h
    have hr := aAT 21
    have hi : Int32.toInt c = ((i + k : Nat) : Int) := by rw [hc]; exact nI_toInt (by omega)
    refine And.intro (fun t0 => ?_) (fun t0 => ?_)
    · have h := And.left h t0
      have t1 := (aAO _ _).mp t0
      have hk2 : k = (Int32.toInt 21 - ((i : Nat) : Int)).toNat := by omega
      subst hk2
      exact hE _ _ hc rfl h
    · have h := And.right h t0
      have t1 := mt (aAO _ _).mpr t0
      have hs : ∀ o : (Nat -> Int32), o = itr (bd_X10_lay_b4_2 qG x2) a i (k + 1) -> wb_X10_lay_b4_2 P qG n x2 (c + 1) o -> wb_X10_lay_b4_2 Q qG n x2 (c + 1) o := by
        intro o eo h9
        have q := ih (k + 1) (c + 1) (by rw [hc]; exact nI_1 _) (by omega)
        rw [<- eo] at q
        exact q h9
      rw [itr_s, <- hc, bd_X10_lay_b4_2] at hs
      refine ae ?_
      have h := h _ rfl
      refine And.intro (And.left h) ?_
      have h := And.right h
      refine ae ?_
      have h := h _ rfl
      refine And.intro (And.left h) ?_
      have h := And.right h
      refine ae ?_
      have h := h _ rfl
      have q9 := hs _ rfl
      exact q9 h
noncomputable def F_X10_lay_b4 (p2 : Int32) (qG xD : Nat -> Int32) : (Nat -> Int32) := ex_X10_lay_b4_2 (fun o0 => o0) qG p2 (nI (0 + (Int32.toInt 21 - ((0 : Nat) : Int)).toNat)) (itr (bd_X10_lay_b4_2 qG p2) xD 0 (Int32.toInt 21 - ((0 : Nat) : Int)).toNat)
set_option maxHeartbeats 200000 in
set_option maxRecDepth 10000 in
theorem dt_X10_lay_b4 {P Q : (Nat -> Int32) -> Prop} {p2 : Int32} {qG xD : Nat -> Int32} (h : wp_X10_lay_b4 P p2 qG xD) (hq : ∀ o : (Nat -> Int32), o = F_X10_lay_b4 p2 qG xD -> P o -> Q o) : wp_X10_lay_b4 Q p2 qG xD := by
  rw [F_X10_lay_b4] at hq
  obtain ⟨n1, h⟩ := h
  refine ⟨n1, dl_X10_lay_b4_2 (a := xD) (i := 0) (by decide) ?_ n1 0 0 (by decide) (Nat.zero_le _) h⟩
  intro cc2 s3 ec4 es5 h
  rw [<- ec4, <- es5, ex_X10_lay_b4_2] at hq
  have q9 := hq _ rfl
  exact q9 h
theorem du_X10_lay_b4 {P Q : (Nat -> Int32) -> Prop} {p2 : Int32} {qG xD : Nat -> Int32} (h : wp_X10_lay_b4 P p2 qG xD) (hq : P (F_X10_lay_b4 p2 qG xD) -> Q (F_X10_lay_b4 p2 qG xD)) : wp_X10_lay_b4 Q p2 qG xD := dt_X10_lay_b4 h (fun o eo => by rw [eo]; exact hq)
theorem dw_X10_lay_b4 {Q : (Nat -> Int32) -> Prop} {p2 : Int32} {qG xD : Nat -> Int32} (h : wp_X10_lay_b4 (fun o0 => o0 = F_X10_lay_b4 p2 qG xD -> Q o0) p2 qG xD) : wp_X10_lay_b4 Q p2 qG xD := dt_X10_lay_b4 h (fun o eo hp => hp eo)
noncomputable def F_X10_keep (p0 bY oX : Int32) (qG xD vJ uI : Nat -> Int32) : Int32 × Int32 × (Nat -> Int32) × (Nat -> Int32) × (Nat -> Int32) := if (aUe p0 0 1) = 0 then (0, 0, xD, vJ, uI) else (1, 0, (F_X10_lay_b4 (21 * p0) qG xD), (upd vJ p0.toNatClampNeg (vp_nar .boolean 1)), (upd uI p0.toNatClampNeg oX))
set_option maxHeartbeats 200000 in
set_option maxRecDepth 10000 in
theorem dt_X10_keep {P Q : Int32 -> Int32 -> (Nat -> Int32) -> (Nat -> Int32) -> (Nat -> Int32) -> Prop} {p0 bY oX : Int32} {qG xD vJ uI : Nat -> Int32} (h : wp_X10_keep P p0 bY oX qG xD vJ uI) (hq : ∀ o : Int32 × Int32 × (Nat -> Int32) × (Nat -> Int32) × (Nat -> Int32), o = F_X10_keep p0 bY oX qG xD vJ uI -> P o.1 o.2.1 o.2.2.1 o.2.2.2.1 o.2.2.2.2 -> Q o.1 o.2.1 o.2.2.1 o.2.2.2.1 o.2.2.2.2) : wp_X10_keep Q p0 bY oX qG xD vJ uI := by
  rw [F_X10_keep] at hq
  refine du_X10_in h ?_
  intro h
  refine And.intro (fun c1 => ?_) (fun c1 => ?_)
  · have h := And.left h c1
    rw [if_neg c1] at hq
    refine And.intro (And.left h) ?_
    have h := And.right h
    refine And.intro (And.left h) ?_
    have h := And.right h
    refine ae ?_
    have h := h _ rfl
    refine du_X10_lay_b4 h ?_
    intro h
    have q9 := hq _ rfl
    dsimp only at q9
    exact q9 h
  · have h := And.right h c1
    rw [if_pos c1] at hq
    have q9 := hq _ rfl
    dsimp only at q9
    exact q9 h
theorem du_X10_keep {P Q : Int32 -> Int32 -> (Nat -> Int32) -> (Nat -> Int32) -> (Nat -> Int32) -> Prop} {p0 bY oX : Int32} {qG xD vJ uI : Nat -> Int32} (h : wp_X10_keep P p0 bY oX qG xD vJ uI) (hq : P (F_X10_keep p0 bY oX qG xD vJ uI).1 (F_X10_keep p0 bY oX qG xD vJ uI).2.1 (F_X10_keep p0 bY oX qG xD vJ uI).2.2.1 (F_X10_keep p0 bY oX qG xD vJ uI).2.2.2.1 (F_X10_keep p0 bY oX qG xD vJ uI).2.2.2.2 -> Q (F_X10_keep p0 bY oX qG xD vJ uI).1 (F_X10_keep p0 bY oX qG xD vJ uI).2.1 (F_X10_keep p0 bY oX qG xD vJ uI).2.2.1 (F_X10_keep p0 bY oX qG xD vJ uI).2.2.2.1 (F_X10_keep p0 bY oX qG xD vJ uI).2.2.2.2) : wp_X10_keep Q p0 bY oX qG xD vJ uI := dt_X10_keep h (fun o eo => by rw [eo]; exact hq)
theorem dw_X10_keep {Q : Int32 -> Int32 -> (Nat -> Int32) -> (Nat -> Int32) -> (Nat -> Int32) -> Prop} {p0 bY oX : Int32} {qG xD vJ uI : Nat -> Int32} (h : wp_X10_keep (fun o0 o1 o2 o3 o4 => (o0, o1, o2, o3, o4) = F_X10_keep p0 bY oX qG xD vJ uI -> Q o0 o1 o2 o3 o4) p0 bY oX qG xD vJ uI) : wp_X10_keep Q p0 bY oX qG xD vJ uI := dt_X10_keep h (fun o eo hp => hp eo)
noncomputable def bd_X10_again_40 (oX : Int32) (xD vJ uI : Nat -> Int32) (x1 bY bU c : Int32) (s : (Nat -> Int32)) : (Nat -> Int32) := (upd s c.toNatClampNeg (xD ((21 * x1) + c).toNatClampNeg))
noncomputable def ex_X10_again_40 {R : Type} (po : Int32 -> Int32 -> Int32 -> (Nat -> Int32) -> R) (oX : Int32) (xD vJ uI : Nat -> Int32) (x1 bY bU c : Int32) (s : (Nat -> Int32)) : R := po 1 bY 0 s
set_option maxHeartbeats 200000 in
set_option maxRecDepth 10000 in
theorem dl_X10_again_40 {P Q : Int32 -> Int32 -> Int32 -> (Nat -> Int32) -> Prop} {oX : Int32} {xD vJ uI : Nat -> Int32} {x1 bY bU : Int32} {a : (Nat -> Int32)} {i : Nat} (hi0 : i < 2147483648) (hE : ∀ (c : Int32) (s : (Nat -> Int32)), c = nI (i + (Int32.toInt 21 - ((i : Nat) : Int)).toNat) -> s = itr (bd_X10_again_40 oX xD vJ uI x1 bY bU) a i (Int32.toInt 21 - ((i : Nat) : Int)).toNat -> (P 1 bY 0 s) -> (Q 1 bY 0 s)) : ∀ (n k : Nat) (c : Int32), c = nI (i + k) -> k <= (Int32.toInt 21 - ((i : Nat) : Int)).toNat -> wb_X10_again_40 P oX xD vJ uI n x1 c bY bU (itr (bd_X10_again_40 oX xD vJ uI x1 bY bU) a i k) -> wb_X10_again_40 Q oX xD vJ uI n x1 c bY bU (itr (bd_X10_again_40 oX xD vJ uI x1 bY bU) a i k) := by
  intro n
  induction n with
  | zero => intro k c hc hk h; exact False.elim h
  | succ n ih =>
    intro k c hc hk h
    have hr := aAT 21
    have hi : Int32.toInt c = ((i + k : Nat) : Int) := by rw [hc]; exact nI_toInt (by omega)
    refine And.intro (fun t0 => ?_) (fun t0 => ?_)
    · have h := And.left h t0
      have t1 := (aAO _ _).mp t0
      have hk2 : k = (Int32.toInt 21 - ((i : Nat) : Int)).toNat := by omega
      subst hk2
      exact hE _ _ hc rfl h
    · have h := And.right h t0
      have t1 := mt (aAO _ _).mpr t0
      have hs : ∀ o : (Nat -> Int32), o = itr (bd_X10_again_40 oX xD vJ uI x1 bY bU) a i (k + 1) -> wb_X10_again_40 P oX xD vJ uI n x1 (c + 1) bY bU o -> wb_X10_again_40 Q oX xD vJ uI n x1 (c + 1) bY bU o := by
        intro o eo h9
        have q := ih (k + 1) (c + 1) (by rw [hc]; exact nI_1 _) (by omega)
        rw [<- eo] at q
        exact q h9
      rw [itr_s, <- hc, bd_X10_again_40] at hs
      refine ae ?_
      have h := h _ rfl
      refine ae ?_
      have h := h _ rfl
      refine And.intro (And.left h) ?_
      have h := And.right h
      refine ae ?_
      have h := h _ rfl
      refine And.intro (And.left h) ?_
      have h := And.right h
      refine ae ?_
      have h := h _ rfl
      have q9 := hs _ rfl
      exact q9 h
noncomputable def F_X10_again (p0 bY bU oX : Int32) (qG xD vJ uI : Nat -> Int32) : Int32 × Int32 × Int32 × (Nat -> Int32) := if (aUe p0 0 1) = 0 then (0, 0, bU, qG) else (if (vJ p0.toNatClampNeg) = 0 then (0, 0, bU, qG) else (if (uI p0.toNatClampNeg) = oX then (ex_X10_again_40 (fun o0 o1 o2 o3 => (o0, o1, o2, o3)) oX xD vJ uI p0 0 bU (nI (0 + (Int32.toInt 21 - ((0 : Nat) : Int)).toNat)) (itr (bd_X10_again_40 oX xD vJ uI p0 0 bU) qG 0 (Int32.toInt 21 - ((0 : Nat) : Int)).toNat)) else (0, 0, bU, qG)))
set_option maxHeartbeats 200000 in
set_option maxRecDepth 10000 in
theorem dt_X10_again {P Q : Int32 -> Int32 -> Int32 -> (Nat -> Int32) -> Prop} {p0 bY bU oX : Int32} {qG xD vJ uI : Nat -> Int32} (h : wp_X10_again P p0 bY bU oX qG xD vJ uI) (hq : ∀ o : Int32 × Int32 × Int32 × (Nat -> Int32), o = F_X10_again p0 bY bU oX qG xD vJ uI -> P o.1 o.2.1 o.2.2.1 o.2.2.2 -> Q o.1 o.2.1 o.2.2.1 o.2.2.2) : wp_X10_again Q p0 bY bU oX qG xD vJ uI := by
  rw [F_X10_again] at hq
  refine du_X10_in h ?_
  intro h
  refine And.intro (fun c1 => ?_) (fun c1 => ?_)
  · have h := And.left h c1
    rw [if_pos c1] at hq
    have q9 := hq _ rfl
    dsimp only at q9
    exact q9 h
  · have h := And.right h c1
    rw [if_neg c1] at hq
    refine And.intro (And.left h) ?_
    have h := And.right h
    refine And.intro (fun c2 => ?_) (fun c2 => ?_)
    · have h := And.left h c2
      rw [if_pos c2] at hq
      have q9 := hq _ rfl
      dsimp only at q9
      exact q9 h
    · have h := And.right h c2
      rw [if_neg c2] at hq
      refine And.intro (And.left h) ?_
      have h := And.right h
      refine ae ?_
      have h := h _ rfl
      refine And.intro (fun c3 => ?_) (fun c3 => ?_)
      · have h := And.left h c3
        rw [if_pos c3] at hq
        obtain ⟨n4, h⟩ := h
        refine ⟨n4, dl_X10_again_40 (a := qG) (i := 0) (by decide) ?_ n4 0 0 (by decide) (Nat.zero_le _) h⟩
        intro cc5 s6 ec7 es8 h
        rw [<- ec7, <- es8, ex_X10_again_40] at hq
        have q9 := hq _ rfl
        dsimp only at q9
        exact q9 h
      · have h := And.right h c3
        rw [if_neg c3] at hq
        have q9 := hq _ rfl
        dsimp only at q9
        exact q9 h
theorem du_X10_again {P Q : Int32 -> Int32 -> Int32 -> (Nat -> Int32) -> Prop} {p0 bY bU oX : Int32} {qG xD vJ uI : Nat -> Int32} (h : wp_X10_again P p0 bY bU oX qG xD vJ uI) (hq : P (F_X10_again p0 bY bU oX qG xD vJ uI).1 (F_X10_again p0 bY bU oX qG xD vJ uI).2.1 (F_X10_again p0 bY bU oX qG xD vJ uI).2.2.1 (F_X10_again p0 bY bU oX qG xD vJ uI).2.2.2 -> Q (F_X10_again p0 bY bU oX qG xD vJ uI).1 (F_X10_again p0 bY bU oX qG xD vJ uI).2.1 (F_X10_again p0 bY bU oX qG xD vJ uI).2.2.1 (F_X10_again p0 bY bU oX qG xD vJ uI).2.2.2) : wp_X10_again Q p0 bY bU oX qG xD vJ uI := dt_X10_again h (fun o eo => by rw [eo]; exact hq)
theorem dw_X10_again {Q : Int32 -> Int32 -> Int32 -> (Nat -> Int32) -> Prop} {p0 bY bU oX : Int32} {qG xD vJ uI : Nat -> Int32} (h : wp_X10_again (fun o0 o1 o2 o3 => (o0, o1, o2, o3) = F_X10_again p0 bY bU oX qG xD vJ uI -> Q o0 o1 o2 o3) p0 bY bU oX qG xD vJ uI) : wp_X10_again Q p0 bY bU oX qG xD vJ uI := dt_X10_again h (fun o eo hp => hp eo)
