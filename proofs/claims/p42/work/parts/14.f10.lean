theorem dw_X10_next {Q : Int32 -> Int32 -> Int32 -> Int32 -> (Nat -> Int32) -> (Nat -> Int32) -> Prop} {p0 bT aG bL bY dO : Int32} {qG m_x gR pW qR nG oO pJ sW sH : Nat -> Int32} (h : wp_X10_next (fun o0 o1 o2 o3 o4 o5 => (o0, o1, o2, o3, o4, o5) = F_X10_next p0 bT aG bL bY dO qG m_x gR pW qR nG oO pJ sW sH -> Q o0 o1 o2 o3 o4 o5) p0 bT aG bL bY dO qG m_x gR pW qR nG oO pJ sW sH) : wp_X10_next Q p0 bT aG bL bY dO qG m_x gR pW qR nG oO pJ sW sH := dt_X10_next h (fun o eo hp => hp eo)
noncomputable def F_X10_helps (bT aG bL bY dO : Int32) (qG m_x gR qR nG oO pJ sW sH : Nat -> Int32) : Int32 × Int32 × Int32 × Int32 × (Nat -> Int32) × (Nat -> Int32) := (((aLS (F_X10_cover (F_X10_layHands_ 0 bT aG dO qG m_x gR qR nG oO pJ sH).1 aG (F_X10_layHands_ 0 bT aG dO qG m_x gR qR nG oO pJ sH).2)) - (aLS (F_X10_cover (F_X10_layHands_ 1 bT aG (F_X10_layHands_ 0 bT aG dO qG m_x gR qR nG oO pJ sH).1 qG m_x gR qR nG oO pJ (F_X10_layHands_ 0 bT aG dO qG m_x gR qR nG oO pJ sH).2).1 aG (F_X10_layHands_ 1 bT aG (F_X10_layHands_ 0 bT aG dO qG m_x gR qR nG oO pJ sH).1 qG m_x gR qR nG oO pJ (F_X10_layHands_ 0 bT aG dO qG m_x gR qR nG oO pJ sH).2).2))), (bBW (aLS (F_X10_layHands_ 1 bT aG (F_X10_layHands_ 0 bT aG dO qG m_x gR qR nG oO pJ sH).1 qG m_x gR qR nG oO pJ (F_X10_layHands_ 0 bT aG dO qG m_x gR qR nG oO pJ sH).2).1) (bBW (aLS (F_X10_layHands_ 0 bT aG dO qG m_x gR qR nG oO pJ sH).1) 0 sW).1 (bBW (aLS (F_X10_layHands_ 0 bT aG dO qG m_x gR qR nG oO pJ sH).1) 0 sW).2).1, 0, (F_X10_layHands_ 1 bT aG (F_X10_layHands_ 0 bT aG dO qG m_x gR qR nG oO pJ sH).1 qG m_x gR qR nG oO pJ (F_X10_layHands_ 0 bT aG dO qG m_x gR qR nG oO pJ sH).2).1, (bBW (aLS (F_X10_layHands_ 1 bT aG (F_X10_layHands_ 0 bT aG dO qG m_x gR qR nG oO pJ sH).1 qG m_x gR qR nG oO pJ (F_X10_layHands_ 0 bT aG dO qG m_x gR qR nG oO pJ sH).2).1) (bBW (aLS (F_X10_layHands_ 0 bT aG dO qG m_x gR qR nG oO pJ sH).1) 0 sW).1 (bBW (aLS (F_X10_layHands_ 0 bT aG dO qG m_x gR qR nG oO pJ sH).1) 0 sW).2).2, (F_X10_layHands_ 1 bT aG (F_X10_layHands_ 0 bT aG dO qG m_x gR qR nG oO pJ sH).1 qG m_x gR qR nG oO pJ (F_X10_layHands_ 0 bT aG dO qG m_x gR qR nG oO pJ sH).2).2)
set_option maxHeartbeats 200000 in
set_option maxRecDepth 10000 in
theorem dt_X10_helps {P Q : Int32 -> Int32 -> Int32 -> Int32 -> (Nat -> Int32) -> (Nat -> Int32) -> Prop} {bT aG bL bY dO : Int32} {qG m_x gR qR nG oO pJ sW sH : Nat -> Int32} (hy0 : Int32.toInt (F_X10_allStandings aG) < 2147483647) (h : wp_X10_helps P bT aG bL bY dO qG m_x gR qR nG oO pJ sW sH) (hq : ∀ o : Int32 × Int32 × Int32 × Int32 × (Nat -> Int32) × (Nat -> Int32), o = F_X10_helps bT aG bL bY dO qG m_x gR qR nG oO pJ sW sH -> P o.1 o.2.1 o.2.2.1 o.2.2.2.1 o.2.2.2.2.1 o.2.2.2.2.2 -> Q o.1 o.2.1 o.2.2.1 o.2.2.2.1 o.2.2.2.2.1 o.2.2.2.2.2) : wp_X10_helps Q bT aG bL bY dO qG m_x gR qR nG oO pJ sW sH := by
  rw [F_X10_helps] at hq
  refine du_X10_layHands_ h ?_
  intro h
  refine du_X10_cover hy0 h ?_
  intro h
  refine du_J6_bitCount_0f7a4 h ?_
  intro h
  refine du_J6_bitCount_0f7a4 h ?_
  intro h
  refine du_X10_layHands_ h ?_
  intro h
  refine du_X10_cover hy0 h ?_
  intro h
  refine du_J6_bitCount_0f7a4 h ?_
  intro h
  refine du_X10_tell h ?_
  intro h
  refine du_J6_bitCount_0f7a4 h ?_
  intro h
  refine du_X10_tell h ?_
  intro h
  have q9 := hq _ rfl
  dsimp only at q9
  exact q9 h
theorem du_X10_helps {P Q : Int32 -> Int32 -> Int32 -> Int32 -> (Nat -> Int32) -> (Nat -> Int32) -> Prop} {bT aG bL bY dO : Int32} {qG m_x gR qR nG oO pJ sW sH : Nat -> Int32} (hy0 : Int32.toInt (F_X10_allStandings aG) < 2147483647) (h : wp_X10_helps P bT aG bL bY dO qG m_x gR qR nG oO pJ sW sH) (hq : P (F_X10_helps bT aG bL bY dO qG m_x gR qR nG oO pJ sW sH).1 (F_X10_helps bT aG bL bY dO qG m_x gR qR nG oO pJ sW sH).2.1 (F_X10_helps bT aG bL bY dO qG m_x gR qR nG oO pJ sW sH).2.2.1 (F_X10_helps bT aG bL bY dO qG m_x gR qR nG oO pJ sW sH).2.2.2.1 (F_X10_helps bT aG bL bY dO qG m_x gR qR nG oO pJ sW sH).2.2.2.2.1 (F_X10_helps bT aG bL bY dO qG m_x gR qR nG oO pJ sW sH).2.2.2.2.2 -> Q (F_X10_helps bT aG bL bY dO qG m_x gR qR nG oO pJ sW sH).1 (F_X10_helps bT aG bL bY dO qG m_x gR qR nG oO pJ sW sH).2.1 (F_X10_helps bT aG bL bY dO qG m_x gR qR nG oO pJ sW sH).2.2.1 (F_X10_helps bT aG bL bY dO qG m_x gR qR nG oO pJ sW sH).2.2.2.1 (F_X10_helps bT aG bL bY dO qG m_x gR qR nG oO pJ sW sH).2.2.2.2.1 (F_X10_helps bT aG bL bY dO qG m_x gR qR nG oO pJ sW sH).2.2.2.2.2) : wp_X10_helps Q bT aG bL bY dO qG m_x gR qR nG oO pJ sW sH := dt_X10_helps hy0 h (fun o eo => by rw [eo]; exact hq)
theorem dw_X10_helps {Q : Int32 -> Int32 -> Int32 -> Int32 -> (Nat -> Int32) -> (Nat -> Int32) -> Prop} {bT aG bL bY dO : Int32} {qG m_x gR qR nG oO pJ sW sH : Nat -> Int32} (hy0 : Int32.toInt (F_X10_allStandings aG) < 2147483647) (h : wp_X10_helps (fun o0 o1 o2 o3 o4 o5 => (o0, o1, o2, o3, o4, o5) = F_X10_helps bT aG bL bY dO qG m_x gR qR nG oO pJ sW sH -> Q o0 o1 o2 o3 o4 o5) bT aG bL bY dO qG m_x gR qR nG oO pJ sW sH) : wp_X10_helps Q bT aG bL bY dO qG m_x gR qR nG oO pJ sW sH := dt_X10_helps hy0 h (fun o eo hp => hp eo)
noncomputable def F_X10_hereWanted (bT : Int32) (qG m_x gR qR nG oO pJ : Nat -> Int32) : Int32 := (((aUf 0 bT qG) &&& (F_X10_ripeOnes (qG (19 : Int32).toNatClampNeg) bT qR)) &&& (F_X10_byHand (qG (17 : Int32).toNatClampNeg) bT qG m_x gR nG oO pJ))
set_option maxHeartbeats 200000 in
set_option maxRecDepth 10000 in
theorem dt_X10_hereWanted {P Q : Int32 -> Prop} {bT : Int32} {qG m_x gR qR nG oO pJ : Nat -> Int32} (h : bBQ P bT qG m_x gR qR nG oO pJ) (hq : ∀ o : Int32, o = F_X10_hereWanted bT qG m_x gR qR nG oO pJ -> P o -> Q o) : bBQ Q bT qG m_x gR qR nG oO pJ := by
  rw [F_X10_hereWanted] at hq
  refine du_X10_which h ?_
  intro h
  refine ae ?_
  have h := h _ rfl
  refine du_X10_ripeOnes h ?_
  intro h
  refine ae ?_
  have h := h _ rfl
  refine ae ?_
  have h := h _ rfl
  refine du_X10_byHand h ?_
  intro h
  have q9 := hq _ rfl
  exact q9 h
theorem du_X10_hereWanted {P Q : Int32 -> Prop} {bT : Int32} {qG m_x gR qR nG oO pJ : Nat -> Int32} (h : bBQ P bT qG m_x gR qR nG oO pJ) (hq : P (F_X10_hereWanted bT qG m_x gR qR nG oO pJ) -> Q (F_X10_hereWanted bT qG m_x gR qR nG oO pJ)) : bBQ Q bT qG m_x gR qR nG oO pJ := dt_X10_hereWanted h (fun o eo => by rw [eo]; exact hq)
theorem dw_X10_hereWanted {Q : Int32 -> Prop} {bT : Int32} {qG m_x gR qR nG oO pJ : Nat -> Int32} (h : bBQ (fun o0 => o0 = F_X10_hereWanted bT qG m_x gR qR nG oO pJ -> Q o0) bT qG m_x gR qR nG oO pJ) : bBQ Q bT qG m_x gR qR nG oO pJ := dt_X10_hereWanted h (fun o eo hp => hp eo)
noncomputable def F_X10_firstRipe (p0 bT : Int32) (qG qR : Nat -> Int32) : Int32 := if p0 = (qG (19 : Int32).toNatClampNeg) then ((aUf 0 bT qG) &&& (F_X10_ripeOnes p0 bT qR)) else (((aUf 0 bT qG) &&& (F_X10_ripeOnes p0 bT qR)) &&& ((F_X10_ripeOnes (p0 - 1) bT qR) ^^^ (-1)))
set_option maxHeartbeats 200000 in
set_option maxRecDepth 10000 in
theorem dt_X10_firstRipe {P Q : Int32 -> Prop} {p0 bT : Int32} {qG qR : Nat -> Int32} (h : wp_X10_firstRipe P p0 bT qG qR) (hq : ∀ o : Int32, o = F_X10_firstRipe p0 bT qG qR -> P o -> Q o) : wp_X10_firstRipe Q p0 bT qG qR := by
  rw [F_X10_firstRipe] at hq
  refine du_X10_which h ?_
  intro h
  refine du_X10_ripeOnes h ?_
  intro h
  refine ae ?_
  have h := h _ rfl
  refine And.intro (fun c1 => ?_) (fun c1 => ?_)
  · have h := And.left h c1
    rw [if_neg c1] at hq
    refine ae ?_
    have h := h _ rfl
    refine du_X10_ripeOnes h ?_
    intro h
    have q9 := hq _ rfl
    exact q9 h
  · have h := And.right h c1
    rw [if_pos c1] at hq
    have q9 := hq _ rfl
    exact q9 h
theorem du_X10_firstRipe {P Q : Int32 -> Prop} {p0 bT : Int32} {qG qR : Nat -> Int32} (h : wp_X10_firstRipe P p0 bT qG qR) (hq : P (F_X10_firstRipe p0 bT qG qR) -> Q (F_X10_firstRipe p0 bT qG qR)) : wp_X10_firstRipe Q p0 bT qG qR := dt_X10_firstRipe h (fun o eo => by rw [eo]; exact hq)
theorem dw_X10_firstRipe {Q : Int32 -> Prop} {p0 bT : Int32} {qG qR : Nat -> Int32} (h : wp_X10_firstRipe (fun o0 => o0 = F_X10_firstRipe p0 bT qG qR -> Q o0) p0 bT qG qR) : wp_X10_firstRipe Q p0 bT qG qR := dt_X10_firstRipe h (fun o eo hp => hp eo)
noncomputable def j_X10_ripens_57 {R : Type} (k27 : Int32 -> Int32 -> Int32 -> Int32 -> Int32 -> Int32 -> (Nat -> Int32) -> (Nat -> Int32) -> R) (bT aG : Int32) (qG m_x gR qR nG oO pJ : Nat -> Int32) (x1 x2 x3 bL bY dO : Int32) (sW sH : Nat -> Int32) : R := k27 x1 x2 (x3 + 1) bL bY dO sW sH
noncomputable def bd_X10_ripens_27 (bT aG : Int32) (qG m_x gR qR nG oO pJ : Nat -> Int32) (bL bY dO : Int32) (sW sH : Nat -> Int32) (c : Int32) (s : Int32 × Int32) : Int32 × Int32 := if s.1 < (aLS (F_X10_firstRipe c bT qG qR)) then (j_X10_ripens_57 (fun q0 q1 q2 q3 q4 q5 q6 q7 => (q0, q1)) bT aG qG m_x gR qR nG oO pJ (aLS (F_X10_firstRipe c bT qG qR)) c c bL bY dO sW sH) else (j_X10_ripens_57 (fun q0 q1 q2 q3 q4 q5 q6 q7 => (q0, q1)) bT aG qG m_x gR qR nG oO pJ s.1 s.2 c bL bY dO sW sH)
noncomputable def ex_X10_ripens_27 {R : Type} (po : Int32 -> Int32 -> Int32 -> Int32 -> (Nat -> Int32) -> (Nat -> Int32) -> R) (bT aG : Int32) (qG m_x gR qR nG oO pJ : Nat -> Int32) (bL bY dO : Int32) (sW sH : Nat -> Int32) (c : Int32) (s : Int32 × Int32) : R := po s.1 ((bBW (aLS (F_X10_cover ((aUf 0 bT qG) &&& (F_X10_handOf (F_X10_allStandings aG) aG sH)) aG sH)) (bBW s.2 0 sW).1 (bBW s.2 0 sW).2).1) bY dO ((bBW (aLS (F_X10_cover ((aUf 0 bT qG) &&& (F_X10_handOf (F_X10_allStandings aG) aG sH)) aG sH)) (bBW s.2 0 sW).1 (bBW s.2 0 sW).2).2) sH
set_option maxHeartbeats 200000 in
set_option maxRecDepth 10000 in
theorem dl_X10_ripens_27 {P Q : Int32 -> Int32 -> Int32 -> Int32 -> (Nat -> Int32) -> (Nat -> Int32) -> Prop} {bT aG : Int32} {qG m_x gR qR nG oO pJ : Nat -> Int32} {bL bY dO : Int32} {sW sH : Nat -> Int32} {a : Int32 × Int32} {i : Nat} (hi0 : i < 2147483648) (hE : ∀ (c : Int32) (s : Int32 × Int32), c = nI (i + (Int32.toInt 9 + 1 - ((i : Nat) : Int)).toNat) -> s = itr (bd_X10_ripens_27 bT aG qG m_x gR qR nG oO pJ bL bY dO sW sH) a i (Int32.toInt 9 + 1 - ((i : Nat) : Int)).toNat -> (aIB (fun r_5 => aGu (fun r_6 => aRt (fun r_7 => ∀ v_8 : Int32, v_8 = r_5 &&& r_7 -> wp_X10_cover (fun r_9 => aDs (fun aDZ aHj => aBb (fun r_12 => aDs (fun bBI m_row_14 => P s.1 bBI bY dO m_row_14 sH) r_12 aDZ aHj) r_9) s.2 0 sW) v_8 aG sH) r_6 aG sH) aG) 0 bT qG) -> (aIB (fun r_5 => aGu (fun r_6 => aRt (fun r_7 => ∀ v_8 : Int32, v_8 = r_5 &&& r_7 -> wp_X10_cover (fun r_9 => aDs (fun aDZ aHj => aBb (fun r_12 => aDs (fun bBI m_row_14 => Q s.1 bBI bY dO m_row_14 sH) r_12 aDZ aHj) r_9) s.2 0 sW) v_8 aG sH) r_6 aG sH) aG) 0 bT qG)) : ∀ (n k : Nat) (c : Int32), c = nI (i + k) -> k <= (Int32.toInt 9 + 1 - ((i : Nat) : Int)).toNat -> wb_X10_ripens_27 P bT aG qG m_x gR qR nG oO pJ n (itr (bd_X10_ripens_27 bT aG qG m_x gR qR nG oO pJ bL bY dO sW sH) a i k).1 (itr (bd_X10_ripens_27 bT aG qG m_x gR qR nG oO pJ bL bY dO sW sH) a i k).2 c bL bY dO sW sH -> wb_X10_ripens_27 Q bT aG qG m_x gR qR nG oO pJ n (itr (bd_X10_ripens_27 bT aG qG m_x gR qR nG oO pJ bL bY dO sW sH) a i k).1 (itr (bd_X10_ripens_27 bT aG qG m_x gR qR nG oO pJ bL bY dO sW sH) a i k).2 c bL bY dO sW sH := by
  intro n
  induction n with
  | zero => intro k c hc hk h; exact False.elim h
  | succ n ih =>
    intro k c hc hk h
    have hr := aAT 9
    have hl9 : Int32.toInt 9 < 2147483647 := by decide
    have hi : Int32.toInt c = ((i + k : Nat) : Int) := by rw [hc]; exact nI_toInt (by omega)
    refine And.intro (fun t0 => ?_) (fun t0 => ?_)
    · have h := And.left h t0
      have t1 := (aAd _ _).mp t0
      have hk2 : k = (Int32.toInt 9 + 1 - ((i : Nat) : Int)).toNat := by omega
      subst hk2
      exact hE _ _ hc rfl h
    · have h := And.right h t0
      have t1 := mt (aAd _ _).mpr t0
      have hs : ∀ o : Int32 × Int32, o = itr (bd_X10_ripens_27 bT aG qG m_x gR qR nG oO pJ bL bY dO sW sH) a i (k + 1) -> wb_X10_ripens_27 P bT aG qG m_x gR qR nG oO pJ n o.1 o.2 (c + 1) bL bY dO sW sH -> wb_X10_ripens_27 Q bT aG qG m_x gR qR nG oO pJ n o.1 o.2 (c + 1) bL bY dO sW sH := by
        intro o eo h9
        have q := ih (k + 1) (c + 1) (by rw [hc]; exact nI_1 _) (by omega)
        rw [<- eo] at q
        exact q h9
      rw [itr_s, <- hc, bd_X10_ripens_27] at hs
      refine du_X10_firstRipe h ?_
      intro h
      refine du_J6_bitCount_0f7a4 h ?_
      intro h
      refine And.intro (fun c1 => ?_) (fun c1 => ?_)
      · have h := And.left h c1
        rw [if_pos c1] at hs
        rw [j_X10_ripens_57] at hs
        unfold ws_X10_ripens_57 at h ⊢
        refine ae ?_
        have h := h _ rfl
        have q9 := hs _ rfl
        dsimp only at q9
        exact q9 h
      · have h := And.right h c1
        rw [if_neg c1] at hs
        rw [j_X10_ripens_57] at hs
        unfold ws_X10_ripens_57 at h ⊢
        refine ae ?_
        have h := h _ rfl
        have q9 := hs _ rfl
        dsimp only at q9
        exact q9 h
noncomputable def F_X10_ripens (bT aG bL bY dO : Int32) (qG m_x gR qR nG oO pJ sW sH : Nat -> Int32) : Int32 × Int32 × Int32 × Int32 × (Nat -> Int32) × (Nat -> Int32) := ex_X10_ripens_27 (fun o0 o1 o2 o3 o4 o5 => (o0, o1, o2, o3, o4, o5)) bT aG qG m_x gR qR nG oO pJ bL 0 ((bBY bT aG dO qG m_x gR qR nG oO pJ sH).1) sW ((bBY bT aG dO qG m_x gR qR nG oO pJ sH).2) (nI ((Int32.toInt (qG (19 : Int32).toNatClampNeg)).toNat + (Int32.toInt 9 + 1 - (((Int32.toInt (qG (19 : Int32).toNatClampNeg)).toNat : Nat) : Int)).toNat)) (itr (bd_X10_ripens_27 bT aG qG m_x gR qR nG oO pJ bL 0 ((bBY bT aG dO qG m_x gR qR nG oO pJ sH).1) sW ((bBY bT aG dO qG m_x gR qR nG oO pJ sH).2)) ((-1), (qG (19 : Int32).toNatClampNeg)) (Int32.toInt (qG (19 : Int32).toNatClampNeg)).toNat (Int32.toInt 9 + 1 - (((Int32.toInt (qG (19 : Int32).toNatClampNeg)).toNat : Nat) : Int)).toNat)
set_option maxHeartbeats 200000 in
set_option maxRecDepth 10000 in
theorem dt_X10_ripens {P Q : Int32 -> Int32 -> Int32 -> Int32 -> (Nat -> Int32) -> (Nat -> Int32) -> Prop} {bT aG bL bY dO : Int32} {qG m_x gR qR nG oO pJ sW sH : Nat -> Int32} (hy0 : 0 <= Int32.toInt (qG (19 : Int32).toNatClampNeg)) (hy1 : Int32.toInt (F_X10_allStandings aG) < 2147483647) (h : wp_X10_ripens P bT aG bL bY dO qG m_x gR qR nG oO pJ sW sH) (hq : ∀ o : Int32 × Int32 × Int32 × Int32 × (Nat -> Int32) × (Nat -> Int32), o = F_X10_ripens bT aG bL bY dO qG m_x gR qR nG oO pJ sW sH -> P o.1 o.2.1 o.2.2.1 o.2.2.2.1 o.2.2.2.2.1 o.2.2.2.2.2 -> Q o.1 o.2.1 o.2.2.1 o.2.2.2.1 o.2.2.2.2.1 o.2.2.2.2.2) : wp_X10_ripens Q bT aG bL bY dO qG m_x gR qR nG oO pJ sW sH := by
  rw [F_X10_ripens] at hq
  refine du_X10_layHands h ?_
  intro h
  refine ae ?_
  have h := h _ rfl
  refine ae ?_
  have h := h _ rfl
  obtain ⟨n1, h⟩ := h
  refine ⟨n1, dl_X10_ripens_27 (a := ((-1), (qG (19 : Int32).toNatClampNeg))) (i := (Int32.toInt (qG (19 : Int32).toNatClampNeg)).toNat) (by have := aAT (qG (19 : Int32).toNatClampNeg); omega) ?_ n1 0 (qG (19 : Int32).toNatClampNeg) (tp_nI hy0) (Nat.zero_le _) h⟩
  intro cc2 s3 ec4 es5 h
  rw [<- ec4, <- es5, ex_X10_ripens_27] at hq
  refine du_X10_which h ?_
  intro h
  refine du_X10_allStandings h ?_
  intro h
  refine du_X10_handOf h ?_
  intro h
  refine ae ?_
  have h := h _ rfl
  refine du_X10_cover hy1 h ?_
  intro h
  refine du_X10_tell h ?_
  intro h
  refine du_J6_bitCount_0f7a4 h ?_
  intro h
  refine du_X10_tell h ?_
  intro h
  have q9 := hq _ rfl
  dsimp only at q9
  exact q9 h
theorem du_X10_ripens {P Q : Int32 -> Int32 -> Int32 -> Int32 -> (Nat -> Int32) -> (Nat -> Int32) -> Prop} {bT aG bL bY dO : Int32} {qG m_x gR qR nG oO pJ sW sH : Nat -> Int32} (hy0 : 0 <= Int32.toInt (qG (19 : Int32).toNatClampNeg)) (hy1 : Int32.toInt (F_X10_allStandings aG) < 2147483647) (h : wp_X10_ripens P bT aG bL bY dO qG m_x gR qR nG oO pJ sW sH) (hq : P (F_X10_ripens bT aG bL bY dO qG m_x gR qR nG oO pJ sW sH).1 (F_X10_ripens bT aG bL bY dO qG m_x gR qR nG oO pJ sW sH).2.1 (F_X10_ripens bT aG bL bY dO qG m_x gR qR nG oO pJ sW sH).2.2.1 (F_X10_ripens bT aG bL bY dO qG m_x gR qR nG oO pJ sW sH).2.2.2.1 (F_X10_ripens bT aG bL bY dO qG m_x gR qR nG oO pJ sW sH).2.2.2.2.1 (F_X10_ripens bT aG bL bY dO qG m_x gR qR nG oO pJ sW sH).2.2.2.2.2 -> Q (F_X10_ripens bT aG bL bY dO qG m_x gR qR nG oO pJ sW sH).1 (F_X10_ripens bT aG bL bY dO qG m_x gR qR nG oO pJ sW sH).2.1 (F_X10_ripens bT aG bL bY dO qG m_x gR qR nG oO pJ sW sH).2.2.1 (F_X10_ripens bT aG bL bY dO qG m_x gR qR nG oO pJ sW sH).2.2.2.1 (F_X10_ripens bT aG bL bY dO qG m_x gR qR nG oO pJ sW sH).2.2.2.2.1 (F_X10_ripens bT aG bL bY dO qG m_x gR qR nG oO pJ sW sH).2.2.2.2.2) : wp_X10_ripens Q bT aG bL bY dO qG m_x gR qR nG oO pJ sW sH := dt_X10_ripens hy0 hy1 h (fun o eo => by rw [eo]; exact hq)
theorem dw_X10_ripens {Q : Int32 -> Int32 -> Int32 -> Int32 -> (Nat -> Int32) -> (Nat -> Int32) -> Prop} {bT aG bL bY dO : Int32} {qG m_x gR qR nG oO pJ sW sH : Nat -> Int32} (hy0 : 0 <= Int32.toInt (qG (19 : Int32).toNatClampNeg)) (hy1 : Int32.toInt (F_X10_allStandings aG) < 2147483647) (h : wp_X10_ripens (fun o0 o1 o2 o3 o4 o5 => (o0, o1, o2, o3, o4, o5) = F_X10_ripens bT aG bL bY dO qG m_x gR qR nG oO pJ sW sH -> Q o0 o1 o2 o3 o4 o5) bT aG bL bY dO qG m_x gR qR nG oO pJ sW sH) : wp_X10_ripens Q bT aG bL bY dO qG m_x gR qR nG oO pJ sW sH := dt_X10_ripens hy0 hy1 h (fun o eo hp => hp eo)
noncomputable def F_X10_ondays (p0 bT aG bL bY dO : Int32) (qG m_x gR qR nG oO pJ sW sH : Nat -> Int32) : Int32 × Int32 × Int32 × Int32 × (Nat -> Int32) × (Nat -> Int32) := if (aUe p0 (qG (19 : Int32).toNatClampNeg) 9) = 0 then ((-1), bL, 0, dO, sW, sH) else ((F_X10_tellCover ((F_X10_firstRipe p0 bT qG qR) &&& (F_X10_handOf (F_X10_allStandings aG) aG (bBY bT aG dO qG m_x gR qR nG oO pJ sH).2)) aG bL sW (bBY bT aG dO qG m_x gR qR nG oO pJ sH).2).1, (F_X10_tellCover ((F_X10_firstRipe p0 bT qG qR) &&& (F_X10_handOf (F_X10_allStandings aG) aG (bBY bT aG dO qG m_x gR qR nG oO pJ sH).2)) aG bL sW (bBY bT aG dO qG m_x gR qR nG oO pJ sH).2).2.1, 0, (bBY bT aG dO qG m_x gR qR nG oO pJ sH).1, (F_X10_tellCover ((F_X10_firstRipe p0 bT qG qR) &&& (F_X10_handOf (F_X10_allStandings aG) aG (bBY bT aG dO qG m_x gR qR nG oO pJ sH).2)) aG bL sW (bBY bT aG dO qG m_x gR qR nG oO pJ sH).2).2.2, (bBY bT aG dO qG m_x gR qR nG oO pJ sH).2)
set_option maxHeartbeats 200000 in
set_option maxRecDepth 10000 in
theorem dt_X10_ondays {P Q : Int32 -> Int32 -> Int32 -> Int32 -> (Nat -> Int32) -> (Nat -> Int32) -> Prop} {p0 bT aG bL bY dO : Int32} {qG m_x gR qR nG oO pJ sW sH : Nat -> Int32} (hy0 : Int32.toInt (F_X10_allStandings aG) < 2147483647) (h : wp_X10_ondays P p0 bT aG bL bY dO qG m_x gR qR nG oO pJ sW sH) (hq : ∀ o : Int32 × Int32 × Int32 × Int32 × (Nat -> Int32) × (Nat -> Int32), o = F_X10_ondays p0 bT aG bL bY dO qG m_x gR qR nG oO pJ sW sH -> P o.1 o.2.1 o.2.2.1 o.2.2.2.1 o.2.2.2.2.1 o.2.2.2.2.2 -> Q o.1 o.2.1 o.2.2.1 o.2.2.2.1 o.2.2.2.2.1 o.2.2.2.2.2) : wp_X10_ondays Q p0 bT aG bL bY dO qG m_x gR qR nG oO pJ sW sH := by
  rw [F_X10_ondays] at hq
  refine ae ?_
  have h := h _ rfl
  refine du_X10_in h ?_
  intro h
  refine And.intro (fun c1 => ?_) (fun c1 => ?_)
  · have h := And.left h c1
    rw [if_neg c1] at hq
    refine du_X10_layHands h ?_
    intro h
    refine du_X10_firstRipe h ?_
    intro h
    refine du_X10_allStandings h ?_
    intro h
    refine du_X10_handOf h ?_
    intro h
    refine ae ?_
    have h := h _ rfl
    refine du_X10_tellCover hy0 h ?_
    intro h
    have q9 := hq _ rfl
    dsimp only at q9
    exact q9 h
  · have h := And.right h c1
    rw [if_pos c1] at hq
    have q9 := hq _ rfl
    dsimp only at q9
    exact q9 h
theorem du_X10_ondays {P Q : Int32 -> Int32 -> Int32 -> Int32 -> (Nat -> Int32) -> (Nat -> Int32) -> Prop} {p0 bT aG bL bY dO : Int32} {qG m_x gR qR nG oO pJ sW sH : Nat -> Int32} (hy0 : Int32.toInt (F_X10_allStandings aG) < 2147483647) (h : wp_X10_ondays P p0 bT aG bL bY dO qG m_x gR qR nG oO pJ sW sH) (hq : P (F_X10_ondays p0 bT aG bL bY dO qG m_x gR qR nG oO pJ sW sH).1 (F_X10_ondays p0 bT aG bL bY dO qG m_x gR qR nG oO pJ sW sH).2.1 (F_X10_ondays p0 bT aG bL bY dO qG m_x gR qR nG oO pJ sW sH).2.2.1 (F_X10_ondays p0 bT aG bL bY dO qG m_x gR qR nG oO pJ sW sH).2.2.2.1 (F_X10_ondays p0 bT aG bL bY dO qG m_x gR qR nG oO pJ sW sH).2.2.2.2.1 (F_X10_ondays p0 bT aG bL bY dO qG m_x gR qR nG oO pJ sW sH).2.2.2.2.2 -> Q (F_X10_ondays p0 bT aG bL bY dO qG m_x gR qR nG oO pJ sW sH).1 (F_X10_ondays p0 bT aG bL bY dO qG m_x gR qR nG oO pJ sW sH).2.1 (F_X10_ondays p0 bT aG bL bY dO qG m_x gR qR nG oO pJ sW sH).2.2.1 (F_X10_ondays p0 bT aG bL bY dO qG m_x gR qR nG oO pJ sW sH).2.2.2.1 (F_X10_ondays p0 bT aG bL bY dO qG m_x gR qR nG oO pJ sW sH).2.2.2.2.1 (F_X10_ondays p0 bT aG bL bY dO qG m_x gR qR nG oO pJ sW sH).2.2.2.2.2) : wp_X10_ondays Q p0 bT aG bL bY dO qG m_x gR qR nG oO pJ sW sH := dt_X10_ondays hy0 h (fun o eo => by rw [eo]; exact hq)
theorem dw_X10_ondays {Q : Int32 -> Int32 -> Int32 -> Int32 -> (Nat -> Int32) -> (Nat -> Int32) -> Prop} {p0 bT aG bL bY dO : Int32} {qG m_x gR qR nG oO pJ sW sH : Nat -> Int32} (hy0 : Int32.toInt (F_X10_allStandings aG) < 2147483647) (h : wp_X10_ondays (fun o0 o1 o2 o3 o4 o5 => (o0, o1, o2, o3, o4, o5) = F_X10_ondays p0 bT aG bL bY dO qG m_x gR qR nG oO pJ sW sH -> Q o0 o1 o2 o3 o4 o5) p0 bT aG bL bY dO qG m_x gR qR nG oO pJ sW sH) : wp_X10_ondays Q p0 bT aG bL bY dO qG m_x gR qR nG oO pJ sW sH := dt_X10_ondays hy0 h (fun o eo hp => hp eo)
noncomputable def bd_X10_lay_b4_2 (qG : Nat -> Int32) (x2 c : Int32) (s : (Nat -> Int32)) : (Nat -> Int32) := (upd s (x2 + c).toNatClampNeg (qG c.toNatClampNeg))
noncomputable def ex_X10_lay_b4_2 {R : Type} (po : (Nat -> Int32) -> R) (qG : Nat -> Int32) (x2 c : Int32) (s : (Nat -> Int32)) : R := po s
set_option maxHeartbeats 200000 in
set_option maxRecDepth 10000 in
theorem dl_X10_lay_b4_2 {P Q : (Nat -> Int32) -> Prop} {qG : Nat -> Int32} {x2 : Int32} {a : (Nat -> Int32)} {i : Nat} (hi0 : i < 2147483648) (hE : ∀ (c : Int32) (s : (Nat -> Int32)), c = nI (i + (Int32.toInt 21 - ((i : Nat) : Int)).toNat) -> s = itr (bd_X10_lay_b4_2 qG x2) a i (Int32.toInt 21 - ((i : Nat) : Int)).toNat -> (P s) -> (Q s)) : ∀ (n k : Nat) (c : Int32), c = nI (i + k) -> k <= (Int32.toInt 21 - ((i : Nat) : Int)).toNat -> wb_X10_lay_b4_2 P qG n x2 c (itr (bd_X10_lay_b4_2 qG x2) a i k) -> wb_X10_lay_b4_2 Q qG n x2 c (itr (bd_X10_lay_b4_2 qG x2) a i k) := by
  intro n
  induction n with
  | zero => intro k c hc hk h; exact False.elim h
  | succ n ih =>
    intro k c hc hk h
    have hr := aAT 21
    have hi : Int32.toInt c = ((i + k : Nat) : Int) := by rw [hc]; exact nI_toInt (by omega)
    refine And.intro (fun t0 => ?_) (fun t0 => ?_)
    · have h := And.left h t0
      have t1 := (aAO _ _).mp t0
      have hk2 : k = (Int32.toInt 21 - ((i : Nat) : Int)).toNat := by omega
      subst hk2
      exact hE _ _ hc rfl h
    · have h := And.right h t0
      have t1 := mt (aAO _ _).mpr t0
      have hs : ∀ o : (Nat -> Int32), o = itr (bd_X10_lay_b4_2 qG x2) a i (k + 1) -> wb_X10_lay_b4_2 P qG n x2 (c + 1) o -> wb_X10_lay_b4_2 Q qG n x2 (c + 1) o := by
        intro o eo h9
        have q := ih (k + 1) (c + 1) (by rw [hc]; exact nI_1 _) (by omega)
        rw [<- eo] at q
        exact q h9
      rw [itr_s, <- hc, bd_X10_lay_b4_2] at hs
      refine ae ?_
      have h := h _ rfl
      refine And.intro (And.left h) ?_
      have h := And.right h
      refine ae ?_
      have h := h _ rfl
      refine And.intro (And.left h) ?_
      have h := And.right h
      refine ae ?_
      have h := h _ rfl
      have q9 := hs _ rfl
      exact q9 h
noncomputable def F_X10_lay_b4 (p2 : Int32) (qG xD : Nat -> Int32) : (Nat -> Int32) := ex_X10_lay_b4_2 (fun o0 => o0) qG p2 (nI (0 + (Int32.toInt 21 - ((0 : Nat) : Int)).toNat)) (itr (bd_X10_lay_b4_2 qG p2) xD 0 (Int32.toInt 21 - ((0 : Nat) : Int)).toNat)
set_option maxHeartbeats 200000 in
set_option maxRecDepth 10000 in
theorem dt_X10_lay_b4 {P Q : (Nat -> Int32) -> Prop} {p2 : Int32} {qG xD : Nat -> Int32} (h : wp_X10_lay_b4 P p2 qG xD) (hq : ∀ o : (Nat -> Int32), o = F_X10_lay_b4 p2 qG xD -> P o -> Q o) : wp_X10_lay_b4 Q p2 qG xD := by
  rw [F_X10_lay_b4] at hq
  obtain ⟨n1, h⟩ := h
  refine ⟨n1, dl_X10_lay_b4_2 (a := xD) (i := 0) (by decide) ?_ n1 0 0 (by decide) (Nat.zero_le _) h⟩
  intro cc2 s3 ec4 es5 h
  rw [<- ec4, <- es5, ex_X10_lay_b4_2] at hq
  have q9 := hq _ rfl
  exact q9 h
theorem du_X10_lay_b4 {P Q : (Nat -> Int32) -> Prop} {p2 : Int32} {qG xD : Nat -> Int32} (h : wp_X10_lay_b4 P p2 qG xD) (hq : P (F_X10_lay_b4 p2 qG xD) -> Q (F_X10_lay_b4 p2 qG xD)) : wp_X10_lay_b4 Q p2 qG xD := dt_X10_lay_b4 h (fun o eo => by rw [eo]; exact hq)
theorem dw_X10_lay_b4 {Q : (Nat -> Int32) -> Prop} {p2 : Int32} {qG xD : Nat -> Int32} (h : wp_X10_lay_b4 (fun o0 => o0 = F_X10_lay_b4 p2 qG xD -> Q o0) p2 qG xD) : wp_X10_lay_b4 Q p2 qG xD := dt_X10_lay_b4 h (fun o eo hp => hp eo)
noncomputable def F_X10_keep (p0 bY oX : Int32) (qG xD vJ uI : Nat -> Int32) : Int32 × Int32 × (Nat -> Int32) × (Nat -> Int32) × (Nat -> Int32) := if (aUe p0 0 1) = 0 then (0, 0, xD, vJ, uI) else (1, 0, (F_X10_lay_b4 (21 * p0) qG xD), (upd vJ p0.toNatClampNeg (vp_nar .boolean 1)), (upd uI p0.toNatClampNeg oX))
set_option maxHeartbeats 200000 in
set_option maxRecDepth 10000 in
theorem dt_X10_keep {P Q : Int32 -> Int32 -> (Nat -> Int32) -> (Nat -> Int32) -> (Nat -> Int32) -> Prop} {p0 bY oX : Int32} {qG xD vJ uI : Nat -> Int32} (h : wp_X10_keep P p0 bY oX qG xD vJ uI) (hq : ∀ o : Int32 × Int32 × (Nat -> Int32) × (Nat -> Int32) × (Nat -> Int32), o = F_X10_keep p0 bY oX qG xD vJ uI -> P o.1 o.2.1 o.2.2.1 o.2.2.2.1 o.2.2.2.2 -> Q o.1 o.2.1 o.2.2.1 o.2.2.2.1 o.2.2.2.2) : wp_X10_keep Q p0 bY oX qG xD vJ uI := by
  rw [F_X10_keep] at hq
  refine du_X10_in h ?_
  intro h
  refine And.intro (fun c1 => ?_) (fun c1 => ?_)
  · have h := And.left h c1
    rw [if_neg c1] at hq
    refine And.intro (And.left h) ?_
    have h := And.right h
    refine And.intro (And.left h) ?_
    have h := And.right h
    refine ae ?_
    have h := h _ rfl
    refine du_X10_lay_b4 h ?_
    intro h
    have q9 := hq _ rfl
    dsimp only at q9
    exact q9 h
  · have h := And.right h c1
    rw [if_pos c1] at hq
    have q9 := hq _ rfl
    dsimp only at q9
    exact q9 h
theorem du_X10_keep {P Q : Int32 -> Int32 -> (Nat -> Int32) -> (Nat -> Int32) -> (Nat -> Int32) -> Prop} {p0 bY oX : Int32} {qG xD vJ uI : Nat -> Int32} (h : wp_X10_keep P p0 bY oX qG xD vJ uI) (hq : P (F_X10_keep p0 bY oX qG xD vJ uI).1 (F_X10_keep p0 bY oX qG xD vJ uI).2.1 (F_X10_keep p0 bY oX qG xD vJ uI).2.2.1 (F_X10_keep p0 bY oX qG xD vJ uI).2.2.2.1 (F_X10_keep p0 bY oX qG xD vJ uI).2.2.2.2 -> Q (F_X10_keep p0 bY oX qG xD vJ uI).1 (F_X10_keep p0 bY oX qG xD vJ uI).2.1 (F_X10_keep p0 bY oX qG xD vJ uI).2.2.1 (F_X10_keep p0 bY oX qG xD vJ uI).2.2.2.1 (F_X10_keep p0 bY oX qG xD vJ uI).2.2.2.2) : wp_X10_keep Q p0 bY oX qG xD vJ uI := dt_X10_keep h (fun o eo => by rw [eo]; exact hq)
theorem dw_X10_keep {Q : Int32 -> Int32 -> (Nat -> Int32) -> (Nat -> Int32) -> (Nat -> Int32) -> Prop} {p0 bY oX : Int32} {qG xD vJ uI : Nat -> Int32} (h : wp_X10_keep (fun o0 o1 o2 o3 o4 => (o0, o1, o2, o3, o4) = F_X10_keep p0 bY oX qG xD vJ uI -> Q o0 o1 o2 o3 o4) p0 bY oX qG xD vJ uI) : wp_X10_keep Q p0 bY oX qG xD vJ uI := dt_X10_keep h (fun o eo hp => hp eo)
noncomputable def bd_X10_again_40 (oX : Int32) (xD vJ uI : Nat -> Int32) (x1 bY bU c : Int32) (s : (Nat -> Int32)) : (Nat -> Int32) := (upd s c.toNatClampNeg (xD ((21 * x1) + c).toNatClampNeg))
noncomputable def ex_X10_again_40 {R : Type} (po : Int32 -> Int32 -> Int32 -> (Nat -> Int32) -> R) (oX : Int32) (xD vJ uI : Nat -> Int32) (x1 bY bU c : Int32) (s : (Nat -> Int32)) : R := po 1 bY 0 s
set_option maxHeartbeats 200000 in
set_option maxRecDepth 10000 in
theorem dl_X10_again_40 {P Q : Int32 -> Int32 -> Int32 -> (Nat -> Int32) -> Prop} {oX : Int32} {xD vJ uI : Nat -> Int32} {x1 bY bU : Int32} {a : (Nat -> Int32)} {i : Nat} (hi0 : i < 2147483648) (hE : ∀ (c : Int32) (s : (Nat -> Int32)), c = nI (i + (Int32.toInt 21 - ((i : Nat) : Int)).toNat) -> s = itr (bd_X10_again_40 oX xD vJ uI x1 bY bU) a i (Int32.toInt 21 - ((i : Nat) : Int)).toNat -> (P 1 bY 0 s) -> (Q 1 bY 0 s)) : ∀ (n k : Nat) (c : Int32), c = nI (i + k) -> k <= (Int32.toInt 21 - ((i : Nat) : Int)).toNat -> wb_X10_again_40 P oX xD vJ uI n x1 c bY bU (itr (bd_X10_again_40 oX xD vJ uI x1 bY bU) a i k) -> wb_X10_again_40 Q oX xD vJ uI n x1 c bY bU (itr (bd_X10_again_40 oX xD vJ uI x1 bY bU) a i k) := by
  intro n
  induction n with
  | zero => intro k c hc hk h; exact False.elim h
  | succ n ih =>
    intro k c hc hk h
    have hr := aAT 21
    have hi : Int32.toInt c = ((i + k : Nat) : Int) := by rw [hc]; exact nI_toInt (by omega)
    refine And.intro (fun t0 => ?_) (fun t0 => ?_)
    · have h := And.left h t0
      have t1 := (aAO _ _).mp t0
      have hk2 : k = (Int32.toInt 21 - ((i : Nat) : Int)).toNat := by omega
      subst hk2
      exact hE _ _ hc rfl h
    · have h := And.right h t0
      have t1 := mt (aAO _ _).mpr t0
      have hs : ∀ o : (Nat -> Int32), o = itr (bd_X10_again_40 oX xD vJ uI x1 bY bU) a i (k + 1) -> wb_X10_again_40 P oX xD vJ uI n x1 (c + 1) bY bU o -> wb_X10_again_40 Q oX xD vJ uI n x1 (c + 1) bY bU o := by
        intro o eo h9
        have q := ih (k + 1) (c + 1) (by rw [hc]; exact nI_1 _) (by omega)
        rw [<- eo] at q
        exact q h9
      rw [itr_s, <- hc, bd_X10_again_40] at hs
      refine ae ?_
      have h := h _ rfl
      refine ae ?_
      have h := h _ rfl
      refine And.intro (And.left h) ?_
      have h := And.right h
      refine ae ?_
      have h := h _ rfl
      refine And.intro (And.left h) ?_
      have h := And.right h
      refine ae ?_
      have h := h _ rfl
      have q9 := hs _ rfl
      exact q9 h
noncomputable def F_X10_again (p0 bY bU oX : Int32) (qG xD vJ uI : Nat -> Int32) : Int32 × Int32 × Int32 × (Nat -> Int32) := if (aUe p0 0 1) = 0 then (0, 0, bU, qG) else (if (vJ p0.toNatClampNeg) = 0 then (0, 0, bU, qG) else (if (uI p0.toNatClampNeg) = oX then (ex_X10_again_40 (fun o0 o1 o2 o3 => (o0, o1, o2, o3)) oX xD vJ uI p0 0 bU (nI (0 + (Int32.toInt 21 - ((0 : Nat) : Int)).toNat)) (itr (bd_X10_again_40 oX xD vJ uI p0 0 bU) qG 0 (Int32.toInt 21 - ((0 : Nat) : Int)).toNat)) else (0, 0, bU, qG)))
set_option maxHeartbeats 200000 in
set_option maxRecDepth 10000 in
theorem dt_X10_again {P Q : Int32 -> Int32 -> Int32 -> (Nat -> Int32) -> Prop} {p0 bY bU oX : Int32} {qG xD vJ uI : Nat -> Int32} (h : wp_X10_again P p0 bY bU oX qG xD vJ uI) (hq : ∀ o : Int32 × Int32 × Int32 × (Nat -> Int32), o = F_X10_again p0 bY bU oX qG xD vJ uI -> P o.1 o.2.1 o.2.2.1 o.2.2.2 -> Q o.1 o.2.1 o.2.2.1 o.2.2.2) : wp_X10_again Q p0 bY bU oX qG xD vJ uI := by
  rw [F_X10_again] at hq
  refine du_X10_in h ?_
  intro h
  refine And.intro (fun c1 => ?_) (fun c1 => ?_)
  · have h := And.left h c1
    rw [if_pos c1] at hq
    have q9 := hq _ rfl
    dsimp only at q9
    exact q9 h
  · have h := And.right h c1
    rw [if_neg c1] at hq
    refine And.intro (And.left h) ?_
    have h := And.right h
    refine And.intro (fun c2 => ?_) (fun c2 => ?_)
    · have h := And.left h c2
      rw [if_pos c2] at hq
      have q9 := hq _ rfl
      dsimp only at q9
      exact q9 h
    · have h := And.right h c2
      rw [if_neg c2] at hq
      refine And.intro (And.left h) ?_
      have h := And.right h
      refine ae ?_
      have h := h _ rfl
      refine And.intro (fun c3 => ?_) (fun c3 => ?_)
      · have h := And.left h c3
        rw [if_pos c3] at hq
        obtain ⟨n4, h⟩ := h
        refine ⟨n4, dl_X10_again_40 (a := qG) (i := 0) (by decide) ?_ n4 0 0 (by decide) (Nat.zero_le _) h⟩
        intro cc5 s6 ec7 es8 h
        rw [<- ec7, <- es8, ex_X10_again_40] at hq
        have q9 := hq _ rfl
        dsimp only at q9
        exact q9 h
      · have h := And.right h c3
        rw [if_neg c3] at hq
        have q9 := hq _ rfl
        dsimp only at q9
        exact q9 h
theorem du_X10_again {P Q : Int32 -> Int32 -> Int32 -> (Nat -> Int32) -> Prop} {p0 bY bU oX : Int32} {qG xD vJ uI : Nat -> Int32} (h : wp_X10_again P p0 bY bU oX qG xD vJ uI) (hq : P (F_X10_again p0 bY bU oX qG xD vJ uI).1 (F_X10_again p0 bY bU oX qG xD vJ uI).2.1 (F_X10_again p0 bY bU oX qG xD vJ uI).2.2.1 (F_X10_again p0 bY bU oX qG xD vJ uI).2.2.2 -> Q (F_X10_again p0 bY bU oX qG xD vJ uI).1 (F_X10_again p0 bY bU oX qG xD vJ uI).2.1 (F_X10_again p0 bY bU oX qG xD vJ uI).2.2.1 (F_X10_again p0 bY bU oX qG xD vJ uI).2.2.2) : wp_X10_again Q p0 bY bU oX qG xD vJ uI := dt_X10_again h (fun o eo => by rw [eo]; exact hq)
theorem dw_X10_again {Q : Int32 -> Int32 -> Int32 -> (Nat -> Int32) -> Prop} {p0 bY bU oX : Int32} {qG xD vJ uI : Nat -> Int32} (h : wp_X10_again (fun o0 o1 o2 o3 => (o0, o1, o2, o3) = F_X10_again p0 bY bU oX qG xD vJ uI -> Q o0 o1 o2 o3) p0 bY bU oX qG xD vJ uI) : wp_X10_again Q p0 bY bU oX qG xD vJ uI := dt_X10_again h (fun o eo hp => hp eo)
