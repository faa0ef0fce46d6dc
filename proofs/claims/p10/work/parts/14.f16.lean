noncomputable def ex_X10_workOf_36 {R : Type} (po : Int32 → Int32 → Int32 → Int32 → (Nat → Int32) → R) (m_fruits : Int32) (m_standings : Int32) (m_wanted : Int32) (m_now : Nat → Int32) (m_fork : Nat → Int32) (m_told : Nat → Int32) (m_hand : Nat → Int32) (m_moves : Nat → Int32) (m_handSeconds : Nat → Int32) (x1 : Int32) (m_workMoves : Int32) (m_workPicks : Int32) (m_workDowns : Int32) (c : Int32) (s : (Nat → Int32)) : R := ex_X10_workOf_57 po m_fruits m_standings m_wanted m_now m_fork m_told m_hand m_moves m_handSeconds x1 m_workMoves m_workDowns (nI (0 + (Int32.toInt m_fruits - ((0 : Nat) : Int)).toNat)) (itr (bd_X10_workOf_57 m_fruits m_standings m_wanted m_now m_fork m_told m_hand m_moves m_handSeconds x1 m_workMoves m_workDowns) (m_workPicks, s) 0 (Int32.toInt m_fruits - ((0 : Nat) : Int)).toNat)
set_option maxHeartbeats 200000 in
set_option maxRecDepth 10000 in
theorem dl_X10_workOf_36 {P Q : Int32 → Int32 → Int32 → Int32 → (Nat → Int32) → Prop} {m_fruits : Int32} {m_standings : Int32} {m_wanted : Int32} {m_now : Nat → Int32} {m_fork : Nat → Int32} {m_told : Nat → Int32} {m_hand : Nat → Int32} {m_moves : Nat → Int32} {m_handSeconds : Nat → Int32} {x1 : Int32} {m_workMoves : Int32} {m_workPicks : Int32} {m_workDowns : Int32} {a : (Nat → Int32)} {i : Nat} (hi0 : i < 2147483648) (hE : ∀ (c : Int32) (s : (Nat → Int32)), c = nI (i + (Int32.toInt 8 - ((i : Nat) : Int)).toNat) → s = itr (bd_X10_workOf_36 m_fruits m_standings m_wanted m_now m_fork m_told m_hand m_moves m_handSeconds x1 m_workMoves m_workPicks m_workDowns) a i (Int32.toInt 8 - ((i : Nat) : Int)).toNat → (∃ n : Nat, wb_X10_workOf_57 P m_fruits m_standings m_wanted m_now m_fork m_told m_hand m_moves m_handSeconds n x1 0 m_workMoves m_workPicks m_workDowns s) → (∃ n : Nat, wb_X10_workOf_57 Q m_fruits m_standings m_wanted m_now m_fork m_told m_hand m_moves m_handSeconds n x1 0 m_workMoves m_workPicks m_workDowns s)) : ∀ (n k : Nat) (c : Int32), c = nI (i + k) → k ≤ (Int32.toInt 8 - ((i : Nat) : Int)).toNat → wb_X10_workOf_36 P m_fruits m_standings m_wanted m_now m_fork m_told m_hand m_moves m_handSeconds n x1 c m_workMoves m_workPicks m_workDowns (itr (bd_X10_workOf_36 m_fruits m_standings m_wanted m_now m_fork m_told m_hand m_moves m_handSeconds x1 m_workMoves m_workPicks m_workDowns) a i k) → wb_X10_workOf_36 Q m_fruits m_standings m_wanted m_now m_fork m_told m_hand m_moves m_handSeconds n x1 c m_workMoves m_workPicks m_workDowns (itr (bd_X10_workOf_36 m_fruits m_standings m_wanted m_now m_fork m_told m_hand m_moves m_handSeconds x1 m_workMoves m_workPicks m_workDowns) a i k) := by
  intro n
  induction n with
  | zero => intro k c hc hk h; exact False.elim h
  | succ n ih =>
    intro k c hc hk h
    have hr := tp_r 8
    have hi : Int32.toInt c = ((i + k : Nat) : Int) := by rw [hc]; exact nI_toInt (by omega)
    refine And.intro (fun t0 => ?_) (fun t0 => ?_)
    · have h := And.left h t0
      have t1 := (fa_le _ _).mp t0
      have hk2 : k = (Int32.toInt 8 - ((i : Nat) : Int)).toNat := by omega
      subst hk2
      exact hE _ _ hc rfl h
    · have h := And.right h t0
      have t1 := mt (fa_le _ _).mpr t0
      have hs : ∀ o : (Nat → Int32), o = itr (bd_X10_workOf_36 m_fruits m_standings m_wanted m_now m_fork m_told m_hand m_moves m_handSeconds x1 m_workMoves m_workPicks m_workDowns) a i (k + 1) → wb_X10_workOf_36 P m_fruits m_standings m_wanted m_now m_fork m_told m_hand m_moves m_handSeconds n x1 (c + 1) m_workMoves m_workPicks m_workDowns o → wb_X10_workOf_36 Q m_fruits m_standings m_wanted m_now m_fork m_told m_hand m_moves m_handSeconds n x1 (c + 1) m_workMoves m_workPicks m_workDowns o := by
        intro o eo h9
        have q := ih (k + 1) (c + 1) (by rw [hc]; exact nI_1 _) (by omega)
        rw [← eo] at q
        exact q h9
      rw [itr_s, ← hc, bd_X10_workOf_36] at hs
      refine And.intro (And.left h) ?_
      have h := And.right h
      refine ae ?_
      have h := h _ rfl
      have q9 := hs _ rfl
      exact q9 h
noncomputable def F_X10_workOf (p0 : Int32) (m_fruits : Int32) (m_standings : Int32) (m_wanted : Int32) (m_workMoves : Int32) (m_workPicks : Int32) (m_workDowns : Int32) (m_now : Nat → Int32) (m_fork : Nat → Int32) (m_told : Nat → Int32) (m_hand : Nat → Int32) (m_moves : Nat → Int32) (m_handSeconds : Nat → Int32) (m_load : Nat → Int32) : Int32 × Int32 × Int32 × Int32 × (Nat → Int32) := ex_X10_workOf_36 (fun o0 o1 o2 o3 o4 => (o0, o1, o2, o3, o4)) m_fruits m_standings m_wanted m_now m_fork m_told m_hand m_moves m_handSeconds p0 (F_X10_leastMoves (F_X10_placeOf (m_now (17 : Int32).toNatClampNeg)) (F_X10_besides p0 m_now) m_moves) 0 0 (nI (0 + (Int32.toInt 8 - ((0 : Nat) : Int)).toNat)) (itr (bd_X10_workOf_36 m_fruits m_standings m_wanted m_now m_fork m_told m_hand m_moves m_handSeconds p0 (F_X10_leastMoves (F_X10_placeOf (m_now (17 : Int32).toNatClampNeg)) (F_X10_besides p0 m_now) m_moves) 0 0) m_load 0 (Int32.toInt 8 - ((0 : Nat) : Int)).toNat)
set_option maxHeartbeats 200000 in
set_option maxRecDepth 10000 in
theorem dt_X10_workOf {P Q : Int32 → Int32 → Int32 → Int32 → (Nat → Int32) → Prop} {p0 : Int32} {m_fruits : Int32} {m_standings : Int32} {m_wanted : Int32} {m_workMoves : Int32} {m_workPicks : Int32} {m_workDowns : Int32} {m_now : Nat → Int32} {m_fork : Nat → Int32} {m_told : Nat → Int32} {m_hand : Nat → Int32} {m_moves : Nat → Int32} {m_handSeconds : Nat → Int32} {m_load : Nat → Int32} (h : wp_X10_workOf P p0 m_fruits m_standings m_wanted m_workMoves m_workPicks m_workDowns m_now m_fork m_told m_hand m_moves m_handSeconds m_load) (hq : ∀ o : Int32 × Int32 × Int32 × Int32 × (Nat → Int32), o = F_X10_workOf p0 m_fruits m_standings m_wanted m_workMoves m_workPicks m_workDowns m_now m_fork m_told m_hand m_moves m_handSeconds m_load → P o.1 o.2.1 o.2.2.1 o.2.2.2.1 o.2.2.2.2 → Q o.1 o.2.1 o.2.2.1 o.2.2.2.1 o.2.2.2.2) : wp_X10_workOf Q p0 m_fruits m_standings m_wanted m_workMoves m_workPicks m_workDowns m_now m_fork m_told m_hand m_moves m_handSeconds m_load := by
  rw [F_X10_workOf] at hq
  refine ae ?_
  have h := h _ rfl
  refine du_X10_placeOf h ?_
  intro h
  refine du_X10_besides h ?_
  intro h
  refine du_X10_leastMoves h ?_
  intro h
  obtain ⟨n1, h⟩ := h
  refine ⟨n1, dl_X10_workOf_36 (a := m_load) (i := 0) (by decide) ?_ n1 0 0 (by decide) (Nat.zero_le _) h⟩
  intro cc2 s3 ec4 es5 h
  rw [← ec4, ← es5, ex_X10_workOf_36] at hq
  obtain ⟨n6, h⟩ := h
  refine ⟨n6, dl_X10_workOf_57 (a := (0, s3)) (i := 0) (by decide) ?_ n6 0 0 (by decide) (Nat.zero_le _) h⟩
  intro cc7 s8 ec9 es10 h
  rw [← ec9, ← es10, ex_X10_workOf_57] at hq
  obtain ⟨n11, h⟩ := h
  refine ⟨n11, dl_X10_workOf_202 (a := 0) (i := 0) (by decide) ?_ n11 0 0 (by decide) (Nat.zero_le _) h⟩
  intro cc12 s13 ec14 es15 h
  rw [← ec14, ← es15, ex_X10_workOf_202] at hq
  refine ae ?_
  have h := h _ rfl
  have q9 := hq _ rfl
  dsimp only at q9
  exact q9 h
theorem du_X10_workOf {P Q : Int32 → Int32 → Int32 → Int32 → (Nat → Int32) → Prop} {p0 : Int32} {m_fruits : Int32} {m_standings : Int32} {m_wanted : Int32} {m_workMoves : Int32} {m_workPicks : Int32} {m_workDowns : Int32} {m_now : Nat → Int32} {m_fork : Nat → Int32} {m_told : Nat → Int32} {m_hand : Nat → Int32} {m_moves : Nat → Int32} {m_handSeconds : Nat → Int32} {m_load : Nat → Int32} (h : wp_X10_workOf P p0 m_fruits m_standings m_wanted m_workMoves m_workPicks m_workDowns m_now m_fork m_told m_hand m_moves m_handSeconds m_load) (hq : P (F_X10_workOf p0 m_fruits m_standings m_wanted m_workMoves m_workPicks m_workDowns m_now m_fork m_told m_hand m_moves m_handSeconds m_load).1 (F_X10_workOf p0 m_fruits m_standings m_wanted m_workMoves m_workPicks m_workDowns m_now m_fork m_told m_hand m_moves m_handSeconds m_load).2.1 (F_X10_workOf p0 m_fruits m_standings m_wanted m_workMoves m_workPicks m_workDowns m_now m_fork m_told m_hand m_moves m_handSeconds m_load).2.2.1 (F_X10_workOf p0 m_fruits m_standings m_wanted m_workMoves m_workPicks m_workDowns m_now m_fork m_told m_hand m_moves m_handSeconds m_load).2.2.2.1 (F_X10_workOf p0 m_fruits m_standings m_wanted m_workMoves m_workPicks m_workDowns m_now m_fork m_told m_hand m_moves m_handSeconds m_load).2.2.2.2 → Q (F_X10_workOf p0 m_fruits m_standings m_wanted m_workMoves m_workPicks m_workDowns m_now m_fork m_told m_hand m_moves m_handSeconds m_load).1 (F_X10_workOf p0 m_fruits m_standings m_wanted m_workMoves m_workPicks m_workDowns m_now m_fork m_told m_hand m_moves m_handSeconds m_load).2.1 (F_X10_workOf p0 m_fruits m_standings m_wanted m_workMoves m_workPicks m_workDowns m_now m_fork m_told m_hand m_moves m_handSeconds m_load).2.2.1 (F_X10_workOf p0 m_fruits m_standings m_wanted m_workMoves m_workPicks m_workDowns m_now m_fork m_told m_hand m_moves m_handSeconds m_load).2.2.2.1 (F_X10_workOf p0 m_fruits m_standings m_wanted m_workMoves m_workPicks m_workDowns m_now m_fork m_told m_hand m_moves m_handSeconds m_load).2.2.2.2) : wp_X10_workOf Q p0 m_fruits m_standings m_wanted m_workMoves m_workPicks m_workDowns m_now m_fork m_told m_hand m_moves m_handSeconds m_load := dt_X10_workOf h (fun o eo => by rw [eo]; exact hq)
theorem dw_X10_workOf {Q : Int32 → Int32 → Int32 → Int32 → (Nat → Int32) → Prop} {p0 : Int32} {m_fruits : Int32} {m_standings : Int32} {m_wanted : Int32} {m_workMoves : Int32} {m_workPicks : Int32} {m_workDowns : Int32} {m_now : Nat → Int32} {m_fork : Nat → Int32} {m_told : Nat → Int32} {m_hand : Nat → Int32} {m_moves : Nat → Int32} {m_handSeconds : Nat → Int32} {m_load : Nat → Int32} (h : wp_X10_workOf (fun o0 o1 o2 o3 o4 => (o0, o1, o2, o3, o4) = F_X10_workOf p0 m_fruits m_standings m_wanted m_workMoves m_workPicks m_workDowns m_now m_fork m_told m_hand m_moves m_handSeconds m_load → Q o0 o1 o2 o3 o4) p0 m_fruits m_standings m_wanted m_workMoves m_workPicks m_workDowns m_now m_fork m_told m_hand m_moves m_handSeconds m_load) : wp_X10_workOf Q p0 m_fruits m_standings m_wanted m_workMoves m_workPicks m_workDowns m_now m_fork m_told m_hand m_moves m_handSeconds m_load := dt_X10_workOf h (fun o eo hp => hp eo)
noncomputable def j_X10_trips_85 {R : Type} (k65 : Int32 → Int32 → Int32 → Int32 → Int32 → Int32 → (Nat → Int32) → (Nat → Int32) → R) (m_fruits : Int32) (m_standings : Int32) (m_now : Nat → Int32) (m_x : Nat → Int32) (m_height : Nat → Int32) (m_ripe : Nat → Int32) (m_foot : Nat → Int32) (m_fork : Nat → Int32) (m_told : Nat → Int32) (x2 : Int32) (x3 : Int32) (x4 : Int32) (m_rowMany : Int32) (m_thrown : Int32) (m_wanted : Int32) (m_row : Nat → Int32) (m_hand : Nat → Int32) : R := k65 (x2 + 1) x3 (x4 + (-1)) m_rowMany m_thrown m_wanted m_row m_hand
noncomputable def fs_X10_trips_65 {R : Type} (po : Int32 → Int32 → Int32 → Int32 → (Nat → Int32) → (Nat → Int32) → R) (m_fruits : Int32) (m_standings : Int32) (m_now : Nat → Int32) (m_x : Nat → Int32) (m_height : Nat → Int32) (m_ripe : Nat → Int32) (m_foot : Nat → Int32) (m_fork : Nat → Int32) (m_told : Nat → Int32) (nx : Int32 → Int32 → Int32 → Int32 → Int32 → Int32 → (Nat → Int32) → (Nat → Int32) → R) (x2 : Int32) (x3 : Int32) (x4 : Int32) (m_rowMany : Int32) (m_thrown : Int32) (m_wanted : Int32) (m_row : Nat → Int32) (m_hand : Nat → Int32) : R := if x4 ≤ 0 then (po x3 ((F_X10_tell x2 0 m_row).1) m_thrown m_wanted ((F_X10_tell x2 0 m_row).2) m_hand) else (if x2 < (m_told (4 : Int32).toNatClampNeg) then (j_X10_trips_85 nx m_fruits m_standings m_now m_x m_height m_ripe m_foot m_fork m_told x2 x3 x4 m_rowMany m_thrown m_wanted m_row m_hand) else (j_X10_trips_85 nx m_fruits m_standings m_now m_x m_height m_ripe m_foot m_fork m_told 0 (x3 + 1) x4 m_rowMany m_thrown m_wanted m_row m_hand))
set_option maxHeartbeats 200000 in
set_option maxRecDepth 10000 in
theorem dl_X10_trips_65 {P Q : Int32 → Int32 → Int32 → Int32 → (Nat → Int32) → (Nat → Int32) → Prop} {m_fruits : Int32} {m_standings : Int32} {m_now : Nat → Int32} {m_x : Nat → Int32} {m_height : Nat → Int32} {m_ripe : Nat → Int32} {m_foot : Nat → Int32} {m_fork : Nat → Int32} {m_told : Nat → Int32} {R : Type} {po : Int32 → Int32 → Int32 → Int32 → (Nat → Int32) → (Nat → Int32) → R} {d : Int32 → Int32 → Int32 → Int32 → Int32 → Int32 → (Nat → Int32) → (Nat → Int32) → R} : ∀ (n m : Nat) (x2 : Int32) (x3 : Int32) (x4 : Int32) (m_rowMany : Int32) (m_thrown : Int32) (m_wanted : Int32) (m_row : Nat → Int32) (m_hand : Nat → Int32), True → (((Int32.toInt x4).toNat : Nat) : Int) < (m : Int) → wb_X10_trips_65 P m_fruits m_standings m_now m_x m_height m_ripe m_foot m_fork m_told n x2 x3 x4 m_rowMany m_thrown m_wanted m_row m_hand → (∀ (b0 : Int32) (b1 : Int32) (b2 : Int32) (b3 : Int32) (b4 : Nat → Int32) (b5 : Nat → Int32), po b0 b1 b2 b3 b4 b5 = flp (fs_X10_trips_65 po m_fruits m_standings m_now m_x m_height m_ripe m_foot m_fork m_told) d m x2 x3 x4 m_rowMany m_thrown m_wanted m_row m_hand → P b0 b1 b2 b3 b4 b5 → Q b0 b1 b2 b3 b4 b5) → wb_X10_trips_65 Q m_fruits m_standings m_now m_x m_height m_ripe m_foot m_fork m_told n x2 x3 x4 m_rowMany m_thrown m_wanted m_row m_hand := by
  have l0 : Int32.toInt (0 : Int32) = 0 := by decide
  intro n
  induction n with
  | zero => intro m x2 x3 x4 m_rowMany m_thrown m_wanted m_row m_hand hv hm h hq; exact False.elim h
  | succ n ih =>
    intro m x2 x3 x4 m_rowMany m_thrown m_wanted m_row m_hand hv hm h hq
    cases m with
    | zero => exfalso; omega
    | succ m =>
      rw [flp_s, fs_X10_trips_65] at hq
      have h : ws_X10_trips_65 P (wb_X10_trips_65 P m_fruits m_standings m_now m_x m_height m_ripe m_foot m_fork m_told n) m_fruits m_standings m_now m_x m_height m_ripe m_foot m_fork m_told x2 x3 x4 m_rowMany m_thrown m_wanted m_row m_hand := h
      show ws_X10_trips_65 Q (wb_X10_trips_65 Q m_fruits m_standings m_now m_x m_height m_ripe m_foot m_fork m_told n) m_fruits m_standings m_now m_x m_height m_ripe m_foot m_fork m_told x2 x3 x4 m_rowMany m_thrown m_wanted m_row m_hand
      unfold ws_X10_trips_65 at h ⊢
      refine And.intro (fun c1 => ?_) (fun c1 => ?_)
      · have h := And.left h c1
        rw [if_pos c1] at hq
        have dc1 := (fa_le _ _).mp c1
        refine du_X10_tell h ?_
        intro h
        exact hq _ _ _ _ _ _ rfl h
      · have h := And.right h c1
        rw [if_neg c1] at hq
        have dc1 := mt (fa_le _ _).mpr c1
        refine And.intro (fun c2 => ?_) (fun c2 => ?_)
        · have h := And.left h c2
          rw [if_pos c2] at hq
          have dc2 := (fa_lt _ _).mp c2
          rw [j_X10_trips_85] at hq
          unfold ws_X10_trips_85 at h ⊢
          refine ae ?_
          have h := h _ rfl
          refine ae ?_
          have h := h _ rfl
          have r9 := tp_r x4
          have l8 : Int32.toInt (-1 : Int32) = -1 := by decide
          have f9 := ta_add x4 (-1) (by omega)
          exact ih m _ _ _ _ _ _ _ _ trivial (by omega) h hq
        · have h := And.right h c2
          rw [if_neg c2] at hq
          have dc2 := mt (fa_lt _ _).mpr c2
          refine ae ?_
          have h := h _ rfl
          rw [j_X10_trips_85] at hq
          unfold ws_X10_trips_85 at h ⊢
          refine ae ?_
          have h := h _ rfl
          refine ae ?_
          have h := h _ rfl
          have r9 := tp_r x4
          have l8 : Int32.toInt (-1 : Int32) = -1 := by decide
          have f9 := ta_add x4 (-1) (by omega)
          exact ih m _ _ _ _ _ _ _ _ trivial (by omega) h hq
noncomputable def j_X10_trips_46 {R : Type} (po : Int32 → Int32 → Int32 → Int32 → (Nat → Int32) → (Nat → Int32) → R) (m_fruits : Int32) (m_standings : Int32) (m_now : Nat → Int32) (m_x : Nat → Int32) (m_height : Nat → Int32) (m_ripe : Nat → Int32) (m_foot : Nat → Int32) (m_fork : Nat → Int32) (m_told : Nat → Int32) (x1 : Int32) (k0 : Int32) (m_rowMany : Int32) (m_thrown : Int32) (m_wanted : Int32) (m_row : Nat → Int32) (m_hand : Nat → Int32) : R := flp (fs_X10_trips_65 po m_fruits m_standings m_now m_x m_height m_ripe m_foot m_fork m_told) (fun _ _ _ _ _ _ _ _ => po 0 0 0 0 (fun _ => 0) (fun _ => 0)) 64 k0 0 (F_J6_bitCount_0f7a4 (m_wanted &&& (m_hand x1.toNatClampNeg))) m_rowMany m_thrown m_wanted m_row m_hand
noncomputable def F_X10_trips (p0 : Int32) (m_fruits : Int32) (m_standings : Int32) (m_rowMany : Int32) (m_thrown : Int32) (m_wanted : Int32) (m_now : Nat → Int32) (m_x : Nat → Int32) (m_height : Nat → Int32) (m_ripe : Nat → Int32) (m_foot : Nat → Int32) (m_fork : Nat → Int32) (m_told : Nat → Int32) (m_row : Nat → Int32) (m_hand : Nat → Int32) : Int32 × Int32 × Int32 × Int32 × (Nat → Int32) × (Nat → Int32) := if (F_X10_isStanding p0 m_standings) = 0 then ((-1), m_rowMany, 0, m_wanted, m_row, m_hand) else (if (m_now (17 : Int32).toNatClampNeg) = p0 then (j_X10_trips_46 (fun o0 o1 o2 o3 o4 o5 => (o0, o1, o2, o3, o4, o5)) m_fruits m_standings m_now m_x m_height m_ripe m_foot m_fork m_told p0 (F_J6_bitCount_0f7a4 (F_X10_which 1 m_fruits m_now)) m_rowMany 0 ((F_X10_layHands m_fruits m_standings m_wanted m_now m_x m_height m_ripe m_foot m_fork m_told m_hand).1) m_row ((F_X10_layHands m_fruits m_standings m_wanted m_now m_x m_height m_ripe m_foot m_fork m_told m_hand).2)) else (j_X10_trips_46 (fun o0 o1 o2 o3 o4 o5 => (o0, o1, o2, o3, o4, o5)) m_fruits m_standings m_now m_x m_height m_ripe m_foot m_fork m_told p0 0 m_rowMany 0 ((F_X10_layHands m_fruits m_standings m_wanted m_now m_x m_height m_ripe m_foot m_fork m_told m_hand).1) m_row ((F_X10_layHands m_fruits m_standings m_wanted m_now m_x m_height m_ripe m_foot m_fork m_told m_hand).2)))
set_option maxHeartbeats 200000 in
set_option maxRecDepth 10000 in
theorem dt_X10_trips {P Q : Int32 → Int32 → Int32 → Int32 → (Nat → Int32) → (Nat → Int32) → Prop} {p0 : Int32} {m_fruits : Int32} {m_standings : Int32} {m_rowMany : Int32} {m_thrown : Int32} {m_wanted : Int32} {m_now : Nat → Int32} {m_x : Nat → Int32} {m_height : Nat → Int32} {m_ripe : Nat → Int32} {m_foot : Nat → Int32} {m_fork : Nat → Int32} {m_told : Nat → Int32} {m_row : Nat → Int32} {m_hand : Nat → Int32} (h : wp_X10_trips P p0 m_fruits m_standings m_rowMany m_thrown m_wanted m_now m_x m_height m_ripe m_foot m_fork m_told m_row m_hand) (hq : ∀ o : Int32 × Int32 × Int32 × Int32 × (Nat → Int32) × (Nat → Int32), o = F_X10_trips p0 m_fruits m_standings m_rowMany m_thrown m_wanted m_now m_x m_height m_ripe m_foot m_fork m_told m_row m_hand → P o.1 o.2.1 o.2.2.1 o.2.2.2.1 o.2.2.2.2.1 o.2.2.2.2.2 → Q o.1 o.2.1 o.2.2.1 o.2.2.2.1 o.2.2.2.2.1 o.2.2.2.2.2) : wp_X10_trips Q p0 m_fruits m_standings m_rowMany m_thrown m_wanted m_now m_x m_height m_ripe m_foot m_fork m_told m_row m_hand := by
  rw [F_X10_trips] at hq
  refine du_X10_isStanding h ?_
  intro h
  refine And.intro (fun c1 => ?_) (fun c1 => ?_)
  · have h := And.left h c1
    rw [if_neg c1] at hq
    refine du_X10_layHands h ?_
    intro h
    refine ae ?_
    have h := h _ rfl
    refine And.intro (fun c2 => ?_) (fun c2 => ?_)
    · have h := And.left h c2
      rw [if_neg c2] at hq
      rw [j_X10_trips_46] at hq
      unfold ws_X10_trips_46 at h ⊢
      refine And.intro (And.left h) ?_
      have h := And.right h
      refine ae ?_
      have h := h _ rfl
      refine du_J6_bitCount_0f7a4 h ?_
      intro h
      obtain ⟨n3, h⟩ := h
      exact ⟨n3, dl_X10_trips_65 n3 64 _ _ _ _ _ _ _ _ trivial (bc63 _) h (fun b0 b1 b2 b3 b4 b5 e9 h9 => hq (b0, b1, b2, b3, b4, b5) e9 h9)⟩
    · have h := And.right h c2
      rw [if_pos c2] at hq
      refine du_X10_which h ?_
      intro h
      refine du_J6_bitCount_0f7a4 h ?_
      intro h
      rw [j_X10_trips_46] at hq
      unfold ws_X10_trips_46 at h ⊢
      refine And.intro (And.left h) ?_
      have h := And.right h
      refine ae ?_
      have h := h _ rfl
      refine du_J6_bitCount_0f7a4 h ?_
      intro h
      obtain ⟨n4, h⟩ := h
      exact ⟨n4, dl_X10_trips_65 n4 64 _ _ _ _ _ _ _ _ trivial (bc63 _) h (fun b0 b1 b2 b3 b4 b5 e9 h9 => hq (b0, b1, b2, b3, b4, b5) e9 h9)⟩
  · have h := And.right h c1
    rw [if_pos c1] at hq
    have q9 := hq _ rfl
    dsimp only at q9
    exact q9 h
theorem du_X10_trips {P Q : Int32 → Int32 → Int32 → Int32 → (Nat → Int32) → (Nat → Int32) → Prop} {p0 : Int32} {m_fruits : Int32} {m_standings : Int32} {m_rowMany : Int32} {m_thrown : Int32} {m_wanted : Int32} {m_now : Nat → Int32} {m_x : Nat → Int32} {m_height : Nat → Int32} {m_ripe : Nat → Int32} {m_foot : Nat → Int32} {m_fork : Nat → Int32} {m_told : Nat → Int32} {m_row : Nat → Int32} {m_hand : Nat → Int32} (h : wp_X10_trips P p0 m_fruits m_standings m_rowMany m_thrown m_wanted m_now m_x m_height m_ripe m_foot m_fork m_told m_row m_hand) (hq : P (F_X10_trips p0 m_fruits m_standings m_rowMany m_thrown m_wanted m_now m_x m_height m_ripe m_foot m_fork m_told m_row m_hand).1 (F_X10_trips p0 m_fruits m_standings m_rowMany m_thrown m_wanted m_now m_x m_height m_ripe m_foot m_fork m_told m_row m_hand).2.1 (F_X10_trips p0 m_fruits m_standings m_rowMany m_thrown m_wanted m_now m_x m_height m_ripe m_foot m_fork m_told m_row m_hand).2.2.1 (F_X10_trips p0 m_fruits m_standings m_rowMany m_thrown m_wanted m_now m_x m_height m_ripe m_foot m_fork m_told m_row m_hand).2.2.2.1 (F_X10_trips p0 m_fruits m_standings m_rowMany m_thrown m_wanted m_now m_x m_height m_ripe m_foot m_fork m_told m_row m_hand).2.2.2.2.1 (F_X10_trips p0 m_fruits m_standings m_rowMany m_thrown m_wanted m_now m_x m_height m_ripe m_foot m_fork m_told m_row m_hand).2.2.2.2.2 → Q (F_X10_trips p0 m_fruits m_standings m_rowMany m_thrown m_wanted m_now m_x m_height m_ripe m_foot m_fork m_told m_row m_hand).1 (F_X10_trips p0 m_fruits m_standings m_rowMany m_thrown m_wanted m_now m_x m_height m_ripe m_foot m_fork m_told m_row m_hand).2.1 (F_X10_trips p0 m_fruits m_standings m_rowMany m_thrown m_wanted m_now m_x m_height m_ripe m_foot m_fork m_told m_row m_hand).2.2.1 (F_X10_trips p0 m_fruits m_standings m_rowMany m_thrown m_wanted m_now m_x m_height m_ripe m_foot m_fork m_told m_row m_hand).2.2.2.1 (F_X10_trips p0 m_fruits m_standings m_rowMany m_thrown m_wanted m_now m_x m_height m_ripe m_foot m_fork m_told m_row m_hand).2.2.2.2.1 (F_X10_trips p0 m_fruits m_standings m_rowMany m_thrown m_wanted m_now m_x m_height m_ripe m_foot m_fork m_told m_row m_hand).2.2.2.2.2) : wp_X10_trips Q p0 m_fruits m_standings m_rowMany m_thrown m_wanted m_now m_x m_height m_ripe m_foot m_fork m_told m_row m_hand := dt_X10_trips h (fun o eo => by rw [eo]; exact hq)
theorem dw_X10_trips {Q : Int32 → Int32 → Int32 → Int32 → (Nat → Int32) → (Nat → Int32) → Prop} {p0 : Int32} {m_fruits : Int32} {m_standings : Int32} {m_rowMany : Int32} {m_thrown : Int32} {m_wanted : Int32} {m_now : Nat → Int32} {m_x : Nat → Int32} {m_height : Nat → Int32} {m_ripe : Nat → Int32} {m_foot : Nat → Int32} {m_fork : Nat → Int32} {m_told : Nat → Int32} {m_row : Nat → Int32} {m_hand : Nat → Int32} (h : wp_X10_trips (fun o0 o1 o2 o3 o4 o5 => (o0, o1, o2, o3, o4, o5) = F_X10_trips p0 m_fruits m_standings m_rowMany m_thrown m_wanted m_now m_x m_height m_ripe m_foot m_fork m_told m_row m_hand → Q o0 o1 o2 o3 o4 o5) p0 m_fruits m_standings m_rowMany m_thrown m_wanted m_now m_x m_height m_ripe m_foot m_fork m_told m_row m_hand) : wp_X10_trips Q p0 m_fruits m_standings m_rowMany m_thrown m_wanted m_now m_x m_height m_ripe m_foot m_fork m_told m_row m_hand := dt_X10_trips h (fun o eo hp => hp eo)
noncomputable def F_X10_helps (m_fruits : Int32) (m_standings : Int32) (m_rowMany : Int32) (m_thrown : Int32) (m_wanted : Int32) (m_now : Nat → Int32) (m_x : Nat → Int32) (m_height : Nat → Int32) (m_ripe : Nat → Int32) (m_foot : Nat → Int32) (m_fork : Nat → Int32) (m_told : Nat → Int32) (m_row : Nat → Int32) (m_hand : Nat → Int32) : Int32 × Int32 × Int32 × Int32 × (Nat → Int32) × (Nat → Int32) := (((F_J6_bitCount_0f7a4 (F_X10_cover (F_X10_layHands_ 0 m_fruits m_standings m_wanted m_now m_x m_height m_ripe m_foot m_fork m_told m_hand).1 m_standings (F_X10_layHands_ 0 m_fruits m_standings m_wanted m_now m_x m_height m_ripe m_foot m_fork m_told m_hand).2)) - (F_J6_bitCount_0f7a4 (F_X10_cover (F_X10_layHands_ 1 m_fruits m_standings (F_X10_layHands_ 0 m_fruits m_standings m_wanted m_now m_x m_height m_ripe m_foot m_fork m_told m_hand).1 m_now m_x m_height m_ripe m_foot m_fork m_told (F_X10_layHands_ 0 m_fruits m_standings m_wanted m_now m_x m_height m_ripe m_foot m_fork m_told m_hand).2).1 m_standings (F_X10_layHands_ 1 m_fruits m_standings (F_X10_layHands_ 0 m_fruits m_standings m_wanted m_now m_x m_height m_ripe m_foot m_fork m_told m_hand).1 m_now m_x m_height m_ripe m_foot m_fork m_told (F_X10_layHands_ 0 m_fruits m_standings m_wanted m_now m_x m_height m_ripe m_foot m_fork m_told m_hand).2).2))), (F_X10_tell (F_J6_bitCount_0f7a4 (F_X10_layHands_ 1 m_fruits m_standings (F_X10_layHands_ 0 m_fruits m_standings m_wanted m_now m_x m_height m_ripe m_foot m_fork m_told m_hand).1 m_now m_x m_height m_ripe m_foot m_fork m_told (F_X10_layHands_ 0 m_fruits m_standings m_wanted m_now m_x m_height m_ripe m_foot m_fork m_told m_hand).2).1) (F_X10_tell (F_J6_bitCount_0f7a4 (F_X10_layHands_ 0 m_fruits m_standings m_wanted m_now m_x m_height m_ripe m_foot m_fork m_told m_hand).1) 0 m_row).1 (F_X10_tell (F_J6_bitCount_0f7a4 (F_X10_layHands_ 0 m_fruits m_standings m_wanted m_now m_x m_height m_ripe m_foot m_fork m_told m_hand).1) 0 m_row).2).1, 0, (F_X10_layHands_ 1 m_fruits m_standings (F_X10_layHands_ 0 m_fruits m_standings m_wanted m_now m_x m_height m_ripe m_foot m_fork m_told m_hand).1 m_now m_x m_height m_ripe m_foot m_fork m_told (F_X10_layHands_ 0 m_fruits m_standings m_wanted m_now m_x m_height m_ripe m_foot m_fork m_told m_hand).2).1, (F_X10_tell (F_J6_bitCount_0f7a4 (F_X10_layHands_ 1 m_fruits m_standings (F_X10_layHands_ 0 m_fruits m_standings m_wanted m_now m_x m_height m_ripe m_foot m_fork m_told m_hand).1 m_now m_x m_height m_ripe m_foot m_fork m_told (F_X10_layHands_ 0 m_fruits m_standings m_wanted m_now m_x m_height m_ripe m_foot m_fork m_told m_hand).2).1) (F_X10_tell (F_J6_bitCount_0f7a4 (F_X10_layHands_ 0 m_fruits m_standings m_wanted m_now m_x m_height m_ripe m_foot m_fork m_told m_hand).1) 0 m_row).1 (F_X10_tell (F_J6_bitCount_0f7a4 (F_X10_layHands_ 0 m_fruits m_standings m_wanted m_now m_x m_height m_ripe m_foot m_fork m_told m_hand).1) 0 m_row).2).2, (F_X10_layHands_ 1 m_fruits m_standings (F_X10_layHands_ 0 m_fruits m_standings m_wanted m_now m_x m_height m_ripe m_foot m_fork m_told m_hand).1 m_now m_x m_height m_ripe m_foot m_fork m_told (F_X10_layHands_ 0 m_fruits m_standings m_wanted m_now m_x m_height m_ripe m_foot m_fork m_told m_hand).2).2)
set_option maxHeartbeats 200000 in
set_option maxRecDepth 10000 in
theorem dt_X10_helps {P Q : Int32 → Int32 → Int32 → Int32 → (Nat → Int32) → (Nat → Int32) → Prop} {m_fruits : Int32} {m_standings : Int32} {m_rowMany : Int32} {m_thrown : Int32} {m_wanted : Int32} {m_now : Nat → Int32} {m_x : Nat → Int32} {m_height : Nat → Int32} {m_ripe : Nat → Int32} {m_foot : Nat → Int32} {m_fork : Nat → Int32} {m_told : Nat → Int32} {m_row : Nat → Int32} {m_hand : Nat → Int32} (hy0 : Int32.toInt (F_X10_allStandings m_standings) < 2147483647) (h : wp_X10_helps P m_fruits m_standings m_rowMany m_thrown m_wanted m_now m_x m_height m_ripe m_foot m_fork m_told m_row m_hand) (hq : ∀ o : Int32 × Int32 × Int32 × Int32 × (Nat → Int32) × (Nat → Int32), o = F_X10_helps m_fruits m_standings m_rowMany m_thrown m_wanted m_now m_x m_height m_ripe m_foot m_fork m_told m_row m_hand → P o.1 o.2.1 o.2.2.1 o.2.2.2.1 o.2.2.2.2.1 o.2.2.2.2.2 → Q o.1 o.2.1 o.2.2.1 o.2.2.2.1 o.2.2.2.2.1 o.2.2.2.2.2) : wp_X10_helps Q m_fruits m_standings m_rowMany m_thrown m_wanted m_now m_x m_height m_ripe m_foot m_fork m_told m_row m_hand := by
  rw [F_X10_helps] at hq
  refine du_X10_layHands_ h ?_
  intro h
  refine du_X10_cover hy0 h ?_
  intro h
  refine du_J6_bitCount_0f7a4 h ?_
  intro h
  refine du_J6_bitCount_0f7a4 h ?_
  intro h
  refine du_X10_layHands_ h ?_
  intro h
  refine du_X10_cover hy0 h ?_
  intro h
  refine du_J6_bitCount_0f7a4 h ?_
  intro h
  refine du_X10_tell h ?_
  intro h
  refine du_J6_bitCount_0f7a4 h ?_
  intro h
  refine du_X10_tell h ?_
  intro h
  have q9 := hq _ rfl
  dsimp only at q9
  exact q9 h
theorem du_X10_helps {P Q : Int32 → Int32 → Int32 → Int32 → (Nat → Int32) → (Nat → Int32) → Prop} {m_fruits : Int32} {m_standings : Int32} {m_rowMany : Int32} {m_thrown : Int32} {m_wanted : Int32} {m_now : Nat → Int32} {m_x : Nat → Int32} {m_height : Nat → Int32} {m_ripe : Nat → Int32} {m_foot : Nat → Int32} {m_fork : Nat → Int32} {m_told : Nat → Int32} {m_row : Nat → Int32} {m_hand : Nat → Int32} (hy0 : Int32.toInt (F_X10_allStandings m_standings) < 2147483647) (h : wp_X10_helps P m_fruits m_standings m_rowMany m_thrown m_wanted m_now m_x m_height m_ripe m_foot m_fork m_told m_row m_hand) (hq : P (F_X10_helps m_fruits m_standings m_rowMany m_thrown m_wanted m_now m_x m_height m_ripe m_foot m_fork m_told m_row m_hand).1 (F_X10_helps m_fruits m_standings m_rowMany m_thrown m_wanted m_now m_x m_height m_ripe m_foot m_fork m_told m_row m_hand).2.1 (F_X10_helps m_fruits m_standings m_rowMany m_thrown m_wanted m_now m_x m_height m_ripe m_foot m_fork m_told m_row m_hand).2.2.1 (F_X10_helps m_fruits m_standings m_rowMany m_thrown m_wanted m_now m_x m_height m_ripe m_foot m_fork m_told m_row m_hand).2.2.2.1 (F_X10_helps m_fruits m_standings m_rowMany m_thrown m_wanted m_now m_x m_height m_ripe m_foot m_fork m_told m_row m_hand).2.2.2.2.1 (F_X10_helps m_fruits m_standings m_rowMany m_thrown m_wanted m_now m_x m_height m_ripe m_foot m_fork m_told m_row m_hand).2.2.2.2.2 → Q (F_X10_helps m_fruits m_standings m_rowMany m_thrown m_wanted m_now m_x m_height m_ripe m_foot m_fork m_told m_row m_hand).1 (F_X10_helps m_fruits m_standings m_rowMany m_thrown m_wanted m_now m_x m_height m_ripe m_foot m_fork m_told m_row m_hand).2.1 (F_X10_helps m_fruits m_standings m_rowMany m_thrown m_wanted m_now m_x m_height m_ripe m_foot m_fork m_told m_row m_hand).2.2.1 (F_X10_helps m_fruits m_standings m_rowMany m_thrown m_wanted m_now m_x m_height m_ripe m_foot m_fork m_told m_row m_hand).2.2.2.1 (F_X10_helps m_fruits m_standings m_rowMany m_thrown m_wanted m_now m_x m_height m_ripe m_foot m_fork m_told m_row m_hand).2.2.2.2.1 (F_X10_helps m_fruits m_standings m_rowMany m_thrown m_wanted m_now m_x m_height m_ripe m_foot m_fork m_told m_row m_hand).2.2.2.2.2) : wp_X10_helps Q m_fruits m_standings m_rowMany m_thrown m_wanted m_now m_x m_height m_ripe m_foot m_fork m_told m_row m_hand := dt_X10_helps hy0 h (fun o eo => by rw [eo]; exact hq)
theorem dw_X10_helps {Q : Int32 → Int32 → Int32 → Int32 → (Nat → Int32) → (Nat → Int32) → Prop} {m_fruits : Int32} {m_standings : Int32} {m_rowMany : Int32} {m_thrown : Int32} {m_wanted : Int32} {m_now : Nat → Int32} {m_x : Nat → Int32} {m_height : Nat → Int32} {m_ripe : Nat → Int32} {m_foot : Nat → Int32} {m_fork : Nat → Int32} {m_told : Nat → Int32} {m_row : Nat → Int32} {m_hand : Nat → Int32} (hy0 : Int32.toInt (F_X10_allStandings m_standings) < 2147483647) (h : wp_X10_helps (fun o0 o1 o2 o3 o4 o5 => (o0, o1, o2, o3, o4, o5) = F_X10_helps m_fruits m_standings m_rowMany m_thrown m_wanted m_now m_x m_height m_ripe m_foot m_fork m_told m_row m_hand → Q o0 o1 o2 o3 o4 o5) m_fruits m_standings m_rowMany m_thrown m_wanted m_now m_x m_height m_ripe m_foot m_fork m_told m_row m_hand) : wp_X10_helps Q m_fruits m_standings m_rowMany m_thrown m_wanted m_now m_x m_height m_ripe m_foot m_fork m_told m_row m_hand := dt_X10_helps hy0 h (fun o eo hp => hp eo)
noncomputable def j_X10_hooked_107 {R : Type} (k52 : Int32 → Int32 → Int32 → Int32 → Int32 → Int32 → Int32 → Int32 → (Nat → Int32) → (Nat → Int32) → R) (m_fruits : Int32) (m_standings : Int32) (m_now : Nat → Int32) (m_x : Nat → Int32) (m_height : Nat → Int32) (m_ripe : Nat → Int32) (m_foot : Nat → Int32) (m_fork : Nat → Int32) (m_told : Nat → Int32) (x1 : Int32) (x2 : Int32) (x3 : Int32) (x4 : Int32) (x5 : Int32) (m_rowMany : Int32) (m_thrown : Int32) (m_wanted : Int32) (m_row : Nat → Int32) (m_hand : Nat → Int32) : R := k52 x1 x2 x3 x4 (x5 + 1) m_rowMany m_thrown m_wanted m_row m_hand
noncomputable def bd_X10_hooked_52 (m_fruits : Int32) (m_standings : Int32) (m_now : Nat → Int32) (m_x : Nat → Int32) (m_height : Nat → Int32) (m_ripe : Nat → Int32) (m_foot : Nat → Int32) (m_fork : Nat → Int32) (m_told : Nat → Int32) (x1 : Int32) (m_rowMany : Int32) (m_thrown : Int32) (m_wanted : Int32) (m_row : Nat → Int32) (m_hand : Nat → Int32) (c : Int32) (s : Int32 × Int32 × Int32) : Int32 × Int32 × Int32 := if s.2.2 < (F_J6_bitCount_0f7a4 (x1 &&& (F_X10_reachedFrom c (m_now (18 : Int32).toNatClampNeg) 1 m_fruits m_x m_height m_foot m_fork m_told))) then (j_X10_hooked_107 (fun q0 q1 q2 q3 q4 q5 q6 q7 q8 q9 => (q1, q2, q3)) m_fruits m_standings m_now m_x m_height m_ripe m_foot m_fork m_told x1 (s.1 ||| (x1 &&& (F_X10_reachedFrom c (m_now (18 : Int32).toNatClampNeg) 1 m_fruits m_x m_height m_foot m_fork m_told))) c (F_J6_bitCount_0f7a4 (x1 &&& (F_X10_reachedFrom c (m_now (18 : Int32).toNatClampNeg) 1 m_fruits m_x m_height m_foot m_fork m_told))) c m_rowMany m_thrown m_wanted m_row m_hand) else (j_X10_hooked_107 (fun q0 q1 q2 q3 q4 q5 q6 q7 q8 q9 => (q1, q2, q3)) m_fruits m_standings m_now m_x m_height m_ripe m_foot m_fork m_told x1 (s.1 ||| (x1 &&& (F_X10_reachedFrom c (m_now (18 : Int32).toNatClampNeg) 1 m_fruits m_x m_height m_foot m_fork m_told))) s.2.1 s.2.2 c m_rowMany m_thrown m_wanted m_row m_hand)
noncomputable def ex_X10_hooked_52 {R : Type} (po : Int32 → Int32 → Int32 → Int32 → (Nat → Int32) → (Nat → Int32) → R) (m_fruits : Int32) (m_standings : Int32) (m_now : Nat → Int32) (m_x : Nat → Int32) (m_height : Nat → Int32) (m_ripe : Nat → Int32) (m_foot : Nat → Int32) (m_fork : Nat → Int32) (m_told : Nat → Int32) (x1 : Int32) (m_rowMany : Int32) (m_thrown : Int32) (m_wanted : Int32) (m_row : Nat → Int32) (m_hand : Nat → Int32) (c : Int32) (s : Int32 × Int32 × Int32) : R := po s.1 ((F_X10_tell s.2.2 (F_X10_tell s.2.1 0 m_row).1 (F_X10_tell s.2.1 0 m_row).2).1) m_thrown m_wanted ((F_X10_tell s.2.2 (F_X10_tell s.2.1 0 m_row).1 (F_X10_tell s.2.1 0 m_row).2).2) m_hand
set_option maxHeartbeats 200000 in
set_option maxRecDepth 10000 in
theorem dl_X10_hooked_52 {P Q : Int32 → Int32 → Int32 → Int32 → (Nat → Int32) → (Nat → Int32) → Prop} {m_fruits : Int32} {m_standings : Int32} {m_now : Nat → Int32} {m_x : Nat → Int32} {m_height : Nat → Int32} {m_ripe : Nat → Int32} {m_foot : Nat → Int32} {m_fork : Nat → Int32} {m_told : Nat → Int32} {x1 : Int32} {m_rowMany : Int32} {m_thrown : Int32} {m_wanted : Int32} {m_row : Nat → Int32} {m_hand : Nat → Int32} {a : Int32 × Int32 × Int32} {i : Nat} (hi0 : i < 2147483648) (hE : ∀ (c : Int32) (s : Int32 × Int32 × Int32), c = nI (i + (Int32.toInt m_standings - ((i : Nat) : Int)).toNat) → s = itr (bd_X10_hooked_52 m_fruits m_standings m_now m_x m_height m_ripe m_foot m_fork m_told x1 m_rowMany m_thrown m_wanted m_row m_hand) a i (Int32.toInt m_standings - ((i : Nat) : Int)).toNat → (wp_X10_tell (fun m_rowMany_10 m_row_11 => wp_X10_tell (fun m_rowMany_12 m_row_13 => P s.1 m_rowMany_12 m_thrown m_wanted m_row_13 m_hand) s.2.2 m_rowMany_10 m_row_11) s.2.1 0 m_row) → (wp_X10_tell (fun m_rowMany_10 m_row_11 => wp_X10_tell (fun m_rowMany_12 m_row_13 => Q s.1 m_rowMany_12 m_thrown m_wanted m_row_13 m_hand) s.2.2 m_rowMany_10 m_row_11) s.2.1 0 m_row)) : ∀ (n k : Nat) (c : Int32), c = nI (i + k) → k ≤ (Int32.toInt m_standings - ((i : Nat) : Int)).toNat → wb_X10_hooked_52 P m_fruits m_standings m_now m_x m_height m_ripe m_foot m_fork m_told n x1 (itr (bd_X10_hooked_52 m_fruits m_standings m_now m_x m_height m_ripe m_foot m_fork m_told x1 m_rowMany m_thrown m_wanted m_row m_hand) a i k).1 (itr (bd_X10_hooked_52 m_fruits m_standings m_now m_x m_height m_ripe m_foot m_fork m_told x1 m_rowMany m_thrown m_wanted m_row m_hand) a i k).2.1 (itr (bd_X10_hooked_52 m_fruits m_standings m_now m_x m_height m_ripe m_foot m_fork m_told x1 m_rowMany m_thrown m_wanted m_row m_hand) a i k).2.2 c m_rowMany m_thrown m_wanted m_row m_hand → wb_X10_hooked_52 Q m_fruits m_standings m_now m_x m_height m_ripe m_foot m_fork m_told n x1 (itr (bd_X10_hooked_52 m_fruits m_standings m_now m_x m_height m_ripe m_foot m_fork m_told x1 m_rowMany m_thrown m_wanted m_row m_hand) a i k).1 (itr (bd_X10_hooked_52 m_fruits m_standings m_now m_x m_height m_ripe m_foot m_fork m_told x1 m_rowMany m_thrown m_wanted m_row m_hand) a i k).2.1 (itr (bd_X10_hooked_52 m_fruits m_standings m_now m_x m_height m_ripe m_foot m_fork m_told x1 m_rowMany m_thrown m_wanted m_row m_hand) a i k).2.2 c m_rowMany m_thrown m_wanted m_row m_hand := by
  intro n
  induction n with
  | zero => intro k c hc hk h; exact False.elim h
  | succ n ih =>
    intro k c hc hk h
    have hr := tp_r m_standings
    have hi : Int32.toInt c = ((i + k : Nat) : Int) := by rw [hc]; exact nI_toInt (by omega)
    refine And.intro (fun t0 => ?_) (fun t0 => ?_)
    · have h := And.left h t0
      have t1 := (fa_le _ _).mp t0
      have hk2 : k = (Int32.toInt m_standings - ((i : Nat) : Int)).toNat := by omega
      subst hk2
      exact hE _ _ hc rfl h
    · have h := And.right h t0
      have t1 := mt (fa_le _ _).mpr t0
      have hs : ∀ o : Int32 × Int32 × Int32, o = itr (bd_X10_hooked_52 m_fruits m_standings m_now m_x m_height m_ripe m_foot m_fork m_told x1 m_rowMany m_thrown m_wanted m_row m_hand) a i (k + 1) → wb_X10_hooked_52 P m_fruits m_standings m_now m_x m_height m_ripe m_foot m_fork m_told n x1 o.1 o.2.1 o.2.2 (c + 1) m_rowMany m_thrown m_wanted m_row m_hand → wb_X10_hooked_52 Q m_fruits m_standings m_now m_x m_height m_ripe m_foot m_fork m_told n x1 o.1 o.2.1 o.2.2 (c + 1) m_rowMany m_thrown m_wanted m_row m_hand := by
        intro o eo h9
        have q := ih (k + 1) (c + 1) (by rw [hc]; exact nI_1 _) (by omega)
        rw [← eo] at q
        exact q h9
      rw [itr_s, ← hc, bd_X10_hooked_52] at hs
      refine ae ?_
      have h := h _ rfl
      refine du_X10_reachedFrom h ?_
      intro h
      refine ae ?_
      have h := h _ rfl
      refine ae ?_
      have h := h _ rfl
      refine du_J6_bitCount_0f7a4 h ?_
      intro h
      refine And.intro (fun c1 => ?_) (fun c1 => ?_)
      · have h := And.left h c1
        rw [if_pos c1] at hs
        refine du_J6_bitCount_0f7a4 h ?_
        intro h
        rw [j_X10_hooked_107] at hs
        unfold ws_X10_hooked_107 at h ⊢
        refine ae ?_
        have h := h _ rfl
        have q9 := hs _ rfl
        dsimp only at q9
        exact q9 h
      · have h := And.right h c1
        rw [if_neg c1] at hs
        rw [j_X10_hooked_107] at hs
        unfold ws_X10_hooked_107 at h ⊢
        refine ae ?_
        have h := h _ rfl
        have q9 := hs _ rfl
        dsimp only at q9
        exact q9 h
noncomputable def F_X10_hooked (m_fruits : Int32) (m_standings : Int32) (m_rowMany : Int32) (m_thrown : Int32) (m_wanted : Int32) (m_now : Nat → Int32) (m_x : Nat → Int32) (m_height : Nat → Int32) (m_ripe : Nat → Int32) (m_foot : Nat → Int32) (m_fork : Nat → Int32) (m_told : Nat → Int32) (m_row : Nat → Int32) (m_hand : Nat → Int32) : Int32 × Int32 × Int32 × Int32 × (Nat → Int32) × (Nat → Int32) := ex_X10_hooked_52 (fun o0 o1 o2 o3 o4 o5 => (o0, o1, o2, o3, o4, o5)) m_fruits m_standings m_now m_x m_height m_ripe m_foot m_fork m_told (((F_X10_which 0 m_fruits m_now) &&& (F_X10_ripeOnes (m_now (19 : Int32).toNatClampNeg) m_fruits m_ripe)) &&& ((F_X10_handOf (F_X10_allStandings m_standings) m_standings (F_X10_layHands m_fruits m_standings m_wanted m_now m_x m_height m_ripe m_foot m_fork m_told m_hand).2) ^^^ (-1))) m_rowMany 0 ((F_X10_layHands m_fruits m_standings m_wanted m_now m_x m_height m_ripe m_foot m_fork m_told m_hand).1) m_row ((F_X10_layHands m_fruits m_standings m_wanted m_now m_x m_height m_ripe m_foot m_fork m_told m_hand).2) (nI (0 + (Int32.toInt m_standings - ((0 : Nat) : Int)).toNat)) (itr (bd_X10_hooked_52 m_fruits m_standings m_now m_x m_height m_ripe m_foot m_fork m_told (((F_X10_which 0 m_fruits m_now) &&& (F_X10_ripeOnes (m_now (19 : Int32).toNatClampNeg) m_fruits m_ripe)) &&& ((F_X10_handOf (F_X10_allStandings m_standings) m_standings (F_X10_layHands m_fruits m_standings m_wanted m_now m_x m_height m_ripe m_foot m_fork m_told m_hand).2) ^^^ (-1))) m_rowMany 0 ((F_X10_layHands m_fruits m_standings m_wanted m_now m_x m_height m_ripe m_foot m_fork m_told m_hand).1) m_row ((F_X10_layHands m_fruits m_standings m_wanted m_now m_x m_height m_ripe m_foot m_fork m_told m_hand).2)) (0, (-1), 0) 0 (Int32.toInt m_standings - ((0 : Nat) : Int)).toNat)
set_option maxHeartbeats 200000 in
set_option maxRecDepth 10000 in
theorem dt_X10_hooked {P Q : Int32 → Int32 → Int32 → Int32 → (Nat → Int32) → (Nat → Int32) → Prop} {m_fruits : Int32} {m_standings : Int32} {m_rowMany : Int32} {m_thrown : Int32} {m_wanted : Int32} {m_now : Nat → Int32} {m_x : Nat → Int32} {m_height : Nat → Int32} {m_ripe : Nat → Int32} {m_foot : Nat → Int32} {m_fork : Nat → Int32} {m_told : Nat → Int32} {m_row : Nat → Int32} {m_hand : Nat → Int32} (h : wp_X10_hooked P m_fruits m_standings m_rowMany m_thrown m_wanted m_now m_x m_height m_ripe m_foot m_fork m_told m_row m_hand) (hq : ∀ o : Int32 × Int32 × Int32 × Int32 × (Nat → Int32) × (Nat → Int32), o = F_X10_hooked m_fruits m_standings m_rowMany m_thrown m_wanted m_now m_x m_height m_ripe m_foot m_fork m_told m_row m_hand → P o.1 o.2.1 o.2.2.1 o.2.2.2.1 o.2.2.2.2.1 o.2.2.2.2.2 → Q o.1 o.2.1 o.2.2.1 o.2.2.2.1 o.2.2.2.2.1 o.2.2.2.2.2) : wp_X10_hooked Q m_fruits m_standings m_rowMany m_thrown m_wanted m_now m_x m_height m_ripe m_foot m_fork m_told m_row m_hand := by
  rw [F_X10_hooked] at hq
  refine du_X10_layHands h ?_
  intro h
  refine du_X10_which h ?_
  intro h
  refine ae ?_
  have h := h _ rfl
  refine du_X10_ripeOnes h ?_
  intro h
  refine ae ?_
  have h := h _ rfl
  refine du_X10_allStandings h ?_
  intro h
  refine du_X10_handOf h ?_
  intro h
  refine ae ?_
  have h := h _ rfl
  obtain ⟨n1, h⟩ := h
  refine ⟨n1, dl_X10_hooked_52 (a := (0, (-1), 0)) (i := 0) (by decide) ?_ n1 0 0 (by decide) (Nat.zero_le _) h⟩
  intro cc2 s3 ec4 es5 h
  rw [← ec4, ← es5, ex_X10_hooked_52] at hq
  refine du_X10_tell h ?_
  intro h
  refine du_X10_tell h ?_
  intro h
  have q9 := hq _ rfl
  dsimp only at q9
  exact q9 h
theorem du_X10_hooked {P Q : Int32 → Int32 → Int32 → Int32 → (Nat → Int32) → (Nat → Int32) → Prop} {m_fruits : Int32} {m_standings : Int32} {m_rowMany : Int32} {m_thrown : Int32} {m_wanted : Int32} {m_now : Nat → Int32} {m_x : Nat → Int32} {m_height : Nat → Int32} {m_ripe : Nat → Int32} {m_foot : Nat → Int32} {m_fork : Nat → Int32} {m_told : Nat → Int32} {m_row : Nat → Int32} {m_hand : Nat → Int32} (h : wp_X10_hooked P m_fruits m_standings m_rowMany m_thrown m_wanted m_now m_x m_height m_ripe m_foot m_fork m_told m_row m_hand) (hq : P (F_X10_hooked m_fruits m_standings m_rowMany m_thrown m_wanted m_now m_x m_height m_ripe m_foot m_fork m_told m_row m_hand).1 (F_X10_hooked m_fruits m_standings m_rowMany m_thrown m_wanted m_now m_x m_height m_ripe m_foot m_fork m_told m_row m_hand).2.1 (F_X10_hooked m_fruits m_standings m_rowMany m_thrown m_wanted m_now m_x m_height m_ripe m_foot m_fork m_told m_row m_hand).2.2.1 (F_X10_hooked m_fruits m_standings m_rowMany m_thrown m_wanted m_now m_x m_height m_ripe m_foot m_fork m_told m_row m_hand).2.2.2.1 (F_X10_hooked m_fruits m_standings m_rowMany m_thrown m_wanted m_now m_x m_height m_ripe m_foot m_fork m_told m_row m_hand).2.2.2.2.1 (F_X10_hooked m_fruits m_standings m_rowMany m_thrown m_wanted m_now m_x m_height m_ripe m_foot m_fork m_told m_row m_hand).2.2.2.2.2 → Q (F_X10_hooked m_fruits m_standings m_rowMany m_thrown m_wanted m_now m_x m_height m_ripe m_foot m_fork m_told m_row m_hand).1 (F_X10_hooked m_fruits m_standings m_rowMany m_thrown m_wanted m_now m_x m_height m_ripe m_foot m_fork m_told m_row m_hand).2.1 (F_X10_hooked m_fruits m_standings m_rowMany m_thrown m_wanted m_now m_x m_height m_ripe m_foot m_fork m_told m_row m_hand).2.2.1 (F_X10_hooked m_fruits m_standings m_rowMany m_thrown m_wanted m_now m_x m_height m_ripe m_foot m_fork m_told m_row m_hand).2.2.2.1 (F_X10_hooked m_fruits m_standings m_rowMany m_thrown m_wanted m_now m_x m_height m_ripe m_foot m_fork m_told m_row m_hand).2.2.2.2.1 (F_X10_hooked m_fruits m_standings m_rowMany m_thrown m_wanted m_now m_x m_height m_ripe m_foot m_fork m_told m_row m_hand).2.2.2.2.2) : wp_X10_hooked Q m_fruits m_standings m_rowMany m_thrown m_wanted m_now m_x m_height m_ripe m_foot m_fork m_told m_row m_hand := dt_X10_hooked h (fun o eo => by rw [eo]; exact hq)
theorem dw_X10_hooked {Q : Int32 → Int32 → Int32 → Int32 → (Nat → Int32) → (Nat → Int32) → Prop} {m_fruits : Int32} {m_standings : Int32} {m_rowMany : Int32} {m_thrown : Int32} {m_wanted : Int32} {m_now : Nat → Int32} {m_x : Nat → Int32} {m_height : Nat → Int32} {m_ripe : Nat → Int32} {m_foot : Nat → Int32} {m_fork : Nat → Int32} {m_told : Nat → Int32} {m_row : Nat → Int32} {m_hand : Nat → Int32} (h : wp_X10_hooked (fun o0 o1 o2 o3 o4 o5 => (o0, o1, o2, o3, o4, o5) = F_X10_hooked m_fruits m_standings m_rowMany m_thrown m_wanted m_now m_x m_height m_ripe m_foot m_fork m_told m_row m_hand → Q o0 o1 o2 o3 o4 o5) m_fruits m_standings m_rowMany m_thrown m_wanted m_now m_x m_height m_ripe m_foot m_fork m_told m_row m_hand) : wp_X10_hooked Q m_fruits m_standings m_rowMany m_thrown m_wanted m_now m_x m_height m_ripe m_foot m_fork m_told m_row m_hand := dt_X10_hooked h (fun o eo hp => hp eo)
noncomputable def F_X10_broken (p0 : Int32) (m_fruits : Int32) (m_standings : Int32) (m_rowMany : Int32) (m_thrown : Int32) (m_wanted : Int32) (m_now : Nat → Int32) (m_x : Nat → Int32) (m_height : Nat → Int32) (m_ripe : Nat → Int32) (m_foot : Nat → Int32) (m_fork : Nat → Int32) (m_told : Nat → Int32) (m_row : Nat → Int32) (m_hand : Nat → Int32) : Int32 × Int32 × Int32 × Int32 × (Nat → Int32) × (Nat → Int32) := if (F_X10_isStanding p0 m_standings) = 0 then ((-1), m_rowMany, 0, m_wanted, m_row, m_hand) else ((F_J6_bitCount_0f7a4 (F_X10_cover ((F_X10_layHands m_fruits m_standings m_wanted m_now m_x m_height m_ripe m_foot m_fork m_told m_hand).1 &&& (F_X10_handOf (F_X10_allStandings m_standings) m_standings (upd (F_X10_layHands m_fruits m_standings m_wanted m_now m_x m_height m_ripe m_foot m_fork m_told m_hand).2 p0.toNatClampNeg 0))) m_standings (upd (F_X10_layHands m_fruits m_standings m_wanted m_now m_x m_height m_ripe m_foot m_fork m_told m_hand).2 p0.toNatClampNeg 0))), (F_X10_tell ((F_X10_layHands m_fruits m_standings m_wanted m_now m_x m_height m_ripe m_foot m_fork m_told m_hand).1 &&& (((F_X10_layHands m_fruits m_standings m_wanted m_now m_x m_height m_ripe m_foot m_fork m_told m_hand).1 &&& (F_X10_handOf (F_X10_allStandings m_standings) m_standings (upd (F_X10_layHands m_fruits m_standings m_wanted m_now m_x m_height m_ripe m_foot m_fork m_told m_hand).2 p0.toNatClampNeg 0))) ^^^ (-1))) 0 m_row).1, 0, (F_X10_layHands m_fruits m_standings m_wanted m_now m_x m_height m_ripe m_foot m_fork m_told m_hand).1, (F_X10_tell ((F_X10_layHands m_fruits m_standings m_wanted m_now m_x m_height m_ripe m_foot m_fork m_told m_hand).1 &&& (((F_X10_layHands m_fruits m_standings m_wanted m_now m_x m_height m_ripe m_foot m_fork m_told m_hand).1 &&& (F_X10_handOf (F_X10_allStandings m_standings) m_standings (upd (F_X10_layHands m_fruits m_standings m_wanted m_now m_x m_height m_ripe m_foot m_fork m_told m_hand).2 p0.toNatClampNeg 0))) ^^^ (-1))) 0 m_row).2, (upd (F_X10_layHands m_fruits m_standings m_wanted m_now m_x m_height m_ripe m_foot m_fork m_told m_hand).2 p0.toNatClampNeg 0))
set_option maxHeartbeats 200000 in
set_option maxRecDepth 10000 in
theorem dt_X10_broken {P Q : Int32 → Int32 → Int32 → Int32 → (Nat → Int32) → (Nat → Int32) → Prop} {p0 : Int32} {m_fruits : Int32} {m_standings : Int32} {m_rowMany : Int32} {m_thrown : Int32} {m_wanted : Int32} {m_now : Nat → Int32} {m_x : Nat → Int32} {m_height : Nat → Int32} {m_ripe : Nat → Int32} {m_foot : Nat → Int32} {m_fork : Nat → Int32} {m_told : Nat → Int32} {m_row : Nat → Int32} {m_hand : Nat → Int32} (hy0 : Int32.toInt (F_X10_allStandings m_standings) < 2147483647) (h : wp_X10_broken P p0 m_fruits m_standings m_rowMany m_thrown m_wanted m_now m_x m_height m_ripe m_foot m_fork m_told m_row m_hand) (hq : ∀ o : Int32 × Int32 × Int32 × Int32 × (Nat → Int32) × (Nat → Int32), o = F_X10_broken p0 m_fruits m_standings m_rowMany m_thrown m_wanted m_now m_x m_height m_ripe m_foot m_fork m_told m_row m_hand → P o.1 o.2.1 o.2.2.1 o.2.2.2.1 o.2.2.2.2.1 o.2.2.2.2.2 → Q o.1 o.2.1 o.2.2.1 o.2.2.2.1 o.2.2.2.2.1 o.2.2.2.2.2) : wp_X10_broken Q p0 m_fruits m_standings m_rowMany m_thrown m_wanted m_now m_x m_height m_ripe m_foot m_fork m_told m_row m_hand := by
  rw [F_X10_broken] at hq
  refine du_X10_isStanding h ?_
  intro h
  refine And.intro (fun c1 => ?_) (fun c1 => ?_)
  · have h := And.left h c1
    rw [if_neg c1] at hq
    refine du_X10_layHands h ?_
    intro h
    refine And.intro (And.left h) ?_
    have h := And.right h
    refine du_X10_allStandings h ?_
    intro h
    refine du_X10_handOf h ?_
    intro h
    refine ae ?_
    have h := h _ rfl
    refine du_X10_cover hy0 h ?_
    intro h
    refine du_J6_bitCount_0f7a4 h ?_
    intro h
    refine ae ?_
    have h := h _ rfl
    refine du_X10_tell h ?_
    intro h
    have q9 := hq _ rfl
    dsimp only at q9
    exact q9 h
  · have h := And.right h c1
    rw [if_pos c1] at hq
    have q9 := hq _ rfl
    dsimp only at q9
    exact q9 h
theorem du_X10_broken {P Q : Int32 → Int32 → Int32 → Int32 → (Nat → Int32) → (Nat → Int32) → Prop} {p0 : Int32} {m_fruits : Int32} {m_standings : Int32} {m_rowMany : Int32} {m_thrown : Int32} {m_wanted : Int32} {m_now : Nat → Int32} {m_x : Nat → Int32} {m_height : Nat → Int32} {m_ripe : Nat → Int32} {m_foot : Nat → Int32} {m_fork : Nat → Int32} {m_told : Nat → Int32} {m_row : Nat → Int32} {m_hand : Nat → Int32} (hy0 : Int32.toInt (F_X10_allStandings m_standings) < 2147483647) (h : wp_X10_broken P p0 m_fruits m_standings m_rowMany m_thrown m_wanted m_now m_x m_height m_ripe m_foot m_fork m_told m_row m_hand) (hq : P (F_X10_broken p0 m_fruits m_standings m_rowMany m_thrown m_wanted m_now m_x m_height m_ripe m_foot m_fork m_told m_row m_hand).1 (F_X10_broken p0 m_fruits m_standings m_rowMany m_thrown m_wanted m_now m_x m_height m_ripe m_foot m_fork m_told m_row m_hand).2.1 (F_X10_broken p0 m_fruits m_standings m_rowMany m_thrown m_wanted m_now m_x m_height m_ripe m_foot m_fork m_told m_row m_hand).2.2.1 (F_X10_broken p0 m_fruits m_standings m_rowMany m_thrown m_wanted m_now m_x m_height m_ripe m_foot m_fork m_told m_row m_hand).2.2.2.1 (F_X10_broken p0 m_fruits m_standings m_rowMany m_thrown m_wanted m_now m_x m_height m_ripe m_foot m_fork m_told m_row m_hand).2.2.2.2.1 (F_X10_broken p0 m_fruits m_standings m_rowMany m_thrown m_wanted m_now m_x m_height m_ripe m_foot m_fork m_told m_row m_hand).2.2.2.2.2 → Q (F_X10_broken p0 m_fruits m_standings m_rowMany m_thrown m_wanted m_now m_x m_height m_ripe m_foot m_fork m_told m_row m_hand).1 (F_X10_broken p0 m_fruits m_standings m_rowMany m_thrown m_wanted m_now m_x m_height m_ripe m_foot m_fork m_told m_row m_hand).2.1 (F_X10_broken p0 m_fruits m_standings m_rowMany m_thrown m_wanted m_now m_x m_height m_ripe m_foot m_fork m_told m_row m_hand).2.2.1 (F_X10_broken p0 m_fruits m_standings m_rowMany m_thrown m_wanted m_now m_x m_height m_ripe m_foot m_fork m_told m_row m_hand).2.2.2.1 (F_X10_broken p0 m_fruits m_standings m_rowMany m_thrown m_wanted m_now m_x m_height m_ripe m_foot m_fork m_told m_row m_hand).2.2.2.2.1 (F_X10_broken p0 m_fruits m_standings m_rowMany m_thrown m_wanted m_now m_x m_height m_ripe m_foot m_fork m_told m_row m_hand).2.2.2.2.2) : wp_X10_broken Q p0 m_fruits m_standings m_rowMany m_thrown m_wanted m_now m_x m_height m_ripe m_foot m_fork m_told m_row m_hand := dt_X10_broken hy0 h (fun o eo => by rw [eo]; exact hq)
theorem dw_X10_broken {Q : Int32 → Int32 → Int32 → Int32 → (Nat → Int32) → (Nat → Int32) → Prop} {p0 : Int32} {m_fruits : Int32} {m_standings : Int32} {m_rowMany : Int32} {m_thrown : Int32} {m_wanted : Int32} {m_now : Nat → Int32} {m_x : Nat → Int32} {m_height : Nat → Int32} {m_ripe : Nat → Int32} {m_foot : Nat → Int32} {m_fork : Nat → Int32} {m_told : Nat → Int32} {m_row : Nat → Int32} {m_hand : Nat → Int32} (hy0 : Int32.toInt (F_X10_allStandings m_standings) < 2147483647) (h : wp_X10_broken (fun o0 o1 o2 o3 o4 o5 => (o0, o1, o2, o3, o4, o5) = F_X10_broken p0 m_fruits m_standings m_rowMany m_thrown m_wanted m_now m_x m_height m_ripe m_foot m_fork m_told m_row m_hand → Q o0 o1 o2 o3 o4 o5) p0 m_fruits m_standings m_rowMany m_thrown m_wanted m_now m_x m_height m_ripe m_foot m_fork m_told m_row m_hand) : wp_X10_broken Q p0 m_fruits m_standings m_rowMany m_thrown m_wanted m_now m_x m_height m_ripe m_foot m_fork m_told m_row m_hand := dt_X10_broken hy0 h (fun o eo hp => hp eo)
noncomputable def F_X10_hereWanted (m_fruits : Int32) (m_now : Nat → Int32) (m_x : Nat → Int32) (m_height : Nat → Int32) (m_ripe : Nat → Int32) (m_foot : Nat → Int32) (m_fork : Nat → Int32) (m_told : Nat → Int32) : Int32 := (((F_X10_which 0 m_fruits m_now) &&& (F_X10_ripeOnes (m_now (19 : Int32).toNatClampNeg) m_fruits m_ripe)) &&& (F_X10_byHand (m_now (17 : Int32).toNatClampNeg) m_fruits m_now m_x m_height m_foot m_fork m_told))
set_option maxHeartbeats 200000 in
set_option maxRecDepth 10000 in
theorem dt_X10_hereWanted {P Q : Int32 → Prop} {m_fruits : Int32} {m_now : Nat → Int32} {m_x : Nat → Int32} {m_height : Nat → Int32} {m_ripe : Nat → Int32} {m_foot : Nat → Int32} {m_fork : Nat → Int32} {m_told : Nat → Int32} (h : wp_X10_hereWanted P m_fruits m_now m_x m_height m_ripe m_foot m_fork m_told) (hq : ∀ o : Int32, o = F_X10_hereWanted m_fruits m_now m_x m_height m_ripe m_foot m_fork m_told → P o → Q o) : wp_X10_hereWanted Q m_fruits m_now m_x m_height m_ripe m_foot m_fork m_told := by
  rw [F_X10_hereWanted] at hq
  refine du_X10_which h ?_
  intro h
  refine ae ?_
  have h := h _ rfl
  refine du_X10_ripeOnes h ?_
  intro h
  refine ae ?_
  have h := h _ rfl
  refine ae ?_
  have h := h _ rfl
  refine du_X10_byHand h ?_
  intro h
  have q9 := hq _ rfl
  exact q9 h
theorem du_X10_hereWanted {P Q : Int32 → Prop} {m_fruits : Int32} {m_now : Nat → Int32} {m_x : Nat → Int32} {m_height : Nat → Int32} {m_ripe : Nat → Int32} {m_foot : Nat → Int32} {m_fork : Nat → Int32} {m_told : Nat → Int32} (h : wp_X10_hereWanted P m_fruits m_now m_x m_height m_ripe m_foot m_fork m_told) (hq : P (F_X10_hereWanted m_fruits m_now m_x m_height m_ripe m_foot m_fork m_told) → Q (F_X10_hereWanted m_fruits m_now m_x m_height m_ripe m_foot m_fork m_told)) : wp_X10_hereWanted Q m_fruits m_now m_x m_height m_ripe m_foot m_fork m_told := dt_X10_hereWanted h (fun o eo => by rw [eo]; exact hq)
theorem dw_X10_hereWanted {Q : Int32 → Prop} {m_fruits : Int32} {m_now : Nat → Int32} {m_x : Nat → Int32} {m_height : Nat → Int32} {m_ripe : Nat → Int32} {m_foot : Nat → Int32} {m_fork : Nat → Int32} {m_told : Nat → Int32} (h : wp_X10_hereWanted (fun o0 => o0 = F_X10_hereWanted m_fruits m_now m_x m_height m_ripe m_foot m_fork m_told → Q o0) m_fruits m_now m_x m_height m_ripe m_foot m_fork m_told) : wp_X10_hereWanted Q m_fruits m_now m_x m_height m_ripe m_foot m_fork m_told := dt_X10_hereWanted h (fun o eo hp => hp eo)
noncomputable def j_X10_harm_79 {R : Type} (k39 : Int32 → Int32 → Int32 → Int32 → Int32 → Int32 → (Nat → Int32) → R) (m_fruits : Int32) (m_now : Nat → Int32) (m_x : Nat → Int32) (m_height : Nat → Int32) (m_worth : Nat → Int32) (m_ripe : Nat → Int32) (m_foot : Nat → Int32) (m_fork : Nat → Int32) (m_told : Nat → Int32) (x1 : Int32) (x2 : Int32) (x3 : Int32) (x4 : Int32) (m_rowMany : Int32) (m_thrown : Int32) (m_row : Nat → Int32) : R := k39 x1 x2 x3 (x4 + 1) m_rowMany m_thrown m_row
noncomputable def bd_X10_harm_39 (m_fruits : Int32) (m_now : Nat → Int32) (m_x : Nat → Int32) (m_height : Nat → Int32) (m_worth : Nat → Int32) (m_ripe : Nat → Int32) (m_foot : Nat → Int32) (m_fork : Nat → Int32) (m_told : Nat → Int32) (x1 : Int32) (m_rowMany : Int32) (m_thrown : Int32) (m_row : Nat → Int32) (c : Int32) (s : Int32 × Int32) : Int32 × Int32 := if (F_X10_has x1 c) = 0 then (j_X10_harm_79 (fun q0 q1 q2 q3 q4 q5 q6 => (q1, q2)) m_fruits m_now m_x m_height m_worth m_ripe m_foot m_fork m_told x1 s.1 s.2 c m_rowMany m_thrown m_row) else (j_X10_harm_79 (fun q0 q1 q2 q3 q4 q5 q6 => (q1, q2)) m_fruits m_now m_x m_height m_worth m_ripe m_foot m_fork m_told x1 (s.1 &&& ((1 <<< (c &&& 31)) ^^^ (-1))) (s.2 ||| (F_X10_below c s.1 m_fruits m_x m_height)) c m_rowMany m_thrown m_row)
noncomputable def ex_X10_harm_39 {R : Type} (po : Int32 → Int32 → Int32 → (Nat → Int32) → R) (m_fruits : Int32) (m_now : Nat → Int32) (m_x : Nat → Int32) (m_height : Nat → Int32) (m_worth : Nat → Int32) (m_ripe : Nat → Int32) (m_foot : Nat → Int32) (m_fork : Nat → Int32) (m_told : Nat → Int32) (x1 : Int32) (m_rowMany : Int32) (m_thrown : Int32) (m_row : Nat → Int32) (c : Int32) (s : Int32 × Int32) : R := po (s.2 &&& ((m_now (16 : Int32).toNatClampNeg) ^^^ (-1))) ((F_X10_tell ((F_X10_worthOfAll (s.2 &&& ((m_now (16 : Int32).toNatClampNeg) ^^^ (-1))) 0 m_fruits m_worth) - (F_X10_worthOfAll (s.2 &&& ((m_now (16 : Int32).toNatClampNeg) ^^^ (-1))) (s.2 &&& ((m_now (16 : Int32).toNatClampNeg) ^^^ (-1))) m_fruits m_worth)) 0 m_row).1) m_thrown ((F_X10_tell ((F_X10_worthOfAll (s.2 &&& ((m_now (16 : Int32).toNatClampNeg) ^^^ (-1))) 0 m_fruits m_worth) - (F_X10_worthOfAll (s.2 &&& ((m_now (16 : Int32).toNatClampNeg) ^^^ (-1))) (s.2 &&& ((m_now (16 : Int32).toNatClampNeg) ^^^ (-1))) m_fruits m_worth)) 0 m_row).2)
set_option maxHeartbeats 200000 in
set_option maxRecDepth 10000 in
theorem dl_X10_harm_39 {P Q : Int32 → Int32 → Int32 → (Nat → Int32) → Prop} {m_fruits : Int32} {m_now : Nat → Int32} {m_x : Nat → Int32} {m_height : Nat → Int32} {m_worth : Nat → Int32} {m_ripe : Nat → Int32} {m_foot : Nat → Int32} {m_fork : Nat → Int32} {m_told : Nat → Int32} {x1 : Int32} {m_rowMany : Int32} {m_thrown : Int32} {m_row : Nat → Int32} {a : Int32 × Int32} {i : Nat} (hi0 : i < 2147483648) (hE : ∀ (c : Int32) (s : Int32 × Int32), c = nI (i + (Int32.toInt m_fruits - ((i : Nat) : Int)).toNat) → s = itr (bd_X10_harm_39 m_fruits m_now m_x m_height m_worth m_ripe m_foot m_fork m_told x1 m_rowMany m_thrown m_row) a i (Int32.toInt m_fruits - ((i : Nat) : Int)).toNat → (∀ v_4 : Int32, v_4 = m_now (16 : Int32).toNatClampNeg → ∀ v_5 : Int32, v_5 = s.2 &&& (v_4 ^^^ (-1)) → wp_X10_worthOfAll (fun r_6 => wp_X10_worthOfAll (fun r_7 => ∀ v_8 : Int32, v_8 = r_6 - r_7 → wp_X10_tell (fun m_rowMany_9 m_row_10 => P v_5 m_rowMany_9 m_thrown m_row_10) v_8 0 m_row) v_5 v_5 m_fruits m_worth) v_5 0 m_fruits m_worth) → (∀ v_4 : Int32, v_4 = m_now (16 : Int32).toNatClampNeg → ∀ v_5 : Int32, v_5 = s.2 &&& (v_4 ^^^ (-1)) → wp_X10_worthOfAll (fun r_6 => wp_X10_worthOfAll (fun r_7 => ∀ v_8 : Int32, v_8 = r_6 - r_7 → wp_X10_tell (fun m_rowMany_9 m_row_10 => Q v_5 m_rowMany_9 m_thrown m_row_10) v_8 0 m_row) v_5 v_5 m_fruits m_worth) v_5 0 m_fruits m_worth)) : ∀ (n k : Nat) (c : Int32), c = nI (i + k) → k ≤ (Int32.toInt m_fruits - ((i : Nat) : Int)).toNat → wb_X10_harm_39 P m_fruits m_now m_x m_height m_worth m_ripe m_foot m_fork m_told n x1 (itr (bd_X10_harm_39 m_fruits m_now m_x m_height m_worth m_ripe m_foot m_fork m_told x1 m_rowMany m_thrown m_row) a i k).1 (itr (bd_X10_harm_39 m_fruits m_now m_x m_height m_worth m_ripe m_foot m_fork m_told x1 m_rowMany m_thrown m_row) a i k).2 c m_rowMany m_thrown m_row → wb_X10_harm_39 Q m_fruits m_now m_x m_height m_worth m_ripe m_foot m_fork m_told n x1 (itr (bd_X10_harm_39 m_fruits m_now m_x m_height m_worth m_ripe m_foot m_fork m_told x1 m_rowMany m_thrown m_row) a i k).1 (itr (bd_X10_harm_39 m_fruits m_now m_x m_height m_worth m_ripe m_foot m_fork m_told x1 m_rowMany m_thrown m_row) a i k).2 c m_rowMany m_thrown m_row := by
  intro n
  induction n with
  | zero => intro k c hc hk h; exact False.elim h
  | succ n ih =>
    intro k c hc hk h
    have hr := tp_r m_fruits
    have hi : Int32.toInt c = ((i + k : Nat) : Int) := by rw [hc]; exact nI_toInt (by omega)
    refine And.intro (fun t0 => ?_) (fun t0 => ?_)
    · have h := And.left h t0
      have t1 := (fa_le _ _).mp t0
      have hk2 : k = (Int32.toInt m_fruits - ((i : Nat) : Int)).toNat := by omega
      subst hk2
      exact hE _ _ hc rfl h
    · have h := And.right h t0
      have t1 := mt (fa_le _ _).mpr t0
      have hs : ∀ o : Int32 × Int32, o = itr (bd_X10_harm_39 m_fruits m_now m_x m_height m_worth m_ripe m_foot m_fork m_told x1 m_rowMany m_thrown m_row) a i (k + 1) → wb_X10_harm_39 P m_fruits m_now m_x m_height m_worth m_ripe m_foot m_fork m_told n x1 o.1 o.2 (c + 1) m_rowMany m_thrown m_row → wb_X10_harm_39 Q m_fruits m_now m_x m_height m_worth m_ripe m_foot m_fork m_told n x1 o.1 o.2 (c + 1) m_rowMany m_thrown m_row := by
        intro o eo h9
        have q := ih (k + 1) (c + 1) (by rw [hc]; exact nI_1 _) (by omega)
        rw [← eo] at q
        exact q h9
      rw [itr_s, ← hc, bd_X10_harm_39] at hs
      refine du_X10_has h ?_
      intro h
      refine And.intro (fun c1 => ?_) (fun c1 => ?_)
      · have h := And.left h c1
        rw [if_neg c1] at hs
        refine du_X10_below h ?_
        intro h
        refine ae ?_
        have h := h _ rfl
        refine ae ?_
        have h := h _ rfl
        refine ae ?_
        have h := h _ rfl
        rw [j_X10_harm_79] at hs
        unfold ws_X10_harm_79 at h ⊢
        refine ae ?_
        have h := h _ rfl
        have q9 := hs _ rfl
        dsimp only at q9
        exact q9 h
      · have h := And.right h c1
        rw [if_pos c1] at hs
        rw [j_X10_harm_79] at hs
        unfold ws_X10_harm_79 at h ⊢
        refine ae ?_
        have h := h _ rfl
        have q9 := hs _ rfl
        dsimp only at q9
        exact q9 h
noncomputable def F_X10_harm (m_fruits : Int32) (m_rowMany : Int32) (m_thrown : Int32) (m_now : Nat → Int32) (m_x : Nat → Int32) (m_height : Nat → Int32) (m_worth : Nat → Int32) (m_ripe : Nat → Int32) (m_foot : Nat → Int32) (m_fork : Nat → Int32) (m_told : Nat → Int32) (m_row : Nat → Int32) : Int32 × Int32 × Int32 × (Nat → Int32) := if (m_now (17 : Int32).toNatClampNeg) = (-1) then ((-2), m_rowMany, 0, m_row) else (ex_X10_harm_39 (fun o0 o1 o2 o3 => (o0, o1, o2, o3)) m_fruits m_now m_x m_height m_worth m_ripe m_foot m_fork m_told (F_X10_hereWanted m_fruits m_now m_x m_height m_ripe m_foot m_fork m_told) m_rowMany 0 m_row (nI (0 + (Int32.toInt m_fruits - ((0 : Nat) : Int)).toNat)) (itr (bd_X10_harm_39 m_fruits m_now m_x m_height m_worth m_ripe m_foot m_fork m_told (F_X10_hereWanted m_fruits m_now m_x m_height m_ripe m_foot m_fork m_told) m_rowMany 0 m_row) ((F_X10_which 0 m_fruits m_now), 0) 0 (Int32.toInt m_fruits - ((0 : Nat) : Int)).toNat))
set_option maxHeartbeats 200000 in
set_option maxRecDepth 10000 in
theorem dt_X10_harm {P Q : Int32 → Int32 → Int32 → (Nat → Int32) → Prop} {m_fruits : Int32} {m_rowMany : Int32} {m_thrown : Int32} {m_now : Nat → Int32} {m_x : Nat → Int32} {m_height : Nat → Int32} {m_worth : Nat → Int32} {m_ripe : Nat → Int32} {m_foot : Nat → Int32} {m_fork : Nat → Int32} {m_told : Nat → Int32} {m_row : Nat → Int32} (h : wp_X10_harm P m_fruits m_rowMany m_thrown m_now m_x m_height m_worth m_ripe m_foot m_fork m_told m_row) (hq : ∀ o : Int32 × Int32 × Int32 × (Nat → Int32), o = F_X10_harm m_fruits m_rowMany m_thrown m_now m_x m_height m_worth m_ripe m_foot m_fork m_told m_row → P o.1 o.2.1 o.2.2.1 o.2.2.2 → Q o.1 o.2.1 o.2.2.1 o.2.2.2) : wp_X10_harm Q m_fruits m_rowMany m_thrown m_now m_x m_height m_worth m_ripe m_foot m_fork m_told m_row := by
  rw [F_X10_harm] at hq
  refine ae ?_
  have h := h _ rfl
  refine And.intro (fun c1 => ?_) (fun c1 => ?_)
  · have h := And.left h c1
    rw [if_neg c1] at hq
    refine du_X10_hereWanted h ?_
    intro h
    refine du_X10_which h ?_
    intro h
    obtain ⟨n2, h⟩ := h
    refine ⟨n2, dl_X10_harm_39 (a := ((F_X10_which 0 m_fruits m_now), 0)) (i := 0) (by decide) ?_ n2 0 0 (by decide) (Nat.zero_le _) h⟩
    intro cc3 s4 ec5 es6 h
    rw [← ec5, ← es6, ex_X10_harm_39] at hq
    refine ae ?_
    have h := h _ rfl
    refine ae ?_
    have h := h _ rfl
    refine du_X10_worthOfAll h ?_
    intro h
    refine du_X10_worthOfAll h ?_
    intro h
    refine ae ?_
    have h := h _ rfl
    refine du_X10_tell h ?_
    intro h
    have q9 := hq _ rfl
    dsimp only at q9
    exact q9 h
  · have h := And.right h c1
    rw [if_pos c1] at hq
    have q9 := hq _ rfl
    dsimp only at q9
    exact q9 h
theorem du_X10_harm {P Q : Int32 → Int32 → Int32 → (Nat → Int32) → Prop} {m_fruits : Int32} {m_rowMany : Int32} {m_thrown : Int32} {m_now : Nat → Int32} {m_x : Nat → Int32} {m_height : Nat → Int32} {m_worth : Nat → Int32} {m_ripe : Nat → Int32} {m_foot : Nat → Int32} {m_fork : Nat → Int32} {m_told : Nat → Int32} {m_row : Nat → Int32} (h : wp_X10_harm P m_fruits m_rowMany m_thrown m_now m_x m_height m_worth m_ripe m_foot m_fork m_told m_row) (hq : P (F_X10_harm m_fruits m_rowMany m_thrown m_now m_x m_height m_worth m_ripe m_foot m_fork m_told m_row).1 (F_X10_harm m_fruits m_rowMany m_thrown m_now m_x m_height m_worth m_ripe m_foot m_fork m_told m_row).2.1 (F_X10_harm m_fruits m_rowMany m_thrown m_now m_x m_height m_worth m_ripe m_foot m_fork m_told m_row).2.2.1 (F_X10_harm m_fruits m_rowMany m_thrown m_now m_x m_height m_worth m_ripe m_foot m_fork m_told m_row).2.2.2 → Q (F_X10_harm m_fruits m_rowMany m_thrown m_now m_x m_height m_worth m_ripe m_foot m_fork m_told m_row).1 (F_X10_harm m_fruits m_rowMany m_thrown m_now m_x m_height m_worth m_ripe m_foot m_fork m_told m_row).2.1 (F_X10_harm m_fruits m_rowMany m_thrown m_now m_x m_height m_worth m_ripe m_foot m_fork m_told m_row).2.2.1 (F_X10_harm m_fruits m_rowMany m_thrown m_now m_x m_height m_worth m_ripe m_foot m_fork m_told m_row).2.2.2) : wp_X10_harm Q m_fruits m_rowMany m_thrown m_now m_x m_height m_worth m_ripe m_foot m_fork m_told m_row := dt_X10_harm h (fun o eo => by rw [eo]; exact hq)
theorem dw_X10_harm {Q : Int32 → Int32 → Int32 → (Nat → Int32) → Prop} {m_fruits : Int32} {m_rowMany : Int32} {m_thrown : Int32} {m_now : Nat → Int32} {m_x : Nat → Int32} {m_height : Nat → Int32} {m_worth : Nat → Int32} {m_ripe : Nat → Int32} {m_foot : Nat → Int32} {m_fork : Nat → Int32} {m_told : Nat → Int32} {m_row : Nat → Int32} (h : wp_X10_harm (fun o0 o1 o2 o3 => (o0, o1, o2, o3) = F_X10_harm m_fruits m_rowMany m_thrown m_now m_x m_height m_worth m_ripe m_foot m_fork m_told m_row → Q o0 o1 o2 o3) m_fruits m_rowMany m_thrown m_now m_x m_height m_worth m_ripe m_foot m_fork m_told m_row) : wp_X10_harm Q m_fruits m_rowMany m_thrown m_now m_x m_height m_worth m_ripe m_foot m_fork m_told m_row := dt_X10_harm h (fun o eo hp => hp eo)
noncomputable def j_X10_loadOf_31 {R : Type} (k4 : Int32 → Int32 → Int32 → R) (m_standings : Int32) (m_load : Nat → Int32) (x1 : Int32) (x3 : Int32) (k0 : Int32) (k1 : Int32) : R := k4 x1 (k0 + k1) (x3 + 1)
noncomputable def bd_X10_loadOf_4 (m_standings : Int32) (m_load : Nat → Int32) (x1 : Int32) (c : Int32) (s : Int32) : Int32 := if (F_X10_has x1 c) = 0 then (j_X10_loadOf_31 (fun q0 q1 q2 => q1) m_standings m_load x1 c s 0) else (j_X10_loadOf_31 (fun q0 q1 q2 => q1) m_standings m_load x1 c s (m_load c.toNatClampNeg))
noncomputable def ex_X10_loadOf_4 {R : Type} (po : Int32 → R) (m_standings : Int32) (m_load : Nat → Int32) (x1 : Int32) (c : Int32) (s : Int32) : R := po s
set_option maxHeartbeats 200000 in
set_option maxRecDepth 10000 in
theorem dl_X10_loadOf_4 {P Q : Int32 → Prop} {m_standings : Int32} {m_load : Nat → Int32} {x1 : Int32} {a : Int32} {i : Nat} (hi0 : i < 2147483648) (hE : ∀ (c : Int32) (s : Int32), c = nI (i + (Int32.toInt m_standings - ((i : Nat) : Int)).toNat) → s = itr (bd_X10_loadOf_4 m_standings m_load x1) a i (Int32.toInt m_standings - ((i : Nat) : Int)).toNat → (P s) → (Q s)) : ∀ (n k : Nat) (c : Int32), c = nI (i + k) → k ≤ (Int32.toInt m_standings - ((i : Nat) : Int)).toNat → wb_X10_loadOf_4 P m_standings m_load n x1 (itr (bd_X10_loadOf_4 m_standings m_load x1) a i k) c → wb_X10_loadOf_4 Q m_standings m_load n x1 (itr (bd_X10_loadOf_4 m_standings m_load x1) a i k) c := by
  intro n
  induction n with
  | zero => intro k c hc hk h; exact False.elim h
  | succ n ih =>
    intro k c hc hk h
    have hr := tp_r m_standings
    have hi : Int32.toInt c = ((i + k : Nat) : Int) := by rw [hc]; exact nI_toInt (by omega)
    refine And.intro (fun t0 => ?_) (fun t0 => ?_)
    · have h := And.left h t0
      have t1 := (fa_le _ _).mp t0
      have hk2 : k = (Int32.toInt m_standings - ((i : Nat) : Int)).toNat := by omega
      subst hk2
      exact hE _ _ hc rfl h
    · have h := And.right h t0
      have t1 := mt (fa_le _ _).mpr t0
      have hs : ∀ o : Int32, o = itr (bd_X10_loadOf_4 m_standings m_load x1) a i (k + 1) → wb_X10_loadOf_4 P m_standings m_load n x1 o (c + 1) → wb_X10_loadOf_4 Q m_standings m_load n x1 o (c + 1) := by
        intro o eo h9
        have q := ih (k + 1) (c + 1) (by rw [hc]; exact nI_1 _) (by omega)
        rw [← eo] at q
        exact q h9
      rw [itr_s, ← hc, bd_X10_loadOf_4] at hs
      refine du_X10_has h ?_
      intro h
      refine And.intro (fun c1 => ?_) (fun c1 => ?_)
      · have h := And.left h c1
        rw [if_pos c1] at hs
        rw [j_X10_loadOf_31] at hs
        unfold ws_X10_loadOf_31 at h ⊢
        refine ae ?_
        have h := h _ rfl
        refine ae ?_
        have h := h _ rfl
        have q9 := hs _ rfl
        exact q9 h
      · have h := And.right h c1
        rw [if_neg c1] at hs
        refine And.intro (And.left h) ?_
        have h := And.right h
        refine ae ?_
        have h := h _ rfl
        rw [j_X10_loadOf_31] at hs
        unfold ws_X10_loadOf_31 at h ⊢
        refine ae ?_
        have h := h _ rfl
        refine ae ?_
        have h := h _ rfl
        have q9 := hs _ rfl
        exact q9 h
noncomputable def F_X10_loadOf (p0 : Int32) (m_standings : Int32) (m_load : Nat → Int32) : Int32 := ex_X10_loadOf_4 (fun o0 => o0) m_standings m_load p0 (nI (0 + (Int32.toInt m_standings - ((0 : Nat) : Int)).toNat)) (itr (bd_X10_loadOf_4 m_standings m_load p0) 0 0 (Int32.toInt m_standings - ((0 : Nat) : Int)).toNat)
set_option maxHeartbeats 200000 in
set_option maxRecDepth 10000 in
theorem dt_X10_loadOf {P Q : Int32 → Prop} {p0 : Int32} {m_standings : Int32} {m_load : Nat → Int32} (h : wp_X10_loadOf P p0 m_standings m_load) (hq : ∀ o : Int32, o = F_X10_loadOf p0 m_standings m_load → P o → Q o) : wp_X10_loadOf Q p0 m_standings m_load := by
  rw [F_X10_loadOf] at hq
  obtain ⟨n1, h⟩ := h
  refine ⟨n1, dl_X10_loadOf_4 (a := 0) (i := 0) (by decide) ?_ n1 0 0 (by decide) (Nat.zero_le _) h⟩
  intro cc2 s3 ec4 es5 h
  rw [← ec4, ← es5, ex_X10_loadOf_4] at hq
  have q9 := hq _ rfl
  exact q9 h
theorem du_X10_loadOf {P Q : Int32 → Prop} {p0 : Int32} {m_standings : Int32} {m_load : Nat → Int32} (h : wp_X10_loadOf P p0 m_standings m_load) (hq : P (F_X10_loadOf p0 m_standings m_load) → Q (F_X10_loadOf p0 m_standings m_load)) : wp_X10_loadOf Q p0 m_standings m_load := dt_X10_loadOf h (fun o eo => by rw [eo]; exact hq)
theorem dw_X10_loadOf {Q : Int32 → Prop} {p0 : Int32} {m_standings : Int32} {m_load : Nat → Int32} (h : wp_X10_loadOf (fun o0 => o0 = F_X10_loadOf p0 m_standings m_load → Q o0) p0 m_standings m_load) : wp_X10_loadOf Q p0 m_standings m_load := dt_X10_loadOf h (fun o eo hp => hp eo)
noncomputable def F_X10_firstRipe (p0 : Int32) (m_fruits : Int32) (m_now : Nat → Int32) (m_ripe : Nat → Int32) : Int32 := if p0 = (m_now (19 : Int32).toNatClampNeg) then ((F_X10_which 0 m_fruits m_now) &&& (F_X10_ripeOnes p0 m_fruits m_ripe)) else (((F_X10_which 0 m_fruits m_now) &&& (F_X10_ripeOnes p0 m_fruits m_ripe)) &&& ((F_X10_ripeOnes (p0 - 1) m_fruits m_ripe) ^^^ (-1)))
set_option maxHeartbeats 200000 in
set_option maxRecDepth 10000 in
theorem dt_X10_firstRipe {P Q : Int32 → Prop} {p0 : Int32} {m_fruits : Int32} {m_now : Nat → Int32} {m_ripe : Nat → Int32} (h : wp_X10_firstRipe P p0 m_fruits m_now m_ripe) (hq : ∀ o : Int32, o = F_X10_firstRipe p0 m_fruits m_now m_ripe → P o → Q o) : wp_X10_firstRipe Q p0 m_fruits m_now m_ripe := by
  rw [F_X10_firstRipe] at hq
  refine du_X10_which h ?_
  intro h
  refine du_X10_ripeOnes h ?_
  intro h
  refine ae ?_
  have h := h _ rfl
  refine And.intro (fun c1 => ?_) (fun c1 => ?_)
  · have h := And.left h c1
    rw [if_neg c1] at hq
    refine ae ?_
    have h := h _ rfl
    refine du_X10_ripeOnes h ?_
    intro h
    have q9 := hq _ rfl
    exact q9 h
  · have h := And.right h c1
    rw [if_pos c1] at hq
    have q9 := hq _ rfl
    exact q9 h
theorem du_X10_firstRipe {P Q : Int32 → Prop} {p0 : Int32} {m_fruits : Int32} {m_now : Nat → Int32} {m_ripe : Nat → Int32} (h : wp_X10_firstRipe P p0 m_fruits m_now m_ripe) (hq : P (F_X10_firstRipe p0 m_fruits m_now m_ripe) → Q (F_X10_firstRipe p0 m_fruits m_now m_ripe)) : wp_X10_firstRipe Q p0 m_fruits m_now m_ripe := dt_X10_firstRipe h (fun o eo => by rw [eo]; exact hq)
theorem dw_X10_firstRipe {Q : Int32 → Prop} {p0 : Int32} {m_fruits : Int32} {m_now : Nat → Int32} {m_ripe : Nat → Int32} (h : wp_X10_firstRipe (fun o0 => o0 = F_X10_firstRipe p0 m_fruits m_now m_ripe → Q o0) p0 m_fruits m_now m_ripe) : wp_X10_firstRipe Q p0 m_fruits m_now m_ripe := dt_X10_firstRipe h (fun o eo hp => hp eo)
noncomputable def j_X10_ripens_57 {R : Type} (k27 : Int32 → Int32 → Int32 → Int32 → Int32 → Int32 → (Nat → Int32) → (Nat → Int32) → R) (m_fruits : Int32) (m_standings : Int32) (m_now : Nat → Int32) (m_x : Nat → Int32) (m_height : Nat → Int32) (m_ripe : Nat → Int32) (m_foot : Nat → Int32) (m_fork : Nat → Int32) (m_told : Nat → Int32) (x1 : Int32) (x2 : Int32) (x3 : Int32) (m_rowMany : Int32) (m_thrown : Int32) (m_wanted : Int32) (m_row : Nat → Int32) (m_hand : Nat → Int32) : R := k27 x1 x2 (x3 + 1) m_rowMany m_thrown m_wanted m_row m_hand
noncomputable def bd_X10_ripens_27 (m_fruits : Int32) (m_standings : Int32) (m_now : Nat → Int32) (m_x : Nat → Int32) (m_height : Nat → Int32) (m_ripe : Nat → Int32) (m_foot : Nat → Int32) (m_fork : Nat → Int32) (m_told : Nat → Int32) (m_rowMany : Int32) (m_thrown : Int32) (m_wanted : Int32) (m_row : Nat → Int32) (m_hand : Nat → Int32) (c : Int32) (s : Int32 × Int32) : Int32 × Int32 := if s.1 < (F_J6_bitCount_0f7a4 (F_X10_firstRipe c m_fruits m_now m_ripe)) then (j_X10_ripens_57 (fun q0 q1 q2 q3 q4 q5 q6 q7 => (q0, q1)) m_fruits m_standings m_now m_x m_height m_ripe m_foot m_fork m_told (F_J6_bitCount_0f7a4 (F_X10_firstRipe c m_fruits m_now m_ripe)) c c m_rowMany m_thrown m_wanted m_row m_hand) else (j_X10_ripens_57 (fun q0 q1 q2 q3 q4 q5 q6 q7 => (q0, q1)) m_fruits m_standings m_now m_x m_height m_ripe m_foot m_fork m_told s.1 s.2 c m_rowMany m_thrown m_wanted m_row m_hand)
noncomputable def ex_X10_ripens_27 {R : Type} (po : Int32 → Int32 → Int32 → Int32 → (Nat → Int32) → (Nat → Int32) → R) (m_fruits : Int32) (m_standings : Int32) (m_now : Nat → Int32) (m_x : Nat → Int32) (m_height : Nat → Int32) (m_ripe : Nat → Int32) (m_foot : Nat → Int32) (m_fork : Nat → Int32) (m_told : Nat → Int32) (m_rowMany : Int32) (m_thrown : Int32) (m_wanted : Int32) (m_row : Nat → Int32) (m_hand : Nat → Int32) (c : Int32) (s : Int32 × Int32) : R := po s.1 ((F_X10_tell (F_J6_bitCount_0f7a4 (F_X10_cover ((F_X10_which 0 m_fruits m_now) &&& (F_X10_handOf (F_X10_allStandings m_standings) m_standings m_hand)) m_standings m_hand)) (F_X10_tell s.2 0 m_row).1 (F_X10_tell s.2 0 m_row).2).1) m_thrown m_wanted ((F_X10_tell (F_J6_bitCount_0f7a4 (F_X10_cover ((F_X10_which 0 m_fruits m_now) &&& (F_X10_handOf (F_X10_allStandings m_standings) m_standings m_hand)) m_standings m_hand)) (F_X10_tell s.2 0 m_row).1 (F_X10_tell s.2 0 m_row).2).2) m_hand
set_option maxHeartbeats 200000 in
set_option maxRecDepth 10000 in
theorem dl_X10_ripens_27 {P Q : Int32 → Int32 → Int32 → Int32 → (Nat → Int32) → (Nat → Int32) → Prop} {m_fruits : Int32} {m_standings : Int32} {m_now : Nat → Int32} {m_x : Nat → Int32} {m_height : Nat → Int32} {m_ripe : Nat → Int32} {m_foot : Nat → Int32} {m_fork : Nat → Int32} {m_told : Nat → Int32} {m_rowMany : Int32} {m_thrown : Int32} {m_wanted : Int32} {m_row : Nat → Int32} {m_hand : Nat → Int32} {a : Int32 × Int32} {i : Nat} (hi0 : i < 2147483648) (hE : ∀ (c : Int32) (s : Int32 × Int32), c = nI (i + (Int32.toInt 9 + 1 - ((i : Nat) : Int)).toNat) → s = itr (bd_X10_ripens_27 m_fruits m_standings m_now m_x m_height m_ripe m_foot m_fork m_told m_rowMany m_thrown m_wanted m_row m_hand) a i (Int32.toInt 9 + 1 - ((i : Nat) : Int)).toNat → (wp_X10_which (fun r_5 => wp_X10_allStandings (fun r_6 => wp_X10_handOf (fun r_7 => ∀ v_8 : Int32, v_8 = r_5 &&& r_7 → wp_X10_cover (fun r_9 => wp_X10_tell (fun m_rowMany_10 m_row_11 => wp_J6_bitCount_0f7a4 (fun r_12 => wp_X10_tell (fun m_rowMany_13 m_row_14 => P s.1 m_rowMany_13 m_thrown m_wanted m_row_14 m_hand) r_12 m_rowMany_10 m_row_11) r_9) s.2 0 m_row) v_8 m_standings m_hand) r_6 m_standings m_hand) m_standings) 0 m_fruits m_now) → (wp_X10_which (fun r_5 => wp_X10_allStandings (fun r_6 => wp_X10_handOf (fun r_7 => ∀ v_8 : Int32, v_8 = r_5 &&& r_7 → wp_X10_cover (fun r_9 => wp_X10_tell (fun m_rowMany_10 m_row_11 => wp_J6_bitCount_0f7a4 (fun r_12 => wp_X10_tell (fun m_rowMany_13 m_row_14 => Q s.1 m_rowMany_13 m_thrown m_wanted m_row_14 m_hand) r_12 m_rowMany_10 m_row_11) r_9) s.2 0 m_row) v_8 m_standings m_hand) r_6 m_standings m_hand) m_standings) 0 m_fruits m_now)) : ∀ (n k : Nat) (c : Int32), c = nI (i + k) → k ≤ (Int32.toInt 9 + 1 - ((i : Nat) : Int)).toNat → wb_X10_ripens_27 P m_fruits m_standings m_now m_x m_height m_ripe m_foot m_fork m_told n (itr (bd_X10_ripens_27 m_fruits m_standings m_now m_x m_height m_ripe m_foot m_fork m_told m_rowMany m_thrown m_wanted m_row m_hand) a i k).1 (itr (bd_X10_ripens_27 m_fruits m_standings m_now m_x m_height m_ripe m_foot m_fork m_told m_rowMany m_thrown m_wanted m_row m_hand) a i k).2 c m_rowMany m_thrown m_wanted m_row m_hand → wb_X10_ripens_27 Q m_fruits m_standings m_now m_x m_height m_ripe m_foot m_fork m_told n (itr (bd_X10_ripens_27 m_fruits m_standings m_now m_x m_height m_ripe m_foot m_fork m_told m_rowMany m_thrown m_wanted m_row m_hand) a i k).1 (itr (bd_X10_ripens_27 m_fruits m_standings m_now m_x m_height m_ripe m_foot m_fork m_told m_rowMany m_thrown m_wanted m_row m_hand) a i k).2 c m_rowMany m_thrown m_wanted m_row m_hand := by
  intro n
  induction n with
  | zero => intro k c hc hk h; exact False.elim h
  | succ n ih =>
    intro k c hc hk h
    have hr := tp_r 9
    have hl9 : Int32.toInt 9 < 2147483647 := by decide
    have hi : Int32.toInt c = ((i + k : Nat) : Int) := by rw [hc]; exact nI_toInt (by omega)
    refine And.intro (fun t0 => ?_) (fun t0 => ?_)
    · have h := And.left h t0
      have t1 := (fa_lt _ _).mp t0
      have hk2 : k = (Int32.toInt 9 + 1 - ((i : Nat) : Int)).toNat := by omega
      subst hk2
      exact hE _ _ hc rfl h
    · have h := And.right h t0
      have t1 := mt (fa_lt _ _).mpr t0
      have hs : ∀ o : Int32 × Int32, o = itr (bd_X10_ripens_27 m_fruits m_standings m_now m_x m_height m_ripe m_foot m_fork m_told m_rowMany m_thrown m_wanted m_row m_hand) a i (k + 1) → wb_X10_ripens_27 P m_fruits m_standings m_now m_x m_height m_ripe m_foot m_fork m_told n o.1 o.2 (c + 1) m_rowMany m_thrown m_wanted m_row m_hand → wb_X10_ripens_27 Q m_fruits m_standings m_now m_x m_height m_ripe m_foot m_fork m_told n o.1 o.2 (c + 1) m_rowMany m_thrown m_wanted m_row m_hand := by
        intro o eo h9
        have q := ih (k + 1) (c + 1) (by rw [hc]; exact nI_1 _) (by omega)
        rw [← eo] at q
        exact q h9
      rw [itr_s, ← hc, bd_X10_ripens_27] at hs
      refine du_X10_firstRipe h ?_
      intro h
      refine du_J6_bitCount_0f7a4 h ?_
      intro h
      refine And.intro (fun c1 => ?_) (fun c1 => ?_)
      · have h := And.left h c1
        rw [if_pos c1] at hs
        rw [j_X10_ripens_57] at hs
        unfold ws_X10_ripens_57 at h ⊢
        refine ae ?_
        have h := h _ rfl
        have q9 := hs _ rfl
        dsimp only at q9
        exact q9 h
      · have h := And.right h c1
        rw [if_neg c1] at hs
        rw [j_X10_ripens_57] at hs
        unfold ws_X10_ripens_57 at h ⊢
        refine ae ?_
        have h := h _ rfl
        have q9 := hs _ rfl
        dsimp only at q9
        exact q9 h
noncomputable def F_X10_ripens (m_fruits : Int32) (m_standings : Int32) (m_rowMany : Int32) (m_thrown : Int32) (m_wanted : Int32) (m_now : Nat → Int32) (m_x : Nat → Int32) (m_height : Nat → Int32) (m_ripe : Nat → Int32) (m_foot : Nat → Int32) (m_fork : Nat → Int32) (m_told : Nat → Int32) (m_row : Nat → Int32) (m_hand : Nat → Int32) : Int32 × Int32 × Int32 × Int32 × (Nat → Int32) × (Nat → Int32) := ex_X10_ripens_27 (fun o0 o1 o2 o3 o4 o5 => (o0, o1, o2, o3, o4, o5)) m_fruits m_standings m_now m_x m_height m_ripe m_foot m_fork m_told m_rowMany 0 ((F_X10_layHands m_fruits m_standings m_wanted m_now m_x m_height m_ripe m_foot m_fork m_told m_hand).1) m_row ((F_X10_layHands m_fruits m_standings m_wanted m_now m_x m_height m_ripe m_foot m_fork m_told m_hand).2) (nI ((Int32.toInt (m_now (19 : Int32).toNatClampNeg)).toNat + (Int32.toInt 9 + 1 - (((Int32.toInt (m_now (19 : Int32).toNatClampNeg)).toNat : Nat) : Int)).toNat)) (itr (bd_X10_ripens_27 m_fruits m_standings m_now m_x m_height m_ripe m_foot m_fork m_told m_rowMany 0 ((F_X10_layHands m_fruits m_standings m_wanted m_now m_x m_height m_ripe m_foot m_fork m_told m_hand).1) m_row ((F_X10_layHands m_fruits m_standings m_wanted m_now m_x m_height m_ripe m_foot m_fork m_told m_hand).2)) ((-1), (m_now (19 : Int32).toNatClampNeg)) (Int32.toInt (m_now (19 : Int32).toNatClampNeg)).toNat (Int32.toInt 9 + 1 - (((Int32.toInt (m_now (19 : Int32).toNatClampNeg)).toNat : Nat) : Int)).toNat)
set_option maxHeartbeats 200000 in
set_option maxRecDepth 10000 in
theorem dt_X10_ripens {P Q : Int32 → Int32 → Int32 → Int32 → (Nat → Int32) → (Nat → Int32) → Prop} {m_fruits : Int32} {m_standings : Int32} {m_rowMany : Int32} {m_thrown : Int32} {m_wanted : Int32} {m_now : Nat → Int32} {m_x : Nat → Int32} {m_height : Nat → Int32} {m_ripe : Nat → Int32} {m_foot : Nat → Int32} {m_fork : Nat → Int32} {m_told : Nat → Int32} {m_row : Nat → Int32} {m_hand : Nat → Int32} (hy0 : 0 ≤ Int32.toInt (m_now (19 : Int32).toNatClampNeg)) (hy1 : Int32.toInt (F_X10_allStandings m_standings) < 2147483647) (h : wp_X10_ripens P m_fruits m_standings m_rowMany m_thrown m_wanted m_now m_x m_height m_ripe m_foot m_fork m_told m_row m_hand) (hq : ∀ o : Int32 × Int32 × Int32 × Int32 × (Nat → Int32) × (Nat → Int32), o = F_X10_ripens m_fruits m_standings m_rowMany m_thrown m_wanted m_now m_x m_height m_ripe m_foot m_fork m_told m_row m_hand → P o.1 o.2.1 o.2.2.1 o.2.2.2.1 o.2.2.2.2.1 o.2.2.2.2.2 → Q o.1 o.2.1 o.2.2.1 o.2.2.2.1 o.2.2.2.2.1 o.2.2.2.2.2) : wp_X10_ripens Q m_fruits m_standings m_rowMany m_thrown m_wanted m_now m_x m_height m_ripe m_foot m_fork m_told m_row m_hand := by
  rw [F_X10_ripens] at hq
  refine du_X10_layHands h ?_
  intro h
  refine ae ?_
  have h := h _ rfl
  refine ae ?_
  have h := h _ rfl
  obtain ⟨n1, h⟩ := h
  refine ⟨n1, dl_X10_ripens_27 (a := ((-1), (m_now (19 : Int32).toNatClampNeg))) (i := (Int32.toInt (m_now (19 : Int32).toNatClampNeg)).toNat) (by have := tp_r (m_now (19 : Int32).toNatClampNeg); omega) ?_ n1 0 (m_now (19 : Int32).toNatClampNeg) (tp_nI hy0) (Nat.zero_le _) h⟩
  intro cc2 s3 ec4 es5 h
  rw [← ec4, ← es5, ex_X10_ripens_27] at hq
  refine du_X10_which h ?_
  intro h
  refine du_X10_allStandings h ?_
  intro h
  refine du_X10_handOf h ?_
  intro h
  refine ae ?_
  have h := h _ rfl
  refine du_X10_cover hy1 h ?_
  intro h
  refine du_X10_tell h ?_
  intro h
  refine du_J6_bitCount_0f7a4 h ?_
  intro h
  refine du_X10_tell h ?_
  intro h
  have q9 := hq _ rfl
  dsimp only at q9
  exact q9 h
theorem du_X10_ripens {P Q : Int32 → Int32 → Int32 → Int32 → (Nat → Int32) → (Nat → Int32) → Prop} {m_fruits : Int32} {m_standings : Int32} {m_rowMany : Int32} {m_thrown : Int32} {m_wanted : Int32} {m_now : Nat → Int32} {m_x : Nat → Int32} {m_height : Nat → Int32} {m_ripe : Nat → Int32} {m_foot : Nat → Int32} {m_fork : Nat → Int32} {m_told : Nat → Int32} {m_row : Nat → Int32} {m_hand : Nat → Int32} (hy0 : 0 ≤ Int32.toInt (m_now (19 : Int32).toNatClampNeg)) (hy1 : Int32.toInt (F_X10_allStandings m_standings) < 2147483647) (h : wp_X10_ripens P m_fruits m_standings m_rowMany m_thrown m_wanted m_now m_x m_height m_ripe m_foot m_fork m_told m_row m_hand) (hq : P (F_X10_ripens m_fruits m_standings m_rowMany m_thrown m_wanted m_now m_x m_height m_ripe m_foot m_fork m_told m_row m_hand).1 (F_X10_ripens m_fruits m_standings m_rowMany m_thrown m_wanted m_now m_x m_height m_ripe m_foot m_fork m_told m_row m_hand).2.1 (F_X10_ripens m_fruits m_standings m_rowMany m_thrown m_wanted m_now m_x m_height m_ripe m_foot m_fork m_told m_row m_hand).2.2.1 (F_X10_ripens m_fruits m_standings m_rowMany m_thrown m_wanted m_now m_x m_height m_ripe m_foot m_fork m_told m_row m_hand).2.2.2.1 (F_X10_ripens m_fruits m_standings m_rowMany m_thrown m_wanted m_now m_x m_height m_ripe m_foot m_fork m_told m_row m_hand).2.2.2.2.1 (F_X10_ripens m_fruits m_standings m_rowMany m_thrown m_wanted m_now m_x m_height m_ripe m_foot m_fork m_told m_row m_hand).2.2.2.2.2 → Q (F_X10_ripens m_fruits m_standings m_rowMany m_thrown m_wanted m_now m_x m_height m_ripe m_foot m_fork m_told m_row m_hand).1 (F_X10_ripens m_fruits m_standings m_rowMany m_thrown m_wanted m_now m_x m_height m_ripe m_foot m_fork m_told m_row m_hand).2.1 (F_X10_ripens m_fruits m_standings m_rowMany m_thrown m_wanted m_now m_x m_height m_ripe m_foot m_fork m_told m_row m_hand).2.2.1 (F_X10_ripens m_fruits m_standings m_rowMany m_thrown m_wanted m_now m_x m_height m_ripe m_foot m_fork m_told m_row m_hand).2.2.2.1 (F_X10_ripens m_fruits m_standings m_rowMany m_thrown m_wanted m_now m_x m_height m_ripe m_foot m_fork m_told m_row m_hand).2.2.2.2.1 (F_X10_ripens m_fruits m_standings m_rowMany m_thrown m_wanted m_now m_x m_height m_ripe m_foot m_fork m_told m_row m_hand).2.2.2.2.2) : wp_X10_ripens Q m_fruits m_standings m_rowMany m_thrown m_wanted m_now m_x m_height m_ripe m_foot m_fork m_told m_row m_hand := dt_X10_ripens hy0 hy1 h (fun o eo => by rw [eo]; exact hq)
theorem dw_X10_ripens {Q : Int32 → Int32 → Int32 → Int32 → (Nat → Int32) → (Nat → Int32) → Prop} {m_fruits : Int32} {m_standings : Int32} {m_rowMany : Int32} {m_thrown : Int32} {m_wanted : Int32} {m_now : Nat → Int32} {m_x : Nat → Int32} {m_height : Nat → Int32} {m_ripe : Nat → Int32} {m_foot : Nat → Int32} {m_fork : Nat → Int32} {m_told : Nat → Int32} {m_row : Nat → Int32} {m_hand : Nat → Int32} (hy0 : 0 ≤ Int32.toInt (m_now (19 : Int32).toNatClampNeg)) (hy1 : Int32.toInt (F_X10_allStandings m_standings) < 2147483647) (h : wp_X10_ripens (fun o0 o1 o2 o3 o4 o5 => (o0, o1, o2, o3, o4, o5) = F_X10_ripens m_fruits m_standings m_rowMany m_thrown m_wanted m_now m_x m_height m_ripe m_foot m_fork m_told m_row m_hand → Q o0 o1 o2 o3 o4 o5) m_fruits m_standings m_rowMany m_thrown m_wanted m_now m_x m_height m_ripe m_foot m_fork m_told m_row m_hand) : wp_X10_ripens Q m_fruits m_standings m_rowMany m_thrown m_wanted m_now m_x m_height m_ripe m_foot m_fork m_told m_row m_hand := dt_X10_ripens hy0 hy1 h (fun o eo hp => hp eo)
noncomputable def F_X10_ondays (p0 : Int32) (m_fruits : Int32) (m_standings : Int32) (m_rowMany : Int32) (m_thrown : Int32) (m_wanted : Int32) (m_now : Nat → Int32) (m_x : Nat → Int32) (m_height : Nat → Int32) (m_ripe : Nat → Int32) (m_foot : Nat → Int32) (m_fork : Nat → Int32) (m_told : Nat → Int32) (m_row : Nat → Int32) (m_hand : Nat → Int32) : Int32 × Int32 × Int32 × Int32 × (Nat → Int32) × (Nat → Int32) := if (F_X10_in p0 (m_now (19 : Int32).toNatClampNeg) 9) = 0 then ((-1), m_rowMany, 0, m_wanted, m_row, m_hand) else ((F_X10_tellCover ((F_X10_firstRipe p0 m_fruits m_now m_ripe) &&& (F_X10_handOf (F_X10_allStandings m_standings) m_standings (F_X10_layHands m_fruits m_standings m_wanted m_now m_x m_height m_ripe m_foot m_fork m_told m_hand).2)) m_standings m_rowMany m_row (F_X10_layHands m_fruits m_standings m_wanted m_now m_x m_height m_ripe m_foot m_fork m_told m_hand).2).1, (F_X10_tellCover ((F_X10_firstRipe p0 m_fruits m_now m_ripe) &&& (F_X10_handOf (F_X10_allStandings m_standings) m_standings (F_X10_layHands m_fruits m_standings m_wanted m_now m_x m_height m_ripe m_foot m_fork m_told m_hand).2)) m_standings m_rowMany m_row (F_X10_layHands m_fruits m_standings m_wanted m_now m_x m_height m_ripe m_foot m_fork m_told m_hand).2).2.1, 0, (F_X10_layHands m_fruits m_standings m_wanted m_now m_x m_height m_ripe m_foot m_fork m_told m_hand).1, (F_X10_tellCover ((F_X10_firstRipe p0 m_fruits m_now m_ripe) &&& (F_X10_handOf (F_X10_allStandings m_standings) m_standings (F_X10_layHands m_fruits m_standings m_wanted m_now m_x m_height m_ripe m_foot m_fork m_told m_hand).2)) m_standings m_rowMany m_row (F_X10_layHands m_fruits m_standings m_wanted m_now m_x m_height m_ripe m_foot m_fork m_told m_hand).2).2.2, (F_X10_layHands m_fruits m_standings m_wanted m_now m_x m_height m_ripe m_foot m_fork m_told m_hand).2)
set_option maxHeartbeats 200000 in
set_option maxRecDepth 10000 in
theorem dt_X10_ondays {P Q : Int32 → Int32 → Int32 → Int32 → (Nat → Int32) → (Nat → Int32) → Prop} {p0 : Int32} {m_fruits : Int32} {m_standings : Int32} {m_rowMany : Int32} {m_thrown : Int32} {m_wanted : Int32} {m_now : Nat → Int32} {m_x : Nat → Int32} {m_height : Nat → Int32} {m_ripe : Nat → Int32} {m_foot : Nat → Int32} {m_fork : Nat → Int32} {m_told : Nat → Int32} {m_row : Nat → Int32} {m_hand : Nat → Int32} (hy0 : Int32.toInt (F_X10_allStandings m_standings) < 2147483647) (h : wp_X10_ondays P p0 m_fruits m_standings m_rowMany m_thrown m_wanted m_now m_x m_height m_ripe m_foot m_fork m_told m_row m_hand) (hq : ∀ o : Int32 × Int32 × Int32 × Int32 × (Nat → Int32) × (Nat → Int32), o = F_X10_ondays p0 m_fruits m_standings m_rowMany m_thrown m_wanted m_now m_x m_height m_ripe m_foot m_fork m_told m_row m_hand → P o.1 o.2.1 o.2.2.1 o.2.2.2.1 o.2.2.2.2.1 o.2.2.2.2.2 → Q o.1 o.2.1 o.2.2.1 o.2.2.2.1 o.2.2.2.2.1 o.2.2.2.2.2) : wp_X10_ondays Q p0 m_fruits m_standings m_rowMany m_thrown m_wanted m_now m_x m_height m_ripe m_foot m_fork m_told m_row m_hand := by
  rw [F_X10_ondays] at hq
  refine ae ?_
  have h := h _ rfl
  refine du_X10_in h ?_
  intro h
  refine And.intro (fun c1 => ?_) (fun c1 => ?_)
  · have h := And.left h c1
    rw [if_neg c1] at hq
    refine du_X10_layHands h ?_
    intro h
    refine du_X10_firstRipe h ?_
    intro h
    refine du_X10_allStandings h ?_
    intro h
    refine du_X10_handOf h ?_
    intro h
    refine ae ?_
    have h := h _ rfl
    refine du_X10_tellCover hy0 h ?_
    intro h
    have q9 := hq _ rfl
    dsimp only at q9
    exact q9 h
  · have h := And.right h c1
    rw [if_pos c1] at hq
    have q9 := hq _ rfl
    dsimp only at q9
    exact q9 h
theorem du_X10_ondays {P Q : Int32 → Int32 → Int32 → Int32 → (Nat → Int32) → (Nat → Int32) → Prop} {p0 : Int32} {m_fruits : Int32} {m_standings : Int32} {m_rowMany : Int32} {m_thrown : Int32} {m_wanted : Int32} {m_now : Nat → Int32} {m_x : Nat → Int32} {m_height : Nat → Int32} {m_ripe : Nat → Int32} {m_foot : Nat → Int32} {m_fork : Nat → Int32} {m_told : Nat → Int32} {m_row : Nat → Int32} {m_hand : Nat → Int32} (hy0 : Int32.toInt (F_X10_allStandings m_standings) < 2147483647) (h : wp_X10_ondays P p0 m_fruits m_standings m_rowMany m_thrown m_wanted m_now m_x m_height m_ripe m_foot m_fork m_told m_row m_hand) (hq : P (F_X10_ondays p0 m_fruits m_standings m_rowMany m_thrown m_wanted m_now m_x m_height m_ripe m_foot m_fork m_told m_row m_hand).1 (F_X10_ondays p0 m_fruits m_standings m_rowMany m_thrown m_wanted m_now m_x m_height m_ripe m_foot m_fork m_told m_row m_hand).2.1 (F_X10_ondays p0 m_fruits m_standings m_rowMany m_thrown m_wanted m_now m_x m_height m_ripe m_foot m_fork m_told m_row m_hand).2.2.1 (F_X10_ondays p0 m_fruits m_standings m_rowMany m_thrown m_wanted m_now m_x m_height m_ripe m_foot m_fork m_told m_row m_hand).2.2.2.1 (F_X10_ondays p0 m_fruits m_standings m_rowMany m_thrown m_wanted m_now m_x m_height m_ripe m_foot m_fork m_told m_row m_hand).2.2.2.2.1 (F_X10_ondays p0 m_fruits m_standings m_rowMany m_thrown m_wanted m_now m_x m_height m_ripe m_foot m_fork m_told m_row m_hand).2.2.2.2.2 → Q (F_X10_ondays p0 m_fruits m_standings m_rowMany m_thrown m_wanted m_now m_x m_height m_ripe m_foot m_fork m_told m_row m_hand).1 (F_X10_ondays p0 m_fruits m_standings m_rowMany m_thrown m_wanted m_now m_x m_height m_ripe m_foot m_fork m_told m_row m_hand).2.1 (F_X10_ondays p0 m_fruits m_standings m_rowMany m_thrown m_wanted m_now m_x m_height m_ripe m_foot m_fork m_told m_row m_hand).2.2.1 (F_X10_ondays p0 m_fruits m_standings m_rowMany m_thrown m_wanted m_now m_x m_height m_ripe m_foot m_fork m_told m_row m_hand).2.2.2.1 (F_X10_ondays p0 m_fruits m_standings m_rowMany m_thrown m_wanted m_now m_x m_height m_ripe m_foot m_fork m_told m_row m_hand).2.2.2.2.1 (F_X10_ondays p0 m_fruits m_standings m_rowMany m_thrown m_wanted m_now m_x m_height m_ripe m_foot m_fork m_told m_row m_hand).2.2.2.2.2) : wp_X10_ondays Q p0 m_fruits m_standings m_rowMany m_thrown m_wanted m_now m_x m_height m_ripe m_foot m_fork m_told m_row m_hand := dt_X10_ondays hy0 h (fun o eo => by rw [eo]; exact hq)
theorem dw_X10_ondays {Q : Int32 → Int32 → Int32 → Int32 → (Nat → Int32) → (Nat → Int32) → Prop} {p0 : Int32} {m_fruits : Int32} {m_standings : Int32} {m_rowMany : Int32} {m_thrown : Int32} {m_wanted : Int32} {m_now : Nat → Int32} {m_x : Nat → Int32} {m_height : Nat → Int32} {m_ripe : Nat → Int32} {m_foot : Nat → Int32} {m_fork : Nat → Int32} {m_told : Nat → Int32} {m_row : Nat → Int32} {m_hand : Nat → Int32} (hy0 : Int32.toInt (F_X10_allStandings m_standings) < 2147483647) (h : wp_X10_ondays (fun o0 o1 o2 o3 o4 o5 => (o0, o1, o2, o3, o4, o5) = F_X10_ondays p0 m_fruits m_standings m_rowMany m_thrown m_wanted m_now m_x m_height m_ripe m_foot m_fork m_told m_row m_hand → Q o0 o1 o2 o3 o4 o5) p0 m_fruits m_standings m_rowMany m_thrown m_wanted m_now m_x m_height m_ripe m_foot m_fork m_told m_row m_hand) : wp_X10_ondays Q p0 m_fruits m_standings m_rowMany m_thrown m_wanted m_now m_x m_height m_ripe m_foot m_fork m_told m_row m_hand := dt_X10_ondays hy0 h (fun o eo hp => hp eo)
noncomputable def F_X10_allFruits (m_fruits : Int32) : Int32 := ((1 <<< (m_fruits &&& 31)) - 1)
set_option maxHeartbeats 200000 in
set_option maxRecDepth 10000 in
theorem dt_X10_allFruits {P Q : Int32 → Prop} {m_fruits : Int32} (h : wp_X10_allFruits P m_fruits) (hq : ∀ o : Int32, o = F_X10_allFruits m_fruits → P o → Q o) : wp_X10_allFruits Q m_fruits := by
  rw [F_X10_allFruits] at hq
  refine ae ?_
  have h := h _ rfl
  have q9 := hq _ rfl
  exact q9 h
theorem du_X10_allFruits {P Q : Int32 → Prop} {m_fruits : Int32} (h : wp_X10_allFruits P m_fruits) (hq : P (F_X10_allFruits m_fruits) → Q (F_X10_allFruits m_fruits)) : wp_X10_allFruits Q m_fruits := dt_X10_allFruits h (fun o eo => by rw [eo]; exact hq)
theorem dw_X10_allFruits {Q : Int32 → Prop} {m_fruits : Int32} (h : wp_X10_allFruits (fun o0 => o0 = F_X10_allFruits m_fruits → Q o0) m_fruits) : wp_X10_allFruits Q m_fruits := dt_X10_allFruits h (fun o eo hp => hp eo)
noncomputable def j_X10_fits_54 {R : Type} (k27 : Int32 → Int32 → Int32 → Int32 → Int32 → Int32 → (Nat → Int32) → (Nat → Int32) → R) (m_fruits : Int32) (m_standings : Int32) (m_now : Nat → Int32) (m_x : Nat → Int32) (m_height : Nat → Int32) (m_ripe : Nat → Int32) (m_foot : Nat → Int32) (m_fork : Nat → Int32) (m_told : Nat → Int32) (x1 : Int32) (x3 : Int32) (k0 : Int32) (k1 : Int32) (m_rowMany : Int32) (m_thrown : Int32) (m_wanted : Int32) (m_row : Nat → Int32) (m_hand : Nat → Int32) : R := k27 x1 (k0 ||| k1) (x3 + 1) m_rowMany m_thrown m_wanted m_row m_hand
noncomputable def bd_X10_fits_27 (m_fruits : Int32) (m_standings : Int32) (m_now : Nat → Int32) (m_x : Nat → Int32) (m_height : Nat → Int32) (m_ripe : Nat → Int32) (m_foot : Nat → Int32) (m_fork : Nat → Int32) (m_told : Nat → Int32) (x1 : Int32) (m_rowMany : Int32) (m_thrown : Int32) (m_wanted : Int32) (m_row : Nat → Int32) (m_hand : Nat → Int32) (c : Int32) (s : Int32) : Int32 := if ((m_hand c.toNatClampNeg) &&& x1) = 0 then (j_X10_fits_54 (fun q0 q1 q2 q3 q4 q5 q6 q7 => q1) m_fruits m_standings m_now m_x m_height m_ripe m_foot m_fork m_told x1 c s 0 m_rowMany m_thrown m_wanted m_row m_hand) else (j_X10_fits_54 (fun q0 q1 q2 q3 q4 q5 q6 q7 => q1) m_fruits m_standings m_now m_x m_height m_ripe m_foot m_fork m_told x1 c s (1 <<< (c &&& 31)) m_rowMany m_thrown m_wanted m_row m_hand)
noncomputable def j_X10_fits_156 {R : Type} (k73 : Int32 → Int32 → Int32 → Int32 → Int32 → Int32 → Int32 → Int32 → Int32 → (Nat → Int32) → (Nat → Int32) → R) (m_fruits : Int32) (m_standings : Int32) (m_now : Nat → Int32) (m_x : Nat → Int32) (m_height : Nat → Int32) (m_ripe : Nat → Int32) (m_foot : Nat → Int32) (m_fork : Nat → Int32) (m_told : Nat → Int32) (x1 : Int32) (x2 : Int32) (x3 : Int32) (x4 : Int32) (x5 : Int32) (x6 : Int32) (m_rowMany : Int32) (m_thrown : Int32) (m_wanted : Int32) (m_row : Nat → Int32) (m_hand : Nat → Int32) : R := k73 x1 x2 x3 x4 x5 (x6 + 1) m_rowMany m_thrown m_wanted m_row m_hand
noncomputable def j_X10_fits_152 {R : Type} (k73 : Int32 → Int32 → Int32 → Int32 → Int32 → Int32 → Int32 → Int32 → Int32 → (Nat → Int32) → (Nat → Int32) → R) (m_fruits : Int32) (m_standings : Int32) (m_now : Nat → Int32) (m_x : Nat → Int32) (m_height : Nat → Int32) (m_ripe : Nat → Int32) (m_foot : Nat → Int32) (m_fork : Nat → Int32) (m_told : Nat → Int32) (x1 : Int32) (x2 : Int32) (x3 : Int32) (x4 : Int32) (x6 : Int32) (m_rowMany : Int32) (m_thrown : Int32) (m_wanted : Int32) (m_row : Nat → Int32) (m_hand : Nat → Int32) : R := j_X10_fits_156 k73 m_fruits m_standings m_now m_x m_height m_ripe m_foot m_fork m_told x1 x2 x3 x4 x6 x6 m_rowMany m_thrown m_wanted m_row m_hand
noncomputable def j_X10_fits_133 {R : Type} (k73 : Int32 → Int32 → Int32 → Int32 → Int32 → Int32 → Int32 → Int32 → Int32 → (Nat → Int32) → (Nat → Int32) → R) (m_fruits : Int32) (m_standings : Int32) (m_now : Nat → Int32) (m_x : Nat → Int32) (m_height : Nat → Int32) (m_ripe : Nat → Int32) (m_foot : Nat → Int32) (m_fork : Nat → Int32) (m_told : Nat → Int32) (x1 : Int32) (x2 : Int32) (x3 : Int32) (x4 : Int32) (x5 : Int32) (x6 : Int32) (m_rowMany : Int32) (m_thrown : Int32) (m_wanted : Int32) (m_row : Nat → Int32) (m_hand : Nat → Int32) : R := if x5 = (-1) then (j_X10_fits_152 k73 m_fruits m_standings m_now m_x m_height m_ripe m_foot m_fork m_told x1 x2 x3 x4 x6 m_rowMany m_thrown m_wanted m_row m_hand) else (if (F_J6_bitCount_0f7a4 x6) ≤ (F_J6_bitCount_0f7a4 x5) then (j_X10_fits_156 k73 m_fruits m_standings m_now m_x m_height m_ripe m_foot m_fork m_told x1 x2 x3 x4 x5 x6 m_rowMany m_thrown m_wanted m_row m_hand) else (j_X10_fits_152 k73 m_fruits m_standings m_now m_x m_height m_ripe m_foot m_fork m_told x1 x2 x3 x4 x6 m_rowMany m_thrown m_wanted m_row m_hand))
noncomputable def j_X10_fits_129 {R : Type} (k73 : Int32 → Int32 → Int32 → Int32 → Int32 → Int32 → Int32 → Int32 → Int32 → (Nat → Int32) → (Nat → Int32) → R) (m_fruits : Int32) (m_standings : Int32) (m_now : Nat → Int32) (m_x : Nat → Int32) (m_height : Nat → Int32) (m_ripe : Nat → Int32) (m_foot : Nat → Int32) (m_fork : Nat → Int32) (m_told : Nat → Int32) (x1 : Int32) (x2 : Int32) (x3 : Int32) (x5 : Int32) (x6 : Int32) (m_rowMany : Int32) (m_thrown : Int32) (m_wanted : Int32) (m_row : Nat → Int32) (m_hand : Nat → Int32) : R := j_X10_fits_133 k73 m_fruits m_standings m_now m_x m_height m_ripe m_foot m_fork m_told x1 x2 x3 x6 x5 x6 m_rowMany m_thrown m_wanted m_row m_hand
noncomputable def bd_X10_fits_73 (m_fruits : Int32) (m_standings : Int32) (m_now : Nat → Int32) (m_x : Nat → Int32) (m_height : Nat → Int32) (m_ripe : Nat → Int32) (m_foot : Nat → Int32) (m_fork : Nat → Int32) (m_told : Nat → Int32) (x1 : Int32) (x2 : Int32) (m_rowMany : Int32) (m_thrown : Int32) (m_wanted : Int32) (m_row : Nat → Int32) (m_hand : Nat → Int32) (c : Int32) (s : Int32 × Int32 × Int32) : Int32 × Int32 × Int32 := if (c &&& (x2 ^^^ (-1))) = 0 then (if (x1 &&& ((F_X10_handOf c m_standings m_hand) ^^^ (-1))) = 0 then (if s.2.1 = (-1) then (j_X10_fits_129 (fun q0 q1 q2 q3 q4 q5 q6 q7 q8 q9 q10 => (q2, q3, q4)) m_fruits m_standings m_now m_x m_height m_ripe m_foot m_fork m_told x1 x2 (s.1 + 1) s.2.2 c m_rowMany m_thrown m_wanted m_row m_hand) else (if (F_J6_bitCount_0f7a4 s.2.1) ≤ (F_J6_bitCount_0f7a4 c) then (j_X10_fits_133 (fun q0 q1 q2 q3 q4 q5 q6 q7 q8 q9 q10 => (q2, q3, q4)) m_fruits m_standings m_now m_x m_height m_ripe m_foot m_fork m_told x1 x2 (s.1 + 1) s.2.1 s.2.2 c m_rowMany m_thrown m_wanted m_row m_hand) else (j_X10_fits_129 (fun q0 q1 q2 q3 q4 q5 q6 q7 q8 q9 q10 => (q2, q3, q4)) m_fruits m_standings m_now m_x m_height m_ripe m_foot m_fork m_told x1 x2 (s.1 + 1) s.2.2 c m_rowMany m_thrown m_wanted m_row m_hand))) else (j_X10_fits_156 (fun q0 q1 q2 q3 q4 q5 q6 q7 q8 q9 q10 => (q2, q3, q4)) m_fruits m_standings m_now m_x m_height m_ripe m_foot m_fork m_told x1 x2 s.1 s.2.1 s.2.2 c m_rowMany m_thrown m_wanted m_row m_hand)) else (j_X10_fits_156 (fun q0 q1 q2 q3 q4 q5 q6 q7 q8 q9 q10 => (q2, q3, q4)) m_fruits m_standings m_now m_x m_height m_ripe m_foot m_fork m_told x1 x2 s.1 s.2.1 s.2.2 c m_rowMany m_thrown m_wanted m_row m_hand)
