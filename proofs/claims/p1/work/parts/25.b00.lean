set_option maxHeartbeats 8000000 in
set_option maxRecDepth 200000 in
theorem fx_sign (post : Int32 → Int32 → (Nat → Int32) → Prop) (p0 : Int32) (h : ∀ r : Int32, r = 4 → ∀ o0 : Int32, ∀ o1 : (Nat → Int32), post r o0 o1) : wp_X9_sign post p0 0 (fun _ => 0) := by
  refine br_t (by decide +kernel) ?_
  refine Exists.intro 40 ?_
  refine br_f (by decide +kernel) ?_
  intro v1 ev1; subst ev1
  intro v2 ev2; subst ev2
  refine And.intro (g_in (by decide +kernel)) ?_
  intro v3 ev3; obtain rfl : v3 = 1 := ev3.trans (by decide +kernel)
  intro v4 ev4; obtain rfl : v4 = 16 := ev4.trans (by decide +kernel)
  refine br_f (by decide +kernel) ?_
  intro v5 ev5; subst ev5
  intro v6 ev6; subst ev6
  refine And.intro (g_in (by decide +kernel)) ?_
  intro v7 ev7; obtain rfl : v7 = 2 := ev7.trans (by decide +kernel)
  intro v8 ev8; obtain rfl : v8 = 8 := ev8.trans (by decide +kernel)
  refine br_f (by decide +kernel) ?_
  intro v9 ev9; subst ev9
  intro v10 ev10; subst ev10
  refine And.intro (g_in (by decide +kernel)) ?_
  intro v11 ev11; obtain rfl : v11 = 3 := ev11.trans (by decide +kernel)
  intro v12 ev12; obtain rfl : v12 = 0 := ev12.trans (by decide +kernel)
  refine br_f (by decide +kernel) ?_
  intro v13 ev13; subst ev13
  intro v14 ev14; subst ev14
  refine And.intro (g_in (by decide +kernel)) ?_
  intro v15 ev15; obtain rfl : v15 = 4 := ev15.trans (by decide +kernel)
  intro v16 ev16; obtain rfl : v16 = (-8) := ev16.trans (by decide +kernel)
  refine br_t (by decide +kernel) ?_
  exact h _ (by decide +kernel) _ _
set_option maxHeartbeats 8000000 in
set_option maxRecDepth 200000 in
theorem fx_end (post : Int32 → Int32 → Prop) (p0 : Int32) (h : ∀ r : Int32, r = (if p0 = 0 then 1 else 0) → ∀ o0 : Int32, post r o0) : wp_X9_end post p0 0 := by
  refine And.intro (fun hc1 => ?_) (fun hc1 => ?_)
  · skip
    refine And.intro rfl ?_
    exact h _ ((if_neg (fun q0 => absurd ((fa_eq p0 0).mp q0) (by have l_0 : (0 : Int32).toInt = 0 := (by decide); have g_hc1 := (fa_lt p0 0).mp hc1; omega))).symm) _
  · skip
    refine And.intro (fun hc2 => ?_) (fun hc2 => ?_)
    · skip
      obtain rfl : p0 = 0 := (fa_eq _ _).mpr (by have l_0 : (0 : Int32).toInt = 0 := (by decide); have g_hc1 := mt (fa_lt p0 0).mpr hc1; have g_hc2 := (fa_le p0 0).mp hc2; omega)
      refine And.intro rfl ?_
      exact h _ ((if_pos (by decide +kernel)).symm) _
    · skip
      refine And.intro rfl ?_
      exact h _ ((if_neg (fun q0 => absurd ((fa_eq p0 0).mp q0) (by have l_0 : (0 : Int32).toInt = 0 := (by decide); have g_hc1 := mt (fa_lt p0 0).mpr hc1; have g_hc2 := mt (fa_le p0 0).mpr hc2; omega))).symm) _
set_option maxHeartbeats 8000000 in
set_option maxRecDepth 200000 in
theorem fx_orchard (post : Int32 → Int32 → Int32 → Int32 → Int32 → Int32 → Int32 → Int32 → (Nat → Int32) → (Nat → Int32) → (Nat → Int32) → (Nat → Int32) → (Nat → Int32) → (Nat → Int32) → Int32 → (Nat → Int32) → Prop) (h : ∀ r : Int32, r = 0 → ∀ o0 : Int32, ∀ o1 : Int32, ∀ o2 : Int32, ∀ o3 : Int32, ∀ o4 : Int32, ∀ o5 : Int32, ∀ o6 : Int32, ∀ o7 : (Nat → Int32), ∀ o8 : (Nat → Int32), ∀ o9 : (Nat → Int32), ∀ o10 : (Nat → Int32), ∀ o11 : (Nat → Int32), ∀ o12 : (Nat → Int32), ∀ o13 : Int32, ∀ o14 : (Nat → Int32), post r o0 o1 o2 o3 o4 o5 o6 o7 o8 o9 o10 o11 o12 o13 o14) : wp_X9_orchard post 0 0 0 (fun _ => 0) 0 0 0 0 (fun _ => 0) (fun _ => 0) (fun _ => 0) (fun _ => 0) (fun _ => 0) (fun _ => 0) 0 (fun _ => 0) := by
  intro v1 ev1; obtain rfl : v1 = 0 := ev1.trans (by decide +kernel)
  refine And.intro (fun h9 => absurd rfl h9) (fun _ => ?_)
  refine br_f (by decide +kernel) ?_
  refine And.intro (fun h9 => absurd rfl h9) (fun _ => ?_)
  refine br_f (by decide +kernel) ?_
  refine br_f (by decide +kernel) ?_
  refine br_f (by decide +kernel) ?_
  refine br_t (by decide +kernel) ?_
  exact h _ (by decide +kernel) _ _ _ _ _ _ _ _ _ _ _ _ _ _ _
set_option maxHeartbeats 8000000 in
set_option maxRecDepth 200000 in
theorem fx_rule (post : Int32 → Int32 → Int32 → Int32 → Int32 → Int32 → Int32 → Int32 → Int32 → Int32 → (Nat → Int32) → (Nat → Int32) → (Nat → Int32) → Prop) (h : ∀ r : Int32, r = 0 → ∀ o0 : Int32, ∀ o1 : Int32, ∀ o2 : Int32, ∀ o3 : Int32, ∀ o4 : Int32, ∀ o5 : Int32, ∀ o6 : Int32, ∀ o7 : Int32, ∀ o8 : Int32, ∀ o9 : (Nat → Int32), ∀ o10 : (Nat → Int32), ∀ o11 : (Nat → Int32), post r o0 o1 o2 o3 o4 o5 o6 o7 o8 o9 o10 o11) : wp_X9_rule post 0 0 0 (fun _ => 0) 0 0 0 0 0 0 (fun _ => 0) (fun _ => 0) (fun _ => 0) := by
  intro v1 ev1; obtain rfl : v1 = 0 := ev1.trans (by decide +kernel)
  refine And.intro (fun h9 => absurd rfl h9) (fun _ => ?_)
  exact h _ (by decide +kernel) _ _ _ _ _ _ _ _ _ _ _ _
set_option maxHeartbeats 8000000 in
set_option maxRecDepth 200000 in
theorem fx_sheet (post : Int32 → (Nat → Int32) → Prop) (p0 : Int32) (p1 : Int32) (p2 : Int32) (p3 : Int32) (h : ∀ r : Int32, r = (if p0 < 0 then (-1) else (if 3 < p0 then (-1) else (if 16 < p1 then (-1) else (if p0 = 3 then (-3) else (if p1 < 0 then (-2) else 0))))) → ∀ o0 : (Nat → Int32), post r o0) : wp_X9_sheet post p0 p1 p2 p3 0 (fun _ => 0) := by
  refine And.intro (fun hc1 => ?_) (fun hc1 => ?_)
  · skip
    exact h _ ((if_pos ((fa_lt p0 0).mpr (by have l_0 : (0 : Int32).toInt = 0 := (by decide); have g_hc1 := (fa_lt p0 0).mp hc1; omega))).symm) _
  · skip
    refine And.intro (fun hc2 => ?_) (fun hc2 => ?_)
    · skip
      exact h _ (((if_neg (fun q0 => absurd ((fa_lt p0 0).mp q0) (by have l_0 : (0 : Int32).toInt = 0 := (by decide); have l_1 : (3 : Int32).toInt = 3 := (by decide); have g_hc1 := mt (fa_lt p0 0).mpr hc1; have g_hc2 := (fa_lt 3 p0).mp hc2; omega))).trans (if_pos ((fa_lt 3 p0).mpr (by have l_0 : (0 : Int32).toInt = 0 := (by decide); have l_1 : (3 : Int32).toInt = 3 := (by decide); have g_hc1 := mt (fa_lt p0 0).mpr hc1; have g_hc2 := (fa_lt 3 p0).mp hc2; omega)))).symm) _
    · skip
      refine And.intro (fun hc3 => ?_) (fun hc3 => ?_)
      · skip
        refine And.intro (fun hc4 => ?_) (fun hc4 => ?_)
        · skip
          refine And.intro (fun hc5 => ?_) (fun hc5 => ?_)
          · skip
            refine Exists.intro 40 ?_
            refine br_t (by decide +kernel) ?_
            exact h _ ((((((if_neg (fun q0 => absurd ((fa_lt p0 0).mp q0) (by have l_0 : (0 : Int32).toInt = 0 := (by decide); have l_1 : (3 : Int32).toInt = 3 := (by decide); have g_hc1 := mt (fa_lt p0 0).mpr hc1; have g_hc2 := mt (fa_lt 3 p0).mpr hc2; have g_hc4 := mt (fa_eq p0 3).mpr hc4; omega))).trans (if_neg (fun q0 => absurd ((fa_lt 3 p0).mp q0) (by have l_0 : (0 : Int32).toInt = 0 := (by decide); have l_1 : (3 : Int32).toInt = 3 := (by decide); have g_hc1 := mt (fa_lt p0 0).mpr hc1; have g_hc2 := mt (fa_lt 3 p0).mpr hc2; have g_hc4 := mt (fa_eq p0 3).mpr hc4; omega)))).trans (if_neg (fun q0 => absurd ((fa_lt 16 p1).mp q0) (by have l_0 : (0 : Int32).toInt = 0 := (by decide); have l_1 : (16 : Int32).toInt = 16 := (by decide); have g_hc3 := (fa_le p1 16).mp hc3; have g_hc5 := (fa_le 0 p1).mp hc5; omega)))).trans (if_neg (fun q0 => absurd ((fa_eq p0 3).mp q0) (by have l_0 : (0 : Int32).toInt = 0 := (by decide); have l_1 : (3 : Int32).toInt = 3 := (by decide); have g_hc1 := mt (fa_lt p0 0).mpr hc1; have g_hc2 := mt (fa_lt 3 p0).mpr hc2; have g_hc4 := mt (fa_eq p0 3).mpr hc4; omega)))).trans (if_neg (fun q0 => absurd ((fa_lt p1 0).mp q0) (by have l_0 : (0 : Int32).toInt = 0 := (by decide); have l_1 : (16 : Int32).toInt = 16 := (by decide); have g_hc3 := (fa_le p1 16).mp hc3; have g_hc5 := (fa_le 0 p1).mp hc5; omega)))).symm) _
          · skip
            exact h _ ((((((if_neg (fun q0 => absurd ((fa_lt p0 0).mp q0) (by have l_0 : (0 : Int32).toInt = 0 := (by decide); have l_1 : (3 : Int32).toInt = 3 := (by decide); have g_hc1 := mt (fa_lt p0 0).mpr hc1; have g_hc2 := mt (fa_lt 3 p0).mpr hc2; have g_hc4 := mt (fa_eq p0 3).mpr hc4; omega))).trans (if_neg (fun q0 => absurd ((fa_lt 3 p0).mp q0) (by have l_0 : (0 : Int32).toInt = 0 := (by decide); have l_1 : (3 : Int32).toInt = 3 := (by decide); have g_hc1 := mt (fa_lt p0 0).mpr hc1; have g_hc2 := mt (fa_lt 3 p0).mpr hc2; have g_hc4 := mt (fa_eq p0 3).mpr hc4; omega)))).trans (if_neg (fun q0 => absurd ((fa_lt 16 p1).mp q0) (by have l_0 : (0 : Int32).toInt = 0 := (by decide); have l_1 : (16 : Int32).toInt = 16 := (by decide); have g_hc3 := (fa_le p1 16).mp hc3; have g_hc5 := mt (fa_le 0 p1).mpr hc5; omega)))).trans (if_neg (fun q0 => absurd ((fa_eq p0 3).mp q0) (by have l_0 : (0 : Int32).toInt = 0 := (by decide); have l_1 : (3 : Int32).toInt = 3 := (by decide); have g_hc1 := mt (fa_lt p0 0).mpr hc1; have g_hc2 := mt (fa_lt 3 p0).mpr hc2; have g_hc4 := mt (fa_eq p0 3).mpr hc4; omega)))).trans (if_pos ((fa_lt p1 0).mpr (by have l_0 : (0 : Int32).toInt = 0 := (by decide); have l_1 : (16 : Int32).toInt = 16 := (by decide); have g_hc3 := (fa_le p1 16).mp hc3; have g_hc5 := mt (fa_le 0 p1).mpr hc5; omega)))).symm) _
        · skip
          obtain rfl : p0 = 3 := (fa_eq _ _).mpr (by have l_0 : (0 : Int32).toInt = 0 := (by decide); have l_1 : (3 : Int32).toInt = 3 := (by decide); have g_hc1 := mt (fa_lt p0 0).mpr hc1; have g_hc2 := mt (fa_lt 3 p0).mpr hc2; have g_hc4 := (fa_eq p0 3).mp hc4; omega)
          refine Exists.intro 40 ?_
          refine br_t (by decide +kernel) ?_
          exact h _ (((((if_neg (by decide +kernel)).trans (if_neg (by decide +kernel))).trans (if_neg (fun q0 => absurd ((fa_lt 16 p1).mp q0) (by have l_0 : (16 : Int32).toInt = 16 := (by decide); have g_hc3 := (fa_le p1 16).mp hc3; omega)))).trans (if_pos (by decide +kernel))).symm) _
      · skip
        exact h _ ((((if_neg (fun q0 => absurd ((fa_lt p0 0).mp q0) (by have l_0 : (0 : Int32).toInt = 0 := (by decide); have l_1 : (3 : Int32).toInt = 3 := (by decide); have g_hc1 := mt (fa_lt p0 0).mpr hc1; have g_hc2 := mt (fa_lt 3 p0).mpr hc2; omega))).trans (if_neg (fun q0 => absurd ((fa_lt 3 p0).mp q0) (by have l_0 : (0 : Int32).toInt = 0 := (by decide); have l_1 : (3 : Int32).toInt = 3 := (by decide); have g_hc1 := mt (fa_lt p0 0).mpr hc1; have g_hc2 := mt (fa_lt 3 p0).mpr hc2; omega)))).trans (if_pos ((fa_lt 16 p1).mpr (by have l_0 : (16 : Int32).toInt = 16 := (by decide); have g_hc3 := mt (fa_le p1 16).mpr hc3; omega)))).symm) _
set_option maxHeartbeats 8000000 in
set_option maxRecDepth 200000 in
theorem fx_set (post : Int32 → (Nat → Int32) → Prop) (p0 : Int32) (p1 : Int32) (h : ∀ r : Int32, r = (if p0 = 0 then (if p1 < 0 then (-1) else (if 30 < p1 then (-1) else 8)) else (if p0 = 1 then (if p1 < 0 then (-1) else (if 30 < p1 then (-1) else 3)) else (if p0 = 2 then (if p1 < 0 then (-1) else (if 30 < p1 then (-1) else 5)) else (if p0 = 3 then (if p1 < 0 then (-1) else (if 9 < p1 then (-1) else 1)) else (if p0 = 4 then (if p1 < 1 then (-1) else (if 16 < p1 then (-1) else 6)) else (-1)))))) → ∀ o0 : (Nat → Int32), post r o0) : wp_X9_set post p0 p1 (upd (upd (upd (upd (upd (fun _ => 0) (0 : Int32).toNatClampNeg 8) (1 : Int32).toNatClampNeg 3) (2 : Int32).toNatClampNeg 5) (3 : Int32).toNatClampNeg 1) (4 : Int32).toNatClampNeg 6) := by
  by_cases hc1 : p0 = 0
  · skip
    obtain rfl : p0 = 0 := (fa_eq _ _).mpr (by have l_0 : (0 : Int32).toInt = 0 := (by decide); have g_hc1 := (fa_eq p0 0).mp hc1; omega)
    refine br_f (by decide +kernel) ?_
    refine br_f (by decide +kernel) ?_
    refine And.intro (g_in (by decide +kernel)) ?_
    refine And.intro (fun hc2 => ?_) (fun hc2 => ?_)
    · skip
      exact h _ (((if_pos (by decide +kernel)).trans (if_pos ((fa_lt p1 0).mpr (by have l_0 : (0 : Int32).toInt = 0 := (by decide); have g_hc2 := (fa_lt p1 0).mp hc2; omega)))).symm) _
    · skip
      refine And.intro (g_in (by decide +kernel)) ?_
      refine And.intro (fun hc3 => ?_) (fun hc3 => ?_)
      · skip
        refine And.intro (g_in (by decide +kernel)) ?_
        intro v4 ev4; obtain rfl : v4 = 8 := ev4.trans (by decide +kernel)
        refine And.intro (g_in (by decide +kernel)) ?_
        exact h _ ((((if_pos (by decide +kernel)).trans (if_neg (fun q0 => absurd ((fa_lt p1 0).mp q0) (by have l_0 : (0 : Int32).toInt = 0 := (by decide); have l_1 : (30 : Int32).toInt = 30 := (by decide); have g_hc2 := mt (fa_lt p1 0).mpr hc2; have g_hc3 := (fa_le p1 30).mp hc3; omega)))).trans (if_neg (fun q0 => absurd ((fa_lt 30 p1).mp q0) (by have l_0 : (0 : Int32).toInt = 0 := (by decide); have l_1 : (30 : Int32).toInt = 30 := (by decide); have g_hc2 := mt (fa_lt p1 0).mpr hc2; have g_hc3 := (fa_le p1 30).mp hc3; omega)))).symm) _
      · skip
        exact h _ ((((if_pos (by decide +kernel)).trans (if_neg (fun q0 => absurd ((fa_lt p1 0).mp q0) (by have l_0 : (0 : Int32).toInt = 0 := (by decide); have l_1 : (30 : Int32).toInt = 30 := (by decide); have g_hc2 := mt (fa_lt p1 0).mpr hc2; have g_hc3 := mt (fa_le p1 30).mpr hc3; omega)))).trans (if_pos ((fa_lt 30 p1).mpr (by have l_0 : (0 : Int32).toInt = 0 := (by decide); have l_1 : (30 : Int32).toInt = 30 := (by decide); have g_hc2 := mt (fa_lt p1 0).mpr hc2; have g_hc3 := mt (fa_le p1 30).mpr hc3; omega)))).symm) _
  by_cases hc5 : p0 = 1
  · skip
    obtain rfl : p0 = 1 := (fa_eq _ _).mpr (by have l_0 : (0 : Int32).toInt = 0 := (by decide); have l_1 : (1 : Int32).toInt = 1 := (by decide); have g_hc1 := mt (fa_eq p0 0).mpr hc1; have g_hc5 := (fa_eq p0 1).mp hc5; omega)
    refine br_f (by decide +kernel) ?_
    refine br_f (by decide +kernel) ?_
    refine And.intro (g_in (by decide +kernel)) ?_
    refine And.intro (fun hc6 => ?_) (fun hc6 => ?_)
    · skip
      exact h _ ((((if_neg (by decide +kernel)).trans (if_pos (by decide +kernel))).trans (if_pos ((fa_lt p1 0).mpr (by have l_0 : (0 : Int32).toInt = 0 := (by decide); have g_hc6 := (fa_lt p1 0).mp hc6; omega)))).symm) _
    · skip
      refine And.intro (g_in (by decide +kernel)) ?_
      refine And.intro (fun hc7 => ?_) (fun hc7 => ?_)
      · skip
        refine And.intro (g_in (by decide +kernel)) ?_
        intro v8 ev8; obtain rfl : v8 = 3 := ev8.trans (by decide +kernel)
        refine And.intro (g_in (by decide +kernel)) ?_
        exact h _ (((((if_neg (by decide +kernel)).trans (if_pos (by decide +kernel))).trans (if_neg (fun q0 => absurd ((fa_lt p1 0).mp q0) (by have l_0 : (0 : Int32).toInt = 0 := (by decide); have l_1 : (30 : Int32).toInt = 30 := (by decide); have g_hc6 := mt (fa_lt p1 0).mpr hc6; have g_hc7 := (fa_le p1 30).mp hc7; omega)))).trans (if_neg (fun q0 => absurd ((fa_lt 30 p1).mp q0) (by have l_0 : (0 : Int32).toInt = 0 := (by decide); have l_1 : (30 : Int32).toInt = 30 := (by decide); have g_hc6 := mt (fa_lt p1 0).mpr hc6; have g_hc7 := (fa_le p1 30).mp hc7; omega)))).symm) _
      · skip
        exact h _ (((((if_neg (by decide +kernel)).trans (if_pos (by decide +kernel))).trans (if_neg (fun q0 => absurd ((fa_lt p1 0).mp q0) (by have l_0 : (0 : Int32).toInt = 0 := (by decide); have l_1 : (30 : Int32).toInt = 30 := (by decide); have g_hc6 := mt (fa_lt p1 0).mpr hc6; have g_hc7 := mt (fa_le p1 30).mpr hc7; omega)))).trans (if_pos ((fa_lt 30 p1).mpr (by have l_0 : (0 : Int32).toInt = 0 := (by decide); have l_1 : (30 : Int32).toInt = 30 := (by decide); have g_hc6 := mt (fa_lt p1 0).mpr hc6; have g_hc7 := mt (fa_le p1 30).mpr hc7; omega)))).symm) _
  by_cases hc9 : p0 = 2
  · skip
    obtain rfl : p0 = 2 := (fa_eq _ _).mpr (by have l_0 : (0 : Int32).toInt = 0 := (by decide); have l_1 : (1 : Int32).toInt = 1 := (by decide); have l_2 : (2 : Int32).toInt = 2 := (by decide); have g_hc1 := mt (fa_eq p0 0).mpr hc1; have g_hc5 := mt (fa_eq p0 1).mpr hc5; have g_hc9 := (fa_eq p0 2).mp hc9; omega)
    refine br_f (by decide +kernel) ?_
    refine br_f (by decide +kernel) ?_
    refine And.intro (g_in (by decide +kernel)) ?_
    refine And.intro (fun hc10 => ?_) (fun hc10 => ?_)
    · skip
      exact h _ (((((if_neg (by decide +kernel)).trans (if_neg (by decide +kernel))).trans (if_pos (by decide +kernel))).trans (if_pos ((fa_lt p1 0).mpr (by have l_0 : (0 : Int32).toInt = 0 := (by decide); have g_hc10 := (fa_lt p1 0).mp hc10; omega)))).symm) _
    · skip
      refine And.intro (g_in (by decide +kernel)) ?_
      refine And.intro (fun hc11 => ?_) (fun hc11 => ?_)
      · skip
        refine And.intro (g_in (by decide +kernel)) ?_
        intro v12 ev12; obtain rfl : v12 = 5 := ev12.trans (by decide +kernel)
        refine And.intro (g_in (by decide +kernel)) ?_
        exact h _ ((((((if_neg (by decide +kernel)).trans (if_neg (by decide +kernel))).trans (if_pos (by decide +kernel))).trans (if_neg (fun q0 => absurd ((fa_lt p1 0).mp q0) (by have l_0 : (0 : Int32).toInt = 0 := (by decide); have l_1 : (30 : Int32).toInt = 30 := (by decide); have g_hc10 := mt (fa_lt p1 0).mpr hc10; have g_hc11 := (fa_le p1 30).mp hc11; omega)))).trans (if_neg (fun q0 => absurd ((fa_lt 30 p1).mp q0) (by have l_0 : (0 : Int32).toInt = 0 := (by decide); have l_1 : (30 : Int32).toInt = 30 := (by decide); have g_hc10 := mt (fa_lt p1 0).mpr hc10; have g_hc11 := (fa_le p1 30).mp hc11; omega)))).symm) _
      · skip
        exact h _ ((((((if_neg (by decide +kernel)).trans (if_neg (by decide +kernel))).trans (if_pos (by decide +kernel))).trans (if_neg (fun q0 => absurd ((fa_lt p1 0).mp q0) (by have l_0 : (0 : Int32).toInt = 0 := (by decide); have l_1 : (30 : Int32).toInt = 30 := (by decide); have g_hc10 := mt (fa_lt p1 0).mpr hc10; have g_hc11 := mt (fa_le p1 30).mpr hc11; omega)))).trans (if_pos ((fa_lt 30 p1).mpr (by have l_0 : (0 : Int32).toInt = 0 := (by decide); have l_1 : (30 : Int32).toInt = 30 := (by decide); have g_hc10 := mt (fa_lt p1 0).mpr hc10; have g_hc11 := mt (fa_le p1 30).mpr hc11; omega)))).symm) _
  by_cases hc13 : p0 = 3
  · skip
    obtain rfl : p0 = 3 := (fa_eq _ _).mpr (by have l_0 : (0 : Int32).toInt = 0 := (by decide); have l_1 : (1 : Int32).toInt = 1 := (by decide); have l_2 : (2 : Int32).toInt = 2 := (by decide); have l_3 : (3 : Int32).toInt = 3 := (by decide); have g_hc1 := mt (fa_eq p0 0).mpr hc1; have g_hc5 := mt (fa_eq p0 1).mpr hc5; have g_hc9 := mt (fa_eq p0 2).mpr hc9; have g_hc13 := (fa_eq p0 3).mp hc13; omega)
    refine br_f (by decide +kernel) ?_
    refine br_f (by decide +kernel) ?_
    refine And.intro (g_in (by decide +kernel)) ?_
    refine And.intro (fun hc14 => ?_) (fun hc14 => ?_)
    · skip
      exact h _ ((((((if_neg (by decide +kernel)).trans (if_neg (by decide +kernel))).trans (if_neg (by decide +kernel))).trans (if_pos (by decide +kernel))).trans (if_pos ((fa_lt p1 0).mpr (by have l_0 : (0 : Int32).toInt = 0 := (by decide); have g_hc14 := (fa_lt p1 0).mp hc14; omega)))).symm) _
    · skip
      refine And.intro (g_in (by decide +kernel)) ?_
      refine And.intro (fun hc15 => ?_) (fun hc15 => ?_)
      · skip
        refine And.intro (g_in (by decide +kernel)) ?_
        intro v16 ev16; obtain rfl : v16 = 1 := ev16.trans (by decide +kernel)
        refine And.intro (g_in (by decide +kernel)) ?_
        exact h _ (((((((if_neg (by decide +kernel)).trans (if_neg (by decide +kernel))).trans (if_neg (by decide +kernel))).trans (if_pos (by decide +kernel))).trans (if_neg (fun q0 => absurd ((fa_lt p1 0).mp q0) (by have l_0 : (0 : Int32).toInt = 0 := (by decide); have l_1 : (9 : Int32).toInt = 9 := (by decide); have g_hc14 := mt (fa_lt p1 0).mpr hc14; have g_hc15 := (fa_le p1 9).mp hc15; omega)))).trans (if_neg (fun q0 => absurd ((fa_lt 9 p1).mp q0) (by have l_0 : (0 : Int32).toInt = 0 := (by decide); have l_1 : (9 : Int32).toInt = 9 := (by decide); have g_hc14 := mt (fa_lt p1 0).mpr hc14; have g_hc15 := (fa_le p1 9).mp hc15; omega)))).symm) _
      · skip
        exact h _ (((((((if_neg (by decide +kernel)).trans (if_neg (by decide +kernel))).trans (if_neg (by decide +kernel))).trans (if_pos (by decide +kernel))).trans (if_neg (fun q0 => absurd ((fa_lt p1 0).mp q0) (by have l_0 : (0 : Int32).toInt = 0 := (by decide); have l_1 : (9 : Int32).toInt = 9 := (by decide); have g_hc14 := mt (fa_lt p1 0).mpr hc14; have g_hc15 := mt (fa_le p1 9).mpr hc15; omega)))).trans (if_pos ((fa_lt 9 p1).mpr (by have l_0 : (0 : Int32).toInt = 0 := (by decide); have l_1 : (9 : Int32).toInt = 9 := (by decide); have g_hc14 := mt (fa_lt p1 0).mpr hc14; have g_hc15 := mt (fa_le p1 9).mpr hc15; omega)))).symm) _
  by_cases hc17 : p0 = 4
  · skip
    obtain rfl : p0 = 4 := (fa_eq _ _).mpr (by have l_0 : (0 : Int32).toInt = 0 := (by decide); have l_1 : (1 : Int32).toInt = 1 := (by decide); have l_2 : (2 : Int32).toInt = 2 := (by decide); have l_3 : (3 : Int32).toInt = 3 := (by decide); have l_4 : (4 : Int32).toInt = 4 := (by decide); have g_hc1 := mt (fa_eq p0 0).mpr hc1; have g_hc5 := mt (fa_eq p0 1).mpr hc5; have g_hc9 := mt (fa_eq p0 2).mpr hc9; have g_hc13 := mt (fa_eq p0 3).mpr hc13; have g_hc17 := (fa_eq p0 4).mp hc17; omega)
    refine br_f (by decide +kernel) ?_
    refine br_f (by decide +kernel) ?_
    refine And.intro (g_in (by decide +kernel)) ?_
    refine And.intro (fun hc18 => ?_) (fun hc18 => ?_)
    · skip
      exact h _ (((((((if_neg (by decide +kernel)).trans (if_neg (by decide +kernel))).trans (if_neg (by decide +kernel))).trans (if_neg (by decide +kernel))).trans (if_pos (by decide +kernel))).trans (if_pos ((fa_lt p1 1).mpr (by have l_0 : (1 : Int32).toInt = 1 := (by decide); have g_hc18 := (fa_lt p1 1).mp hc18; omega)))).symm) _
    · skip
      refine And.intro (g_in (by decide +kernel)) ?_
      refine And.intro (fun hc19 => ?_) (fun hc19 => ?_)
      · skip
        refine And.intro (g_in (by decide +kernel)) ?_
        intro v20 ev20; obtain rfl : v20 = 6 := ev20.trans (by decide +kernel)
        refine And.intro (g_in (by decide +kernel)) ?_
        exact h _ ((((((((if_neg (by decide +kernel)).trans (if_neg (by decide +kernel))).trans (if_neg (by decide +kernel))).trans (if_neg (by decide +kernel))).trans (if_pos (by decide +kernel))).trans (if_neg (fun q0 => absurd ((fa_lt p1 1).mp q0) (by have l_0 : (1 : Int32).toInt = 1 := (by decide); have l_1 : (16 : Int32).toInt = 16 := (by decide); have g_hc18 := mt (fa_lt p1 1).mpr hc18; have g_hc19 := (fa_le p1 16).mp hc19; omega)))).trans (if_neg (fun q0 => absurd ((fa_lt 16 p1).mp q0) (by have l_0 : (1 : Int32).toInt = 1 := (by decide); have l_1 : (16 : Int32).toInt = 16 := (by decide); have g_hc18 := mt (fa_lt p1 1).mpr hc18; have g_hc19 := (fa_le p1 16).mp hc19; omega)))).symm) _
      · skip
        exact h _ ((((((((if_neg (by decide +kernel)).trans (if_neg (by decide +kernel))).trans (if_neg (by decide +kernel))).trans (if_neg (by decide +kernel))).trans (if_pos (by decide +kernel))).trans (if_neg (fun q0 => absurd ((fa_lt p1 1).mp q0) (by have l_0 : (1 : Int32).toInt = 1 := (by decide); have l_1 : (16 : Int32).toInt = 16 := (by decide); have g_hc18 := mt (fa_lt p1 1).mpr hc18; have g_hc19 := mt (fa_le p1 16).mpr hc19; omega)))).trans (if_pos ((fa_lt 16 p1).mpr (by have l_0 : (1 : Int32).toInt = 1 := (by decide); have l_1 : (16 : Int32).toInt = 16 := (by decide); have g_hc18 := mt (fa_lt p1 1).mpr hc18; have g_hc19 := mt (fa_le p1 16).mpr hc19; omega)))).symm) _
  refine And.intro (fun hc21 => ?_) (fun hc21 => ?_)
  · skip
    exact h _ ((((((if_neg (fun q0 => absurd ((fa_eq p0 0).mp q0) (by have l_0 : (0 : Int32).toInt = 0 := (by decide); have l_1 : (1 : Int32).toInt = 1 := (by decide); have l_2 : (2 : Int32).toInt = 2 := (by decide); have l_3 : (3 : Int32).toInt = 3 := (by decide); have l_4 : (4 : Int32).toInt = 4 := (by decide); have g_hc1 := mt (fa_eq p0 0).mpr hc1; have g_hc5 := mt (fa_eq p0 1).mpr hc5; have g_hc9 := mt (fa_eq p0 2).mpr hc9; have g_hc13 := mt (fa_eq p0 3).mpr hc13; have g_hc17 := mt (fa_eq p0 4).mpr hc17; have g_hc21 := (fa_lt p0 0).mp hc21; omega))).trans (if_neg (fun q0 => absurd ((fa_eq p0 1).mp q0) (by have l_0 : (0 : Int32).toInt = 0 := (by decide); have l_1 : (1 : Int32).toInt = 1 := (by decide); have l_2 : (2 : Int32).toInt = 2 := (by decide); have l_3 : (3 : Int32).toInt = 3 := (by decide); have l_4 : (4 : Int32).toInt = 4 := (by decide); have g_hc1 := mt (fa_eq p0 0).mpr hc1; have g_hc5 := mt (fa_eq p0 1).mpr hc5; have g_hc9 := mt (fa_eq p0 2).mpr hc9; have g_hc13 := mt (fa_eq p0 3).mpr hc13; have g_hc17 := mt (fa_eq p0 4).mpr hc17; have g_hc21 := (fa_lt p0 0).mp hc21; omega)))).trans (if_neg (fun q0 => absurd ((fa_eq p0 2).mp q0) (by have l_0 : (0 : Int32).toInt = 0 := (by decide); have l_1 : (1 : Int32).toInt = 1 := (by decide); have l_2 : (2 : Int32).toInt = 2 := (by decide); have l_3 : (3 : Int32).toInt = 3 := (by decide); have l_4 : (4 : Int32).toInt = 4 := (by decide); have g_hc1 := mt (fa_eq p0 0).mpr hc1; have g_hc5 := mt (fa_eq p0 1).mpr hc5; have g_hc9 := mt (fa_eq p0 2).mpr hc9; have g_hc13 := mt (fa_eq p0 3).mpr hc13; have g_hc17 := mt (fa_eq p0 4).mpr hc17; have g_hc21 := (fa_lt p0 0).mp hc21; omega)))).trans (if_neg (fun q0 => absurd ((fa_eq p0 3).mp q0) (by have l_0 : (0 : Int32).toInt = 0 := (by decide); have l_1 : (1 : Int32).toInt = 1 := (by decide); have l_2 : (2 : Int32).toInt = 2 := (by decide); have l_3 : (3 : Int32).toInt = 3 := (by decide); have l_4 : (4 : Int32).toInt = 4 := (by decide); have g_hc1 := mt (fa_eq p0 0).mpr hc1; have g_hc5 := mt (fa_eq p0 1).mpr hc5; have g_hc9 := mt (fa_eq p0 2).mpr hc9; have g_hc13 := mt (fa_eq p0 3).mpr hc13; have g_hc17 := mt (fa_eq p0 4).mpr hc17; have g_hc21 := (fa_lt p0 0).mp hc21; omega)))).trans (if_neg (fun q0 => absurd ((fa_eq p0 4).mp q0) (by have l_0 : (0 : Int32).toInt = 0 := (by decide); have l_1 : (1 : Int32).toInt = 1 := (by decide); have l_2 : (2 : Int32).toInt = 2 := (by decide); have l_3 : (3 : Int32).toInt = 3 := (by decide); have l_4 : (4 : Int32).toInt = 4 := (by decide); have g_hc1 := mt (fa_eq p0 0).mpr hc1; have g_hc5 := mt (fa_eq p0 1).mpr hc5; have g_hc9 := mt (fa_eq p0 2).mpr hc9; have g_hc13 := mt (fa_eq p0 3).mpr hc13; have g_hc17 := mt (fa_eq p0 4).mpr hc17; have g_hc21 := (fa_lt p0 0).mp hc21; omega)))).symm) _
  · skip
    refine br_t ((fa_lt 4 p0).mpr (by have l_0 : (0 : Int32).toInt = 0 := (by decide); have l_1 : (1 : Int32).toInt = 1 := (by decide); have l_2 : (2 : Int32).toInt = 2 := (by decide); have l_3 : (3 : Int32).toInt = 3 := (by decide); have l_4 : (4 : Int32).toInt = 4 := (by decide); have g_hc1 := mt (fa_eq p0 0).mpr hc1; have g_hc5 := mt (fa_eq p0 1).mpr hc5; have g_hc9 := mt (fa_eq p0 2).mpr hc9; have g_hc13 := mt (fa_eq p0 3).mpr hc13; have g_hc17 := mt (fa_eq p0 4).mpr hc17; have g_hc21 := mt (fa_lt p0 0).mpr hc21; omega)) ?_
    exact h _ ((((((if_neg (fun q0 => absurd ((fa_eq p0 0).mp q0) (by have l_0 : (0 : Int32).toInt = 0 := (by decide); have l_1 : (1 : Int32).toInt = 1 := (by decide); have l_2 : (2 : Int32).toInt = 2 := (by decide); have l_3 : (3 : Int32).toInt = 3 := (by decide); have l_4 : (4 : Int32).toInt = 4 := (by decide); have g_hc1 := mt (fa_eq p0 0).mpr hc1; have g_hc5 := mt (fa_eq p0 1).mpr hc5; have g_hc9 := mt (fa_eq p0 2).mpr hc9; have g_hc13 := mt (fa_eq p0 3).mpr hc13; have g_hc17 := mt (fa_eq p0 4).mpr hc17; have g_hc21 := mt (fa_lt p0 0).mpr hc21; omega))).trans (if_neg (fun q0 => absurd ((fa_eq p0 1).mp q0) (by have l_0 : (0 : Int32).toInt = 0 := (by decide); have l_1 : (1 : Int32).toInt = 1 := (by decide); have l_2 : (2 : Int32).toInt = 2 := (by decide); have l_3 : (3 : Int32).toInt = 3 := (by decide); have l_4 : (4 : Int32).toInt = 4 := (by decide); have g_hc1 := mt (fa_eq p0 0).mpr hc1; have g_hc5 := mt (fa_eq p0 1).mpr hc5; have g_hc9 := mt (fa_eq p0 2).mpr hc9; have g_hc13 := mt (fa_eq p0 3).mpr hc13; have g_hc17 := mt (fa_eq p0 4).mpr hc17; have g_hc21 := mt (fa_lt p0 0).mpr hc21; omega)))).trans (if_neg (fun q0 => absurd ((fa_eq p0 2).mp q0) (by have l_0 : (0 : Int32).toInt = 0 := (by decide); have l_1 : (1 : Int32).toInt = 1 := (by decide); have l_2 : (2 : Int32).toInt = 2 := (by decide); have l_3 : (3 : Int32).toInt = 3 := (by decide); have l_4 : (4 : Int32).toInt = 4 := (by decide); have g_hc1 := mt (fa_eq p0 0).mpr hc1; have g_hc5 := mt (fa_eq p0 1).mpr hc5; have g_hc9 := mt (fa_eq p0 2).mpr hc9; have g_hc13 := mt (fa_eq p0 3).mpr hc13; have g_hc17 := mt (fa_eq p0 4).mpr hc17; have g_hc21 := mt (fa_lt p0 0).mpr hc21; omega)))).trans (if_neg (fun q0 => absurd ((fa_eq p0 3).mp q0) (by have l_0 : (0 : Int32).toInt = 0 := (by decide); have l_1 : (1 : Int32).toInt = 1 := (by decide); have l_2 : (2 : Int32).toInt = 2 := (by decide); have l_3 : (3 : Int32).toInt = 3 := (by decide); have l_4 : (4 : Int32).toInt = 4 := (by decide); have g_hc1 := mt (fa_eq p0 0).mpr hc1; have g_hc5 := mt (fa_eq p0 1).mpr hc5; have g_hc9 := mt (fa_eq p0 2).mpr hc9; have g_hc13 := mt (fa_eq p0 3).mpr hc13; have g_hc17 := mt (fa_eq p0 4).mpr hc17; have g_hc21 := mt (fa_lt p0 0).mpr hc21; omega)))).trans (if_neg (fun q0 => absurd ((fa_eq p0 4).mp q0) (by have l_0 : (0 : Int32).toInt = 0 := (by decide); have l_1 : (1 : Int32).toInt = 1 := (by decide); have l_2 : (2 : Int32).toInt = 2 := (by decide); have l_3 : (3 : Int32).toInt = 3 := (by decide); have l_4 : (4 : Int32).toInt = 4 := (by decide); have g_hc1 := mt (fa_eq p0 0).mpr hc1; have g_hc5 := mt (fa_eq p0 1).mpr hc5; have g_hc9 := mt (fa_eq p0 2).mpr hc9; have g_hc13 := mt (fa_eq p0 3).mpr hc13; have g_hc17 := mt (fa_eq p0 4).mpr hc17; have g_hc21 := mt (fa_lt p0 0).mpr hc21; omega)))).symm) _
set_option maxHeartbeats 8000000 in
set_option maxRecDepth 200000 in
theorem fx_move (post : Int32 → Int32 → Int32 → Int32 → Int32 → Int32 → Int32 → (Nat → Int32) → Prop) (p0 : Int32) (h : ∀ r : Int32, r = (-1) → ∀ o0 : Int32, ∀ o1 : Int32, ∀ o2 : Int32, ∀ o3 : Int32, ∀ o4 : Int32, ∀ o5 : Int32, ∀ o6 : (Nat → Int32), post r o0 o1 o2 o3 o4 o5 o6) : wp_X9_move post p0 0 (fun _ => 0) (fun _ => 0) (upd (upd (upd (upd (upd (fun _ => 0) (0 : Int32).toNatClampNeg 8) (1 : Int32).toNatClampNeg 3) (2 : Int32).toNatClampNeg 5) (3 : Int32).toNatClampNeg 1) (4 : Int32).toNatClampNeg 6) 0 0 0 0 (-1) 0 0 0 0 0 (fun _ => 0) := by
  intro v1 ev1; obtain rfl : v1 = 0 := ev1.trans (by decide +kernel)
  refine br_f (by decide +kernel) ?_
  refine br_t (by decide +kernel) ?_
  refine And.intro (g_in (by decide +kernel)) ?_
  intro v2 ev2; obtain rfl : v2 = 1 := ev2.trans (by decide +kernel)
  refine And.intro (g_in (by decide +kernel)) ?_
  intro v3 ev3; obtain rfl : v3 = 2 := ev3.trans (by decide +kernel)
  refine And.intro (g_in (by decide +kernel)) ?_
  intro v4 ev4; obtain rfl : v4 = 3 := ev4.trans (by decide +kernel)
  refine And.intro (g_in (by decide +kernel)) ?_
  intro v5 ev5; obtain rfl : v5 = 4 := ev5.trans (by decide +kernel)
  refine And.intro (g_in (by decide +kernel)) ?_
  intro v6 ev6; obtain rfl : v6 = 5 := ev6.trans (by decide +kernel)
  refine And.intro (g_in (by decide +kernel)) ?_
  intro v7 ev7; obtain rfl : v7 = 6 := ev7.trans (by decide +kernel)
  refine And.intro (g_in (by decide +kernel)) ?_
  intro v8 ev8; obtain rfl : v8 = 7 := ev8.trans (by decide +kernel)
  refine And.intro (g_in (by decide +kernel)) ?_
  refine And.intro (fun hc9 => ?_) (fun hc9 => ?_)
  · skip
    refine And.intro (fun h9 => absurd rfl h9) (fun _ => ?_)
    refine br_t (by decide +kernel) ?_
    exact h _ (by decide +kernel) _ _ _ _ _ _ _
  · skip
    refine br_t ((fa_le 0 p0).mpr (by have l_0 : (0 : Int32).toInt = 0 := (by decide); have g_hc9 := mt (fa_lt p0 0).mpr hc9; omega)) ?_
    refine And.intro (fun h9 => absurd rfl h9) (fun _ => ?_)
    refine br_t (by decide +kernel) ?_
    exact h _ (by decide +kernel) _ _ _ _ _ _ _
set_option maxHeartbeats 8000000 in
set_option maxRecDepth 200000 in
theorem fx_foot (post : Int32 → Int32 → Int32 → Int32 → (Nat → Int32) → Prop) (p0 : Int32) (h : ∀ r : Int32, r = (if p0 < 0 then (-1) else (if 1 < p0 then (-1) else 0)) → ∀ o0 : Int32, ∀ o1 : Int32, ∀ o2 : Int32, ∀ o3 : (Nat → Int32), post r o0 o1 o2 o3) : wp_X9_foot post p0 0 0 0 0 (-1) 0 0 0 0 0 (fun _ => 0) := by
  intro v1 ev1; obtain rfl : v1 = 0 := ev1.trans (by decide +kernel)
  refine br_f (by decide +kernel) ?_
  refine br_t (by decide +kernel) ?_
  refine And.intro (g_in (by decide +kernel)) ?_
  intro v2 ev2; obtain rfl : v2 = 1 := ev2.trans (by decide +kernel)
  refine And.intro (g_in (by decide +kernel)) ?_
  intro v3 ev3; obtain rfl : v3 = 2 := ev3.trans (by decide +kernel)
  refine And.intro (g_in (by decide +kernel)) ?_
  intro v4 ev4; obtain rfl : v4 = 3 := ev4.trans (by decide +kernel)
  refine And.intro (g_in (by decide +kernel)) ?_
  intro v5 ev5; obtain rfl : v5 = 4 := ev5.trans (by decide +kernel)
  refine And.intro (g_in (by decide +kernel)) ?_
  intro v6 ev6; obtain rfl : v6 = 5 := ev6.trans (by decide +kernel)
  refine And.intro (g_in (by decide +kernel)) ?_
  intro v7 ev7; obtain rfl : v7 = 6 := ev7.trans (by decide +kernel)
  refine And.intro (g_in (by decide +kernel)) ?_
  intro v8 ev8; obtain rfl : v8 = 7 := ev8.trans (by decide +kernel)
  refine And.intro (g_in (by decide +kernel)) ?_
  refine And.intro (fun hc9 => ?_) (fun hc9 => ?_)
  · skip
    obtain rfl : p0 = 0 := (fa_eq _ _).mpr (by have l_0 : (0 : Int32).toInt = 0 := (by decide); have g_hc9 := (fa_eq p0 0).mp hc9; omega)
    refine And.intro (fun _ => ?_) (fun h9 => absurd h9 (by decide +kernel))
    refine br_f (by decide +kernel) ?_
    intro v10 ev10; obtain rfl : v10 = 1 := ev10.trans (by decide +kernel)
    intro v11 ev11; obtain rfl : v11 = 1 := ev11.trans (by decide +kernel)
    intro v12 ev12; obtain rfl : v12 = 1 := ev12.trans (by decide +kernel)
    intro v13 ev13; obtain rfl : v13 = 1 := ev13.trans (by decide +kernel)
    exact h _ (((if_neg (by decide +kernel)).trans (if_neg (by decide +kernel))).symm) _ _ _ _
  · skip
    refine And.intro (fun hc14 => ?_) (fun hc14 => ?_)
    · skip
      refine And.intro (fun h9 => absurd rfl h9) (fun _ => ?_)
      refine br_t (by decide +kernel) ?_
      by_cases hc15 : p0 < 0
      · skip
        exact h _ ((if_pos ((fa_lt p0 0).mpr (by have l_0 : (0 : Int32).toInt = 0 := (by decide); have l_1 : (1 : Int32).toInt = 1 := (by decide); have g_hc9 := mt (fa_eq p0 0).mpr hc9; have g_hc14 := mt (fa_eq p0 1).mpr hc14; have g_hc15 := (fa_lt p0 0).mp hc15; omega))).symm) _ _ _ _
      · skip
        exact h _ (((if_neg (fun q0 => absurd ((fa_lt p0 0).mp q0) (by have l_0 : (0 : Int32).toInt = 0 := (by decide); have l_1 : (1 : Int32).toInt = 1 := (by decide); have g_hc9 := mt (fa_eq p0 0).mpr hc9; have g_hc14 := mt (fa_eq p0 1).mpr hc14; have g_hc15 := mt (fa_lt p0 0).mpr hc15; omega))).trans (if_pos ((fa_lt 1 p0).mpr (by have l_0 : (0 : Int32).toInt = 0 := (by decide); have l_1 : (1 : Int32).toInt = 1 := (by decide); have g_hc9 := mt (fa_eq p0 0).mpr hc9; have g_hc14 := mt (fa_eq p0 1).mpr hc14; have g_hc15 := mt (fa_lt p0 0).mpr hc15; omega)))).symm) _ _ _ _
    · skip
      obtain rfl : p0 = 1 := (fa_eq _ _).mpr (by have l_0 : (0 : Int32).toInt = 0 := (by decide); have l_1 : (1 : Int32).toInt = 1 := (by decide); have g_hc9 := mt (fa_eq p0 0).mpr hc9; have g_hc14 := (fa_eq p0 1).mp hc14; omega)
      refine And.intro (fun _ => ?_) (fun h9 => absurd h9 (by decide +kernel))
      refine br_f (by decide +kernel) ?_
      intro v16 ev16; obtain rfl : v16 = 1 := ev16.trans (by decide +kernel)
      intro v17 ev17; obtain rfl : v17 = 1 := ev17.trans (by decide +kernel)
      intro v18 ev18; obtain rfl : v18 = 1 := ev18.trans (by decide +kernel)
      intro v19 ev19; obtain rfl : v19 = 1 := ev19.trans (by decide +kernel)
      exact h _ (((if_neg (by decide +kernel)).trans (if_neg (by decide +kernel))).symm) _ _ _ _
set_option maxHeartbeats 8000000 in
set_option maxRecDepth 200000 in
theorem fx_pick (post : Int32 → Int32 → Int32 → Int32 → (Nat → Int32) → (Nat → Int32) → Int32 → Int32 → (Nat → Int32) → Prop) (p0 : Int32) (p1 : Int32) (h : ∀ r : Int32, r = (-1) → ∀ o0 : Int32, ∀ o1 : Int32, ∀ o2 : Int32, ∀ o3 : (Nat → Int32), ∀ o4 : (Nat → Int32), ∀ o5 : Int32, ∀ o6 : Int32, ∀ o7 : (Nat → Int32), post r o0 o1 o2 o3 o4 o5 o6 o7) : wp_X9_pick post p0 p1 0 (fun _ => 0) (fun _ => 0) (fun _ => 0) (fun _ => 0) (fun _ => 0) (fun _ => 0) (upd (upd (upd (upd (upd (fun _ => 0) (0 : Int32).toNatClampNeg 8) (1 : Int32).toNatClampNeg 3) (2 : Int32).toNatClampNeg 5) (3 : Int32).toNatClampNeg 1) (4 : Int32).toNatClampNeg 6) 0 0 0 0 (-1) 0 0 0 0 (fun _ => 0) (fun _ => 0) (fun _ => 0) 0 0 (fun _ => 0) := by
  intro v1 ev1; obtain rfl : v1 = 0 := ev1.trans (by decide +kernel)
  refine br_f (by decide +kernel) ?_
  refine br_t (by decide +kernel) ?_
  refine And.intro (g_in (by decide +kernel)) ?_
  intro v2 ev2; obtain rfl : v2 = 1 := ev2.trans (by decide +kernel)
  refine And.intro (g_in (by decide +kernel)) ?_
  intro v3 ev3; obtain rfl : v3 = 2 := ev3.trans (by decide +kernel)
  refine And.intro (g_in (by decide +kernel)) ?_
  intro v4 ev4; obtain rfl : v4 = 3 := ev4.trans (by decide +kernel)
  refine And.intro (g_in (by decide +kernel)) ?_
  intro v5 ev5; obtain rfl : v5 = 4 := ev5.trans (by decide +kernel)
  refine And.intro (g_in (by decide +kernel)) ?_
  intro v6 ev6; obtain rfl : v6 = 5 := ev6.trans (by decide +kernel)
  refine And.intro (g_in (by decide +kernel)) ?_
  intro v7 ev7; obtain rfl : v7 = 6 := ev7.trans (by decide +kernel)
  refine And.intro (g_in (by decide +kernel)) ?_
  intro v8 ev8; obtain rfl : v8 = 7 := ev8.trans (by decide +kernel)
  refine And.intro (g_in (by decide +kernel)) ?_
  refine And.intro (fun hc9 => ?_) (fun hc9 => ?_)
  · skip
    refine br_t (by decide +kernel) ?_
    refine br_t (by decide +kernel) ?_
    exact h _ (by decide +kernel) _ _ _ _ _ _ _ _
  · skip
    refine br_t ((fa_le 0 p0).mpr (by have l_0 : (0 : Int32).toInt = 0 := (by decide); have g_hc9 := mt (fa_lt p0 0).mpr hc9; omega)) ?_
    refine br_t (by decide +kernel) ?_
    refine br_t (by decide +kernel) ?_
    exact h _ (by decide +kernel) _ _ _ _ _ _ _ _
set_option maxHeartbeats 8000000 in
set_option maxRecDepth 200000 in
theorem fx_down (post : Int32 → Int32 → Int32 → Int32 → Int32 → Int32 → (Nat → Int32) → Prop) (h : ∀ r : Int32, r = (-2) → ∀ o0 : Int32, ∀ o1 : Int32, ∀ o2 : Int32, ∀ o3 : Int32, ∀ o4 : Int32, ∀ o5 : (Nat → Int32), post r o0 o1 o2 o3 o4 o5) : wp_X9_down post (fun _ => 0) 0 0 0 0 (-1) 0 0 0 0 0 (fun _ => 0) := by
  intro v1 ev1; obtain rfl : v1 = 0 := ev1.trans (by decide +kernel)
  refine br_f (by decide +kernel) ?_
  refine br_t (by decide +kernel) ?_
  refine And.intro (g_in (by decide +kernel)) ?_
  intro v2 ev2; obtain rfl : v2 = 1 := ev2.trans (by decide +kernel)
  refine And.intro (g_in (by decide +kernel)) ?_
  intro v3 ev3; obtain rfl : v3 = 2 := ev3.trans (by decide +kernel)
  refine And.intro (g_in (by decide +kernel)) ?_
  intro v4 ev4; obtain rfl : v4 = 3 := ev4.trans (by decide +kernel)
  refine And.intro (g_in (by decide +kernel)) ?_
  intro v5 ev5; obtain rfl : v5 = 4 := ev5.trans (by decide +kernel)
  refine And.intro (g_in (by decide +kernel)) ?_
  intro v6 ev6; obtain rfl : v6 = 5 := ev6.trans (by decide +kernel)
  refine And.intro (g_in (by decide +kernel)) ?_
  intro v7 ev7; obtain rfl : v7 = 6 := ev7.trans (by decide +kernel)
  refine And.intro (g_in (by decide +kernel)) ?_
  intro v8 ev8; obtain rfl : v8 = 7 := ev8.trans (by decide +kernel)
  refine And.intro (g_in (by decide +kernel)) ?_
  refine br_t (by decide +kernel) ?_
  refine br_t (by decide +kernel) ?_
  exact h _ (by decide +kernel) _ _ _ _ _ _
set_option maxHeartbeats 8000000 in
set_option maxRecDepth 200000 in
theorem fx_shake (post : Int32 → Int32 → Int32 → Int32 → Int32 → Int32 → (Nat → Int32) → Prop) (h : ∀ r : Int32, r = (-2) → ∀ o0 : Int32, ∀ o1 : Int32, ∀ o2 : Int32, ∀ o3 : Int32, ∀ o4 : Int32, ∀ o5 : (Nat → Int32), post r o0 o1 o2 o3 o4 o5) : wp_X9_shake post 0 (fun _ => 0) (fun _ => 0) (fun _ => 0) (fun _ => 0) (fun _ => 0) (upd (upd (upd (upd (upd (fun _ => 0) (0 : Int32).toNatClampNeg 8) (1 : Int32).toNatClampNeg 3) (2 : Int32).toNatClampNeg 5) (3 : Int32).toNatClampNeg 1) (4 : Int32).toNatClampNeg 6) 0 0 0 0 (-1) 0 0 0 0 0 (fun _ => 0) := by
  intro v1 ev1; obtain rfl : v1 = 0 := ev1.trans (by decide +kernel)
  refine br_f (by decide +kernel) ?_
  refine br_t (by decide +kernel) ?_
  refine And.intro (g_in (by decide +kernel)) ?_
  intro v2 ev2; obtain rfl : v2 = 1 := ev2.trans (by decide +kernel)
  refine And.intro (g_in (by decide +kernel)) ?_
  intro v3 ev3; obtain rfl : v3 = 2 := ev3.trans (by decide +kernel)
  refine And.intro (g_in (by decide +kernel)) ?_
  intro v4 ev4; obtain rfl : v4 = 3 := ev4.trans (by decide +kernel)
  refine And.intro (g_in (by decide +kernel)) ?_
  intro v5 ev5; obtain rfl : v5 = 4 := ev5.trans (by decide +kernel)
  refine And.intro (g_in (by decide +kernel)) ?_
  intro v6 ev6; obtain rfl : v6 = 5 := ev6.trans (by decide +kernel)
  refine And.intro (g_in (by decide +kernel)) ?_
  intro v7 ev7; obtain rfl : v7 = 6 := ev7.trans (by decide +kernel)
  refine And.intro (g_in (by decide +kernel)) ?_
  intro v8 ev8; obtain rfl : v8 = 7 := ev8.trans (by decide +kernel)
  refine And.intro (g_in (by decide +kernel)) ?_
  refine And.intro (fun h9 => absurd rfl h9) (fun _ => ?_)
  refine br_t (by decide +kernel) ?_
  exact h _ (by decide +kernel) _ _ _ _ _ _
set_option maxHeartbeats 8000000 in
set_option maxRecDepth 200000 in
theorem fx_sleep (post : Int32 → Int32 → Int32 → Int32 → Int32 → Int32 → Int32 → Int32 → (Nat → Int32) → Prop) (h : ∀ r : Int32, r = 1 → ∀ o0 : Int32, ∀ o1 : Int32, ∀ o2 : Int32, ∀ o3 : Int32, ∀ o4 : Int32, ∀ o5 : Int32, ∀ o6 : Int32, ∀ o7 : (Nat → Int32), post r o0 o1 o2 o3 o4 o5 o6 o7) : wp_X9_sleep post 0 0 0 0 (-1) 0 0 0 0 0 (fun _ => 0) := by
  intro v1 ev1; obtain rfl : v1 = 0 := ev1.trans (by decide +kernel)
  refine br_f (by decide +kernel) ?_
  refine br_t (by decide +kernel) ?_
  refine And.intro (g_in (by decide +kernel)) ?_
  intro v2 ev2; obtain rfl : v2 = 1 := ev2.trans (by decide +kernel)
  refine And.intro (g_in (by decide +kernel)) ?_
  intro v3 ev3; obtain rfl : v3 = 2 := ev3.trans (by decide +kernel)
  refine And.intro (g_in (by decide +kernel)) ?_
  intro v4 ev4; obtain rfl : v4 = 3 := ev4.trans (by decide +kernel)
  refine And.intro (g_in (by decide +kernel)) ?_
  intro v5 ev5; obtain rfl : v5 = 4 := ev5.trans (by decide +kernel)
  refine And.intro (g_in (by decide +kernel)) ?_
  intro v6 ev6; obtain rfl : v6 = 5 := ev6.trans (by decide +kernel)
  refine And.intro (g_in (by decide +kernel)) ?_
  intro v7 ev7; obtain rfl : v7 = 6 := ev7.trans (by decide +kernel)
  refine And.intro (g_in (by decide +kernel)) ?_
  intro v8 ev8; obtain rfl : v8 = 7 := ev8.trans (by decide +kernel)
  refine And.intro (g_in (by decide +kernel)) ?_
  refine br_t (by decide +kernel) ?_
  intro v9 ev9; obtain rfl : v9 = 1 := ev9.trans (by decide +kernel)
  intro v10 ev10; obtain rfl : v10 = 0 := ev10.trans (by decide +kernel)
  refine br_f (by decide +kernel) ?_
  intro v11 ev11; obtain rfl : v11 = 1 := ev11.trans (by decide +kernel)
  intro v12 ev12; obtain rfl : v12 = 1 := ev12.trans (by decide +kernel)
  intro v13 ev13; obtain rfl : v13 = 1 := ev13.trans (by decide +kernel)
  intro v14 ev14; obtain rfl : v14 = 1 := ev14.trans (by decide +kernel)
  exact h _ (by decide +kernel) _ _ _ _ _ _ _ _
set_option maxHeartbeats 8000000 in
set_option maxRecDepth 200000 in
theorem fx_day (post : Int32 → (Nat → Int32) → Int32 → Int32 → Int32 → Int32 → Int32 → Int32 → Int32 → Int32 → Int32 → Int32 → Int32 → (Nat → Int32) → (Nat → Int32) → Int32 → Int32 → (Nat → Int32) → Int32 → (Nat → Int32) → Prop) (h : ∀ r : Int32, r = 0 → ∀ o0 : (Nat → Int32), ∀ o1 : Int32, ∀ o2 : Int32, ∀ o3 : Int32, ∀ o4 : Int32, ∀ o5 : Int32, ∀ o6 : Int32, ∀ o7 : Int32, ∀ o8 : Int32, ∀ o9 : Int32, ∀ o10 : Int32, ∀ o11 : Int32, ∀ o12 : (Nat → Int32), ∀ o13 : (Nat → Int32), ∀ o14 : Int32, ∀ o15 : Int32, ∀ o16 : (Nat → Int32), ∀ o17 : Int32, ∀ o18 : (Nat → Int32), post r o0 o1 o2 o3 o4 o5 o6 o7 o8 o9 o10 o11 o12 o13 o14 o15 o16 o17 o18) : wp_X9_day post (fun _ => 0) 0 0 0 (fun _ => 0) 0 0 (fun _ => 0) (fun _ => 0) (fun _ => 0) (fun _ => 0) (fun _ => 0) (fun _ => 0) (upd (upd (upd (upd (upd (fun _ => 0) (0 : Int32).toNatClampNeg 8) (1 : Int32).toNatClampNeg 3) (2 : Int32).toNatClampNeg 5) (3 : Int32).toNatClampNeg 1) (4 : Int32).toNatClampNeg 6) 0 0 0 0 (-1) 0 0 0 0 (fun _ => 0) (fun _ => 0) (fun _ => 0) 0 0 (fun _ => 0) 0 (fun _ => 0) := by
  intro v1 ev1; obtain rfl : v1 = 0 := ev1.trans (by decide +kernel)
  refine And.intro (fun h9 => absurd rfl h9) (fun _ => ?_)
  refine br_f (by decide +kernel) ?_
  refine And.intro (fun h9 => absurd rfl h9) (fun _ => ?_)
  refine br_f (by decide +kernel) ?_
  refine br_f (by decide +kernel) ?_
  intro v2 ev2; obtain rfl : v2 = 0 := ev2.trans (by decide +kernel)
  refine br_f (by decide +kernel) ?_
  refine br_t (by decide +kernel) ?_
  refine And.intro (g_in (by decide +kernel)) ?_
  intro v3 ev3; obtain rfl : v3 = 1 := ev3.trans (by decide +kernel)
  refine And.intro (g_in (by decide +kernel)) ?_
  intro v4 ev4; obtain rfl : v4 = 2 := ev4.trans (by decide +kernel)
  refine And.intro (g_in (by decide +kernel)) ?_
  intro v5 ev5; obtain rfl : v5 = 3 := ev5.trans (by decide +kernel)
  refine And.intro (g_in (by decide +kernel)) ?_
  intro v6 ev6; obtain rfl : v6 = 4 := ev6.trans (by decide +kernel)
  refine And.intro (g_in (by decide +kernel)) ?_
  intro v7 ev7; obtain rfl : v7 = 5 := ev7.trans (by decide +kernel)
  refine And.intro (g_in (by decide +kernel)) ?_
  intro v8 ev8; obtain rfl : v8 = 6 := ev8.trans (by decide +kernel)
  refine And.intro (g_in (by decide +kernel)) ?_
  intro v9 ev9; obtain rfl : v9 = 7 := ev9.trans (by decide +kernel)
  refine And.intro (g_in (by decide +kernel)) ?_
  refine Exists.intro 40 ?_
  refine br_t (by decide +kernel) ?_
  refine br_t (by decide +kernel) ?_
  refine br_f (by decide +kernel) ?_
  refine And.intro (g_in (by decide +kernel)) ?_
  intro v10 ev10; obtain rfl : v10 = 1 := ev10.trans (by decide +kernel)
  refine br_f (by decide +kernel) ?_
  refine And.intro (g_in (by decide +kernel)) ?_
  intro v11 ev11; obtain rfl : v11 = 2 := ev11.trans (by decide +kernel)
  exact h _ (by decide +kernel) _ _ _ _ _ _ _ _ _ _ _ _ _ _ _ _ _ _ _
set_option maxHeartbeats 8000000 in
set_option maxRecDepth 200000 in
theorem fx_undo (post : Int32 → Int32 → Int32 → Int32 → Int32 → Int32 → Int32 → Int32 → Int32 → Int32 → Int32 → Prop) (h : ∀ r : Int32, r = (-1) → ∀ o0 : Int32, ∀ o1 : Int32, ∀ o2 : Int32, ∀ o3 : Int32, ∀ o4 : Int32, ∀ o5 : Int32, ∀ o6 : Int32, ∀ o7 : Int32, ∀ o8 : Int32, ∀ o9 : Int32, post r o0 o1 o2 o3 o4 o5 o6 o7 o8 o9) : wp_X9_undo post 0 0 0 0 (-1) 0 0 0 0 0 (fun _ => 0) := by
  refine And.intro (fun h9 => absurd rfl h9) (fun _ => ?_)
  exact h _ (by decide +kernel) _ _ _ _ _ _ _ _ _ _
set_option maxHeartbeats 8000000 in
set_option maxRecDepth 200000 in
theorem fx_reached (post : Int32 → Int32 → (Nat → Int32) → Prop) (p0 : Int32) (h : ∀ r : Int32, r = (-1) → ∀ o0 : Int32, ∀ o1 : (Nat → Int32), post r o0 o1) : wp_X9_reached post p0 0 0 (fun _ => 0) (fun _ => 0) (fun _ => 0) (fun _ => 0) (upd (upd (upd (upd (upd (fun _ => 0) (0 : Int32).toNatClampNeg 8) (1 : Int32).toNatClampNeg 3) (2 : Int32).toNatClampNeg 5) (3 : Int32).toNatClampNeg 1) (4 : Int32).toNatClampNeg 6) 0 (fun _ => 0) := by
  refine And.intro (fun hc1 => ?_) (fun hc1 => ?_)
  · skip
    refine And.intro (fun h9 => absurd rfl h9) (fun _ => ?_)
    exact h _ (by decide +kernel) _ _
  · skip
    refine br_t ((fa_le 0 p0).mpr (by have l_0 : (0 : Int32).toInt = 0 := (by decide); have g_hc1 := mt (fa_lt p0 0).mpr hc1; omega)) ?_
    refine And.intro (fun h9 => absurd rfl h9) (fun _ => ?_)
    exact h _ (by decide +kernel) _ _
set_option maxHeartbeats 8000000 in
set_option maxRecDepth 200000 in
theorem fx_from (post : Int32 → Prop) (p0 : Int32) (p1 : Int32) (h : ∀ r : Int32, r = (-1) → post r) : wp_X9_from post p0 p1 0 0 (fun _ => 0) (fun _ => 0) (fun _ => 0) (fun _ => 0) (upd (upd (upd (upd (upd (fun _ => 0) (0 : Int32).toNatClampNeg 8) (1 : Int32).toNatClampNeg 3) (2 : Int32).toNatClampNeg 5) (3 : Int32).toNatClampNeg 1) (4 : Int32).toNatClampNeg 6) 0 := by
  refine And.intro (fun hc1 => ?_) (fun hc1 => ?_)
  · skip
    refine br_t (by decide +kernel) ?_
    exact h _ (by decide +kernel)
  · skip
    refine br_t ((fa_le 0 p0).mpr (by have l_0 : (0 : Int32).toInt = 0 := (by decide); have g_hc1 := mt (fa_lt p0 0).mpr hc1; omega)) ?_
    refine br_t (by decide +kernel) ?_
    exact h _ (by decide +kernel)
set_option maxHeartbeats 8000000 in
set_option maxRecDepth 200000 in
theorem fx_never (post : Int32 → Int32 → (Nat → Int32) → Prop) (h : ∀ r : Int32, r = 0 → ∀ o0 : Int32, ∀ o1 : (Nat → Int32), post r o0 o1) : wp_X9_never post 0 0 (fun _ => 0) (fun _ => 0) (fun _ => 0) (fun _ => 0) (fun _ => 0) (upd (upd (upd (upd (upd (fun _ => 0) (0 : Int32).toNatClampNeg 8) (1 : Int32).toNatClampNeg 3) (2 : Int32).toNatClampNeg 5) (3 : Int32).toNatClampNeg 1) (4 : Int32).toNatClampNeg 6) 0 0 0 0 0 (fun _ => 0) := by
  intro v1 ev1; obtain rfl : v1 = 1 := ev1.trans (by decide +kernel)
  intro v2 ev2; obtain rfl : v2 = 0 := ev2.trans (by decide +kernel)
  intro v3 ev3; obtain rfl : v3 = 0 := ev3.trans (by decide +kernel)
  refine Exists.intro 40 ?_
  refine br_t (by decide +kernel) ?_
  refine Exists.intro 40 ?_
  refine br_t (by decide +kernel) ?_
  refine br_f (by decide +kernel) ?_
  refine And.intro (g_in (by decide +kernel)) ?_
  intro v4 ev4; obtain rfl : v4 = 1 := ev4.trans (by decide +kernel)
  exact h _ (by decide +kernel) _ _
set_option maxHeartbeats 8000000 in
set_option maxRecDepth 200000 in
theorem fx_seconds (post : Int32 → (Nat → Int32) → (Nat → Int32) → Prop) (p0 : Int32) (p1 : Int32) (p2 : Int32) (h : ∀ r : Int32, r = (-1) → ∀ o0 : (Nat → Int32), ∀ o1 : (Nat → Int32), post r o0 o1) : wp_X9_seconds post p0 p1 p2 0 0 (fun _ => 0) (fun _ => 0) (fun _ => 0) (fun _ => 0) (fun _ => 0) (upd (upd (upd (upd (upd (fun _ => 0) (0 : Int32).toNatClampNeg 8) (1 : Int32).toNatClampNeg 3) (2 : Int32).toNatClampNeg 5) (3 : Int32).toNatClampNeg 1) (4 : Int32).toNatClampNeg 6) 0 0 0 (fun _ => 0) (fun _ => 0) (fun _ => 0) := by
  refine And.intro (fun hc1 => ?_) (fun hc1 => ?_)
  · skip
    refine br_t (by decide +kernel) ?_
    exact h _ (by decide +kernel) _ _
  · skip
    refine br_t ((fa_le 0 p0).mpr (by have l_0 : (0 : Int32).toInt = 0 := (by decide); have g_hc1 := mt (fa_lt p0 0).mpr hc1; omega)) ?_
    refine br_t (by decide +kernel) ?_
    exact h _ (by decide +kernel) _ _
set_option maxHeartbeats 8000000 in
set_option maxRecDepth 200000 in
theorem fx_both (post : Int32 → Int32 → (Nat → Int32) → Int32 → (Nat → Int32) → Prop) (p0 : Int32) (p1 : Int32) (h : ∀ r : Int32, r = (-1) → ∀ o0 : Int32, ∀ o1 : (Nat → Int32), ∀ o2 : Int32, ∀ o3 : (Nat → Int32), post r o0 o1 o2 o3) : wp_X9_both post p0 p1 0 (fun _ => 0) 0 0 (fun _ => 0) (fun _ => 0) (fun _ => 0) (fun _ => 0) (fun _ => 0) (upd (upd (upd (upd (upd (fun _ => 0) (0 : Int32).toNatClampNeg 8) (1 : Int32).toNatClampNeg 3) (2 : Int32).toNatClampNeg 5) (3 : Int32).toNatClampNeg 1) (4 : Int32).toNatClampNeg 6) 0 0 0 0 0 0 (fun _ => 0) := by
  refine And.intro (fun hc1 => ?_) (fun hc1 => ?_)
  · skip
    refine br_t (by decide +kernel) ?_
    exact h _ (by decide +kernel) _ _ _ _
  · skip
    refine br_t ((fa_le 0 p0).mpr (by have l_0 : (0 : Int32).toInt = 0 := (by decide); have g_hc1 := mt (fa_lt p0 0).mpr hc1; omega)) ?_
    refine br_t (by decide +kernel) ?_
    exact h _ (by decide +kernel) _ _ _ _
set_option maxHeartbeats 8000000 in
set_option maxRecDepth 200000 in
theorem fx_nearest (post : Int32 → Int32 → (Nat → Int32) → Prop) (p0 : Int32) (h : ∀ r : Int32, r = (-1) → ∀ o0 : Int32, ∀ o1 : (Nat → Int32), post r o0 o1) : wp_X9_nearest post p0 0 0 (fun _ => 0) (fun _ => 0) (fun _ => 0) (fun _ => 0) (upd (upd (upd (upd (upd (fun _ => 0) (0 : Int32).toNatClampNeg 8) (1 : Int32).toNatClampNeg 3) (2 : Int32).toNatClampNeg 5) (3 : Int32).toNatClampNeg 1) (4 : Int32).toNatClampNeg 6) 0 (fun _ => 0) := by
  refine And.intro (fun hc1 => ?_) (fun hc1 => ?_)
  · skip
    refine And.intro (fun h9 => absurd rfl h9) (fun _ => ?_)
    exact h _ (by decide +kernel) _ _
  · skip
    refine br_t ((fa_le 0 p0).mpr (by have l_0 : (0 : Int32).toInt = 0 := (by decide); have g_hc1 := mt (fa_lt p0 0).mpr hc1; omega)) ?_
    refine And.intro (fun h9 => absurd rfl h9) (fun _ => ?_)
    exact h _ (by decide +kernel) _ _
set_option maxHeartbeats 8000000 in
set_option maxRecDepth 200000 in
theorem fx_fewest (post : Int32 → Int32 → (Nat → Int32) → Int32 → (Nat → Int32) → Prop) (h : ∀ r : Int32, r = 0 → ∀ o0 : Int32, ∀ o1 : (Nat → Int32), ∀ o2 : Int32, ∀ o3 : (Nat → Int32), post r o0 o1 o2 o3) : wp_X9_fewest post 0 (fun _ => 0) 0 0 (fun _ => 0) (fun _ => 0) (fun _ => 0) (fun _ => 0) (fun _ => 0) (upd (upd (upd (upd (upd (fun _ => 0) (0 : Int32).toNatClampNeg 8) (1 : Int32).toNatClampNeg 3) (2 : Int32).toNatClampNeg 5) (3 : Int32).toNatClampNeg 1) (4 : Int32).toNatClampNeg 6) 0 0 0 0 0 0 (fun _ => 0) := by
  intro v1 ev1; obtain rfl : v1 = 8 := ev1.trans (by decide +kernel)
  intro v2 ev2; obtain rfl : v2 = 8 := ev2.trans (by decide +kernel)
  refine Exists.intro 40 ?_
  refine br_t (by decide +kernel) ?_
  intro v3 ev3; obtain rfl : v3 = 1 := ev3.trans (by decide +kernel)
  intro v4 ev4; obtain rfl : v4 = 0 := ev4.trans (by decide +kernel)
  intro v5 ev5; obtain rfl : v5 = 0 := ev5.trans (by decide +kernel)
  refine Exists.intro 40 ?_
  refine br_t (by decide +kernel) ?_
  intro v6 ev6; obtain rfl : v6 = 0 := ev6.trans (by decide +kernel)
  intro v7 ev7; obtain rfl : v7 = 1 := ev7.trans (by decide +kernel)
  refine Exists.intro 40 ?_
  refine br_t (by decide +kernel) ?_
  intro v8 ev8; obtain rfl : v8 = 0 := ev8.trans (by decide +kernel)
  intro v9 ev9; obtain rfl : v9 = 1 := ev9.trans (by decide +kernel)
  refine Exists.intro 40 ?_
  refine br_t (by decide +kernel) ?_
  refine Exists.intro 40 ?_
  refine br_f (by decide +kernel) ?_
  intro v10 ev10; obtain rfl : v10 = 0 := ev10.trans (by decide +kernel)
  refine br_t (by decide +kernel) ?_
  intro v11 ev11; obtain rfl : v11 = 1 := ev11.trans (by decide +kernel)
  refine br_f (by decide +kernel) ?_
  intro v12 ev12; obtain rfl : v12 = 0 := ev12.trans (by decide +kernel)
  refine br_t (by decide +kernel) ?_
  intro v13 ev13; obtain rfl : v13 = 2 := ev13.trans (by decide +kernel)
  refine br_f (by decide +kernel) ?_
  intro v14 ev14; obtain rfl : v14 = 0 := ev14.trans (by decide +kernel)
  refine br_t (by decide +kernel) ?_
  intro v15 ev15; obtain rfl : v15 = 3 := ev15.trans (by decide +kernel)
  refine br_f (by decide +kernel) ?_
  intro v16 ev16; obtain rfl : v16 = 0 := ev16.trans (by decide +kernel)
  refine br_t (by decide +kernel) ?_
  intro v17 ev17; obtain rfl : v17 = 4 := ev17.trans (by decide +kernel)
  refine br_f (by decide +kernel) ?_
  intro v18 ev18; obtain rfl : v18 = 0 := ev18.trans (by decide +kernel)
  refine br_t (by decide +kernel) ?_
  intro v19 ev19; obtain rfl : v19 = 5 := ev19.trans (by decide +kernel)
  refine br_f (by decide +kernel) ?_
  intro v20 ev20; obtain rfl : v20 = 0 := ev20.trans (by decide +kernel)
  refine br_t (by decide +kernel) ?_
  intro v21 ev21; obtain rfl : v21 = 6 := ev21.trans (by decide +kernel)
  refine br_f (by decide +kernel) ?_
  intro v22 ev22; obtain rfl : v22 = 0 := ev22.trans (by decide +kernel)
  refine br_t (by decide +kernel) ?_
  intro v23 ev23; obtain rfl : v23 = 7 := ev23.trans (by decide +kernel)
  refine br_f (by decide +kernel) ?_
  intro v24 ev24; obtain rfl : v24 = 0 := ev24.trans (by decide +kernel)
  refine br_t (by decide +kernel) ?_
  intro v25 ev25; obtain rfl : v25 = 8 := ev25.trans (by decide +kernel)
  refine br_t (by decide +kernel) ?_
  exact h _ (by decide +kernel) _ _ _ _
set_option maxHeartbeats 8000000 in
set_option maxRecDepth 200000 in
theorem fx_needed (post : Int32 → Int32 → (Nat → Int32) → Int32 → (Nat → Int32) → Prop) (h : ∀ r : Int32, r = 0 → ∀ o0 : Int32, ∀ o1 : (Nat → Int32), ∀ o2 : Int32, ∀ o3 : (Nat → Int32), post r o0 o1 o2 o3) : wp_X9_needed post 0 (fun _ => 0) 0 0 (fun _ => 0) (fun _ => 0) (fun _ => 0) (fun _ => 0) (fun _ => 0) (upd (upd (upd (upd (upd (fun _ => 0) (0 : Int32).toNatClampNeg 8) (1 : Int32).toNatClampNeg 3) (2 : Int32).toNatClampNeg 5) (3 : Int32).toNatClampNeg 1) (4 : Int32).toNatClampNeg 6) 0 0 0 0 0 0 (fun _ => 0) := by
  intro v1 ev1; obtain rfl : v1 = 8 := ev1.trans (by decide +kernel)
  intro v2 ev2; obtain rfl : v2 = 8 := ev2.trans (by decide +kernel)
  refine Exists.intro 40 ?_
  refine br_t (by decide +kernel) ?_
  intro v3 ev3; obtain rfl : v3 = 1 := ev3.trans (by decide +kernel)
  intro v4 ev4; obtain rfl : v4 = 0 := ev4.trans (by decide +kernel)
  intro v5 ev5; obtain rfl : v5 = 0 := ev5.trans (by decide +kernel)
  refine Exists.intro 40 ?_
  refine br_t (by decide +kernel) ?_
  intro v6 ev6; obtain rfl : v6 = 0 := ev6.trans (by decide +kernel)
  intro v7 ev7; obtain rfl : v7 = 1 := ev7.trans (by decide +kernel)
  refine Exists.intro 40 ?_
  refine br_t (by decide +kernel) ?_
  intro v8 ev8; obtain rfl : v8 = 0 := ev8.trans (by decide +kernel)
  refine Exists.intro 40 ?_
  refine br_t (by decide +kernel) ?_
  refine br_f (by decide +kernel) ?_
  refine And.intro (g_in (by decide +kernel)) ?_
  intro v9 ev9; obtain rfl : v9 = 1 := ev9.trans (by decide +kernel)
  exact h _ (by decide +kernel) _ _ _ _
set_option maxHeartbeats 8000000 in
set_option maxRecDepth 200000 in
theorem fx_birds (post : Int32 → Int32 → (Nat → Int32) → Int32 → (Nat → Int32) → Prop) (p0 : Int32) (h : ∀ r : Int32, r = (if p0 < 0 then (-1) else (if 8 < p0 then (-1) else 0)) → ∀ o0 : Int32, ∀ o1 : (Nat → Int32), ∀ o2 : Int32, ∀ o3 : (Nat → Int32), post r o0 o1 o2 o3) : wp_X9_birds post p0 0 (fun _ => 0) 0 0 (fun _ => 0) (fun _ => 0) (fun _ => 0) (fun _ => 0) (fun _ => 0) (fun _ => 0) (upd (upd (upd (upd (upd (fun _ => 0) (0 : Int32).toNatClampNeg 8) (1 : Int32).toNatClampNeg 3) (2 : Int32).toNatClampNeg 5) (3 : Int32).toNatClampNeg 1) (4 : Int32).toNatClampNeg 6) 0 0 0 0 0 0 0 (fun _ => 0) := by
  refine And.intro (fun hc1 => ?_) (fun hc1 => ?_)
  · skip
    exact h _ ((if_pos ((fa_lt p0 0).mpr (by have l_0 : (0 : Int32).toInt = 0 := (by decide); have g_hc1 := (fa_lt p0 0).mp hc1; omega))).symm) _ _ _ _
  · skip
    refine And.intro (fun hc2 => ?_) (fun hc2 => ?_)
    · skip
      intro v3 ev3; obtain rfl : v3 = 8 := ev3.trans (by decide +kernel)
      intro v4 ev4; obtain rfl : v4 = 8 := ev4.trans (by decide +kernel)
      refine Exists.intro 40 ?_
      refine br_t (by decide +kernel) ?_
      intro v5 ev5; obtain rfl : v5 = 1 := ev5.trans (by decide +kernel)
      intro v6 ev6; obtain rfl : v6 = 0 := ev6.trans (by decide +kernel)
      intro v7 ev7; obtain rfl : v7 = 0 := ev7.trans (by decide +kernel)
      refine Exists.intro 40 ?_
      refine br_t (by decide +kernel) ?_
      intro v8 ev8; obtain rfl : v8 = 0 := ev8.trans (by decide +kernel)
      intro v9 ev9; obtain rfl : v9 = 1 := ev9.trans (by decide +kernel)
      refine Exists.intro 40 ?_
      refine br_t (by decide +kernel) ?_
      intro v10 ev10; obtain rfl : v10 = 0 := ev10.trans (by decide +kernel)
      refine Exists.intro 40 ?_
      refine br_t (by decide +kernel) ?_
      intro v11 ev11; obtain rfl : v11 = 0 := ev11.trans (by decide +kernel)
      refine Exists.intro 40 ?_
      refine br_t (by decide +kernel) ?_
      refine Exists.intro 40 ?_
      intro v12 ev12; obtain rfl : v12 = 1 := ev12.trans (by decide +kernel)
      refine br_t (by decide +kernel) ?_
      refine Exists.intro 40 ?_
      refine br_t (by decide +kernel) ?_
      intro v13 ev13; obtain rfl : v13 = 0 := ev13.trans (by decide +kernel)
      refine br_f (by decide +kernel) ?_
      refine And.intro (g_in (by decide +kernel)) ?_
      intro v14 ev14; obtain rfl : v14 = 1 := ev14.trans (by decide +kernel)
      refine br_f (by decide +kernel) ?_
      refine And.intro (g_in (by decide +kernel)) ?_
      intro v15 ev15; obtain rfl : v15 = 2 := ev15.trans (by decide +kernel)
      exact h _ (((if_neg (fun q0 => absurd ((fa_lt p0 0).mp q0) (by have l_0 : (0 : Int32).toInt = 0 := (by decide); have l_1 : (8 : Int32).toInt = 8 := (by decide); have g_hc1 := mt (fa_lt p0 0).mpr hc1; have g_hc2 := (fa_le p0 8).mp hc2; omega))).trans (if_neg (fun q0 => absurd ((fa_lt 8 p0).mp q0) (by have l_0 : (0 : Int32).toInt = 0 := (by decide); have l_1 : (8 : Int32).toInt = 8 := (by decide); have g_hc1 := mt (fa_lt p0 0).mpr hc1; have g_hc2 := (fa_le p0 8).mp hc2; omega)))).symm) _ _ _ _
    · skip
      exact h _ (((if_neg (fun q0 => absurd ((fa_lt p0 0).mp q0) (by have l_0 : (0 : Int32).toInt = 0 := (by decide); have l_1 : (8 : Int32).toInt = 8 := (by decide); have g_hc1 := mt (fa_lt p0 0).mpr hc1; have g_hc2 := mt (fa_le p0 8).mpr hc2; omega))).trans (if_pos ((fa_lt 8 p0).mpr (by have l_0 : (0 : Int32).toInt = 0 := (by decide); have l_1 : (8 : Int32).toInt = 8 := (by decide); have g_hc1 := mt (fa_lt p0 0).mpr hc1; have g_hc2 := mt (fa_le p0 8).mpr hc2; omega)))).symm) _ _ _ _
set_option maxHeartbeats 8000000 in
set_option maxRecDepth 200000 in
theorem fx_next (post : Int32 → Int32 → (Nat → Int32) → Int32 → (Nat → Int32) → Prop) (p0 : Int32) (h : ∀ r : Int32, r = (if p0 = 0 then (-2) else (-1)) → ∀ o0 : Int32, ∀ o1 : (Nat → Int32), ∀ o2 : Int32, ∀ o3 : (Nat → Int32), post r o0 o1 o2 o3) : wp_X9_next post p0 0 (fun _ => 0) 0 0 (fun _ => 0) (fun _ => 0) (fun _ => 0) (fun _ => 0) (fun _ => 0) (fun _ => 0) (upd (upd (upd (upd (upd (fun _ => 0) (0 : Int32).toNatClampNeg 8) (1 : Int32).toNatClampNeg 3) (2 : Int32).toNatClampNeg 5) (3 : Int32).toNatClampNeg 1) (4 : Int32).toNatClampNeg 6) 0 0 0 0 0 0 0 (fun _ => 0) := by
  intro v1 ev1; obtain rfl : v1 = 1 := ev1.trans (by decide +kernel)
  refine And.intro (fun hc2 => ?_) (fun hc2 => ?_)
  · skip
    have hc3 : ¬ p0 = 0 := fun q0 => hc2 ((g_and1 p0).trans q0)
    refine And.intro (fun h9 => absurd rfl h9) (fun _ => ?_)
    exact h _ ((if_neg (fun q0 => absurd ((fa_eq p0 0).mp q0) (by have l_0 : (0 : Int32).toInt = 0 := (by decide); have g_hc3 := mt (fa_eq p0 0).mpr hc3; omega))).symm) _ _ _ _
  · skip
    have hc4 : p0 = 0 := (g_and1 p0).symm.trans hc2
    obtain rfl : p0 = 0 := (fa_eq _ _).mpr (by have l_0 : (0 : Int32).toInt = 0 := (by decide); have g_hc4 := (fa_eq p0 0).mp hc4; omega)
    refine And.intro (fun _ => ?_) (fun h9 => absurd h9 (by decide +kernel))
    intro v5 ev5; obtain rfl : v5 = 8 := ev5.trans (by decide +kernel)
    intro v6 ev6; obtain rfl : v6 = 8 := ev6.trans (by decide +kernel)
    refine Exists.intro 40 ?_
    refine br_t (by decide +kernel) ?_
    intro v7 ev7; obtain rfl : v7 = 1 := ev7.trans (by decide +kernel)
    intro v8 ev8; obtain rfl : v8 = 0 := ev8.trans (by decide +kernel)
    intro v9 ev9; obtain rfl : v9 = 0 := ev9.trans (by decide +kernel)
    refine Exists.intro 40 ?_
    refine br_t (by decide +kernel) ?_
    intro v10 ev10; obtain rfl : v10 = 0 := ev10.trans (by decide +kernel)
    intro v11 ev11; obtain rfl : v11 = 1 := ev11.trans (by decide +kernel)
    refine Exists.intro 40 ?_
    refine br_t (by decide +kernel) ?_
    intro v12 ev12; obtain rfl : v12 = 0 := ev12.trans (by decide +kernel)
    refine Exists.intro 40 ?_
    refine br_t (by decide +kernel) ?_
    refine br_t (by decide +kernel) ?_
    exact h _ ((if_pos (by decide +kernel)).symm) _ _ _ _
set_option maxHeartbeats 8000000 in
set_option maxRecDepth 200000 in
theorem fx_route (post : Int32 → Int32 → (Nat → Int32) → Prop) (p0 : Int32) (h : ∀ r : Int32, r = (if p0 = 0 then 0 else (-1)) → ∀ o0 : Int32, ∀ o1 : (Nat → Int32), post r o0 o1) : wp_X9_route post p0 0 (fun _ => 0) (upd (upd (upd (upd (upd (fun _ => 0) (0 : Int32).toNatClampNeg 8) (1 : Int32).toNatClampNeg 3) (2 : Int32).toNatClampNeg 5) (3 : Int32).toNatClampNeg 1) (4 : Int32).toNatClampNeg 6) (-1) 0 (fun _ => 0) := by
  intro v1 ev1; obtain rfl : v1 = 1 := ev1.trans (by decide +kernel)
  refine And.intro (fun hc2 => ?_) (fun hc2 => ?_)
  · skip
    have hc3 : ¬ p0 = 0 := fun q0 => hc2 ((g_and1 p0).trans q0)
    refine And.intro (fun h9 => absurd rfl h9) (fun _ => ?_)
    exact h _ ((if_neg (fun q0 => absurd ((fa_eq p0 0).mp q0) (by have l_0 : (0 : Int32).toInt = 0 := (by decide); have g_hc3 := mt (fa_eq p0 0).mpr hc3; omega))).symm) _ _
  · skip
    have hc4 : p0 = 0 := (g_and1 p0).symm.trans hc2
    obtain rfl : p0 = 0 := (fa_eq _ _).mpr (by have l_0 : (0 : Int32).toInt = 0 := (by decide); have g_hc4 := (fa_eq p0 0).mp hc4; omega)
    refine And.intro (fun _ => ?_) (fun h9 => absurd h9 (by decide +kernel))
    refine And.intro (fun h9 => absurd rfl h9) (fun _ => ?_)
    intro v5 ev5; obtain rfl : v5 = 0 := ev5.trans (by decide +kernel)
    intro v6 ev6; obtain rfl : v6 = 0 := ev6.trans (by decide +kernel)
    intro v7 ev7; obtain rfl : v7 = 0 := ev7.trans (by decide +kernel)
    intro v8 ev8; obtain rfl : v8 = 0 := ev8.trans (by decide +kernel)
    intro v9 ev9; obtain rfl : v9 = 0 := ev9.trans (by decide +kernel)
    intro v10 ev10; obtain rfl : v10 = 0 := ev10.trans (by decide +kernel)
    intro v11 ev11; obtain rfl : v11 = 0 := ev11.trans (by decide +kernel)
    intro v12 ev12; obtain rfl : v12 = 0 := ev12.trans (by decide +kernel)
    intro v13 ev13; obtain rfl : v13 = 0 := ev13.trans (by decide +kernel)
    refine And.intro (fun h9 => absurd rfl h9) (fun _ => ?_)
    refine Exists.intro 40 ?_
    refine br_f (by decide +kernel) ?_
    refine br_t (by decide +kernel) ?_
    exact h _ ((if_pos (by decide +kernel)).symm) _ _
set_option maxHeartbeats 8000000 in
set_option maxRecDepth 200000 in
theorem fx_work (post : Int32 → Int32 → Int32 → Int32 → Int32 → (Nat → Int32) → (Nat → Int32) → (Nat → Int32) → (Nat → Int32) → (Nat → Int32) → Int32 → (Nat → Int32) → Prop) (p0 : Int32) (h : ∀ r : Int32, r = (if p0 = 0 then 0 else (-1)) → ∀ o0 : Int32, ∀ o1 : Int32, ∀ o2 : Int32, ∀ o3 : Int32, ∀ o4 : (Nat → Int32), ∀ o5 : (Nat → Int32), ∀ o6 : (Nat → Int32), ∀ o7 : (Nat → Int32), ∀ o8 : (Nat → Int32), ∀ o9 : Int32, ∀ o10 : (Nat → Int32), post r o0 o1 o2 o3 o4 o5 o6 o7 o8 o9 o10) : wp_X9_work post p0 0 0 0 0 (fun _ => 0) (fun _ => 0) (fun _ => 0) 0 0 (fun _ => 0) (fun _ => 0) (fun _ => 0) (fun _ => 0) (fun _ => 0) (fun _ => 0) (upd (upd (upd (upd (upd (fun _ => 0) (0 : Int32).toNatClampNeg 8) (1 : Int32).toNatClampNeg 3) (2 : Int32).toNatClampNeg 5) (3 : Int32).toNatClampNeg 1) (4 : Int32).toNatClampNeg 6) 0 0 0 0 (-1) 0 0 0 (fun _ => 0) (fun _ => 0) (fun _ => 0) 0 (fun _ => 0) := by
  intro v1 ev1; obtain rfl : v1 = 1 := ev1.trans (by decide +kernel)
  refine And.intro (fun hc2 => ?_) (fun hc2 => ?_)
  · skip
    have hc3 : ¬ p0 = 0 := fun q0 => hc2 ((g_and1 p0).trans q0)
    refine And.intro (fun h9 => absurd rfl h9) (fun _ => ?_)
    exact h _ ((if_neg (fun q0 => absurd ((fa_eq p0 0).mp q0) (by have l_0 : (0 : Int32).toInt = 0 := (by decide); have g_hc3 := mt (fa_eq p0 0).mpr hc3; omega))).symm) _ _ _ _ _ _ _ _ _ _ _
  · skip
    have hc4 : p0 = 0 := (g_and1 p0).symm.trans hc2
    obtain rfl : p0 = 0 := (fa_eq _ _).mpr (by have l_0 : (0 : Int32).toInt = 0 := (by decide); have g_hc4 := (fa_eq p0 0).mp hc4; omega)
    refine And.intro (fun _ => ?_) (fun h9 => absurd h9 (by decide +kernel))
    intro v5 ev5; obtain rfl : v5 = 8 := ev5.trans (by decide +kernel)
    intro v6 ev6; obtain rfl : v6 = 8 := ev6.trans (by decide +kernel)
    refine Exists.intro 40 ?_
    refine br_t (by decide +kernel) ?_
    intro v7 ev7; obtain rfl : v7 = 1 := ev7.trans (by decide +kernel)
    intro v8 ev8; obtain rfl : v8 = 0 := ev8.trans (by decide +kernel)
    intro v9 ev9; obtain rfl : v9 = 0 := ev9.trans (by decide +kernel)
    refine Exists.intro 40 ?_
    refine br_t (by decide +kernel) ?_
    intro v10 ev10; obtain rfl : v10 = 0 := ev10.trans (by decide +kernel)
    intro v11 ev11; obtain rfl : v11 = 1 := ev11.trans (by decide +kernel)
    refine Exists.intro 40 ?_
    refine br_t (by decide +kernel) ?_
    intro v12 ev12; obtain rfl : v12 = 0 := ev12.trans (by decide +kernel)
    refine Exists.intro 40 ?_
    refine br_t (by decide +kernel) ?_
    refine Exists.intro 40 ?_
    refine br_f (by decide +kernel) ?_
    refine And.intro (g_in (by decide +kernel)) ?_
    intro v13 ev13; obtain rfl : v13 = 1 := ev13.trans (by decide +kernel)
    refine br_f (by decide +kernel) ?_
    refine And.intro (g_in (by decide +kernel)) ?_
    intro v14 ev14; obtain rfl : v14 = 2 := ev14.trans (by decide +kernel)
    refine br_f (by decide +kernel) ?_
    refine And.intro (g_in (by decide +kernel)) ?_
    intro v15 ev15; obtain rfl : v15 = 3 := ev15.trans (by decide +kernel)
    refine br_f (by decide +kernel) ?_
    refine And.intro (g_in (by decide +kernel)) ?_
    intro v16 ev16; obtain rfl : v16 = 4 := ev16.trans (by decide +kernel)
    refine br_f (by decide +kernel) ?_
    refine And.intro (g_in (by decide +kernel)) ?_
    intro v17 ev17; obtain rfl : v17 = 5 := ev17.trans (by decide +kernel)
    refine br_f (by decide +kernel) ?_
    refine And.intro (g_in (by decide +kernel)) ?_
    intro v18 ev18; obtain rfl : v18 = 6 := ev18.trans (by decide +kernel)
    refine br_f (by decide +kernel) ?_
    refine And.intro (g_in (by decide +kernel)) ?_
    intro v19 ev19; obtain rfl : v19 = 7 := ev19.trans (by decide +kernel)
    refine br_f (by decide +kernel) ?_
    refine And.intro (g_in (by decide +kernel)) ?_
    intro v20 ev20; obtain rfl : v20 = 8 := ev20.trans (by decide +kernel)
    refine br_t (by decide +kernel) ?_
    refine Exists.intro 40 ?_
    refine br_t (by decide +kernel) ?_
    refine Exists.intro 40 ?_
    refine br_t (by decide +kernel) ?_
    refine And.intro (fun h9 => absurd rfl h9) (fun _ => ?_)
    intro v21 ev21; obtain rfl : v21 = 0 := ev21.trans (by decide +kernel)
    intro v22 ev22; obtain rfl : v22 = 0 := ev22.trans (by decide +kernel)
    intro v23 ev23; obtain rfl : v23 = 0 := ev23.trans (by decide +kernel)
    intro v24 ev24; obtain rfl : v24 = 0 := ev24.trans (by decide +kernel)
    intro v25 ev25; obtain rfl : v25 = 0 := ev25.trans (by decide +kernel)
    intro v26 ev26; obtain rfl : v26 = 0 := ev26.trans (by decide +kernel)
    intro v27 ev27; obtain rfl : v27 = 0 := ev27.trans (by decide +kernel)
    intro v28 ev28; obtain rfl : v28 = 0 := ev28.trans (by decide +kernel)
    intro v29 ev29; obtain rfl : v29 = 0 := ev29.trans (by decide +kernel)
    refine And.intro (fun h9 => absurd rfl h9) (fun _ => ?_)
    intro v30 ev30; obtain rfl : v30 = 0 := ev30.trans (by decide +kernel)
    refine br_f (by decide +kernel) ?_
    refine And.intro (g_in (by decide +kernel)) ?_
    intro v31 ev31; obtain rfl : v31 = 1 := ev31.trans (by decide +kernel)
    refine br_f (by decide +kernel) ?_
    refine And.intro (g_in (by decide +kernel)) ?_
    intro v32 ev32; obtain rfl : v32 = 2 := ev32.trans (by decide +kernel)
    refine br_f (by decide +kernel) ?_
    refine And.intro (g_in (by decide +kernel)) ?_
    intro v33 ev33; obtain rfl : v33 = 3 := ev33.trans (by decide +kernel)
    exact h _ ((if_pos (by decide +kernel)).symm) _ _ _ _ _ _ _ _ _ _ _
set_option maxHeartbeats 8000000 in
set_option maxRecDepth 200000 in
theorem fx_soonest (post : Int32 → Int32 → Int32 → Int32 → Int32 → (Nat → Int32) → (Nat → Int32) → (Nat → Int32) → (Nat → Int32) → (Nat → Int32) → Int32 → (Nat → Int32) → Prop) (h : ∀ r : Int32, r = 0 → ∀ o0 : Int32, ∀ o1 : Int32, ∀ o2 : Int32, ∀ o3 : Int32, ∀ o4 : (Nat → Int32), ∀ o5 : (Nat → Int32), ∀ o6 : (Nat → Int32), ∀ o7 : (Nat → Int32), ∀ o8 : (Nat → Int32), ∀ o9 : Int32, ∀ o10 : (Nat → Int32), post r o0 o1 o2 o3 o4 o5 o6 o7 o8 o9 o10) : wp_X9_soonest post 0 0 0 0 (fun _ => 0) (fun _ => 0) (fun _ => 0) 0 0 (fun _ => 0) (fun _ => 0) (fun _ => 0) (fun _ => 0) (fun _ => 0) (fun _ => 0) (upd (upd (upd (upd (upd (fun _ => 0) (0 : Int32).toNatClampNeg 8) (1 : Int32).toNatClampNeg 3) (2 : Int32).toNatClampNeg 5) (3 : Int32).toNatClampNeg 1) (4 : Int32).toNatClampNeg 6) 0 0 0 0 (-1) 0 0 0 (fun _ => 0) (fun _ => 0) (fun _ => 0) 0 (fun _ => 0) := by
  intro v1 ev1; obtain rfl : v1 = 8 := ev1.trans (by decide +kernel)
  intro v2 ev2; obtain rfl : v2 = 8 := ev2.trans (by decide +kernel)
  refine Exists.intro 40 ?_
  refine br_t (by decide +kernel) ?_
  intro v3 ev3; obtain rfl : v3 = 1 := ev3.trans (by decide +kernel)
  intro v4 ev4; obtain rfl : v4 = 0 := ev4.trans (by decide +kernel)
  intro v5 ev5; obtain rfl : v5 = 0 := ev5.trans (by decide +kernel)
  refine Exists.intro 40 ?_
  refine br_t (by decide +kernel) ?_
  intro v6 ev6; obtain rfl : v6 = 0 := ev6.trans (by decide +kernel)
  intro v7 ev7; obtain rfl : v7 = 1 := ev7.trans (by decide +kernel)
  refine Exists.intro 40 ?_
  refine br_t (by decide +kernel) ?_
  intro v8 ev8; obtain rfl : v8 = 0 := ev8.trans (by decide +kernel)
  refine Exists.intro 40 ?_
  refine br_t (by decide +kernel) ?_
  intro v9 ev9; obtain rfl : v9 = 1 := ev9.trans (by decide +kernel)
  refine Exists.intro 40 ?_
  refine br_f (by decide +kernel) ?_
  refine And.intro (g_in (by decide +kernel)) ?_
  intro v10 ev10; obtain rfl : v10 = 1 := ev10.trans (by decide +kernel)
  refine br_f (by decide +kernel) ?_
  refine And.intro (g_in (by decide +kernel)) ?_
  intro v11 ev11; obtain rfl : v11 = 2 := ev11.trans (by decide +kernel)
  refine br_f (by decide +kernel) ?_
  refine And.intro (g_in (by decide +kernel)) ?_
  intro v12 ev12; obtain rfl : v12 = 3 := ev12.trans (by decide +kernel)
  refine br_f (by decide +kernel) ?_
  refine And.intro (g_in (by decide +kernel)) ?_
  intro v13 ev13; obtain rfl : v13 = 4 := ev13.trans (by decide +kernel)
  refine br_f (by decide +kernel) ?_
  refine And.intro (g_in (by decide +kernel)) ?_
  intro v14 ev14; obtain rfl : v14 = 5 := ev14.trans (by decide +kernel)
  refine br_f (by decide +kernel) ?_
  refine And.intro (g_in (by decide +kernel)) ?_
  intro v15 ev15; obtain rfl : v15 = 6 := ev15.trans (by decide +kernel)
  refine br_f (by decide +kernel) ?_
  refine And.intro (g_in (by decide +kernel)) ?_
  intro v16 ev16; obtain rfl : v16 = 7 := ev16.trans (by decide +kernel)
  refine br_f (by decide +kernel) ?_
  refine And.intro (g_in (by decide +kernel)) ?_
  intro v17 ev17; obtain rfl : v17 = 8 := ev17.trans (by decide +kernel)
  refine br_t (by decide +kernel) ?_
  refine Exists.intro 40 ?_
  refine br_t (by decide +kernel) ?_
  refine Exists.intro 40 ?_
  refine br_t (by decide +kernel) ?_
  refine And.intro (fun h9 => absurd rfl h9) (fun _ => ?_)
  intro v18 ev18; obtain rfl : v18 = 0 := ev18.trans (by decide +kernel)
  intro v19 ev19; obtain rfl : v19 = 0 := ev19.trans (by decide +kernel)
  intro v20 ev20; obtain rfl : v20 = 0 := ev20.trans (by decide +kernel)
  intro v21 ev21; obtain rfl : v21 = 0 := ev21.trans (by decide +kernel)
  intro v22 ev22; obtain rfl : v22 = 0 := ev22.trans (by decide +kernel)
  intro v23 ev23; obtain rfl : v23 = 0 := ev23.trans (by decide +kernel)
  intro v24 ev24; obtain rfl : v24 = 0 := ev24.trans (by decide +kernel)
  intro v25 ev25; obtain rfl : v25 = 0 := ev25.trans (by decide +kernel)
  intro v26 ev26; obtain rfl : v26 = 0 := ev26.trans (by decide +kernel)
  refine And.intro (fun h9 => absurd rfl h9) (fun _ => ?_)
  intro v27 ev27; obtain rfl : v27 = 0 := ev27.trans (by decide +kernel)
  refine Exists.intro 40 ?_
  intro v28 ev28; obtain rfl : v28 = 1 := ev28.trans (by decide +kernel)
  refine br_t (by decide +kernel) ?_
  refine br_f (by decide +kernel) ?_
  refine And.intro (g_in (by decide +kernel)) ?_
  intro v29 ev29; obtain rfl : v29 = 1 := ev29.trans (by decide +kernel)
  exact h _ (by decide +kernel) _ _ _ _ _ _ _ _ _ _ _
set_option maxHeartbeats 8000000 in
set_option maxRecDepth 200000 in
theorem fx_pays (post : Int32 → Int32 → (Nat → Int32) → (Nat → Int32) → (Nat → Int32) → Int32 → (Nat → Int32) → Prop) (p0 : Int32) (h : ∀ r : Int32, r = (-1) → ∀ o0 : Int32, ∀ o1 : (Nat → Int32), ∀ o2 : (Nat → Int32), ∀ o3 : (Nat → Int32), ∀ o4 : Int32, ∀ o5 : (Nat → Int32), post r o0 o1 o2 o3 o4 o5) : wp_X9_pays post p0 0 (fun _ => 0) 0 0 (fun _ => 0) (fun _ => 0) (fun _ => 0) (fun _ => 0) (fun _ => 0) (fun _ => 0) (upd (upd (upd (upd (upd (fun _ => 0) (0 : Int32).toNatClampNeg 8) (1 : Int32).toNatClampNeg 3) (2 : Int32).toNatClampNeg 5) (3 : Int32).toNatClampNeg 1) (4 : Int32).toNatClampNeg 6) 0 0 0 0 (-1) 0 0 0 (fun _ => 0) (fun _ => 0) (fun _ => 0) 0 (fun _ => 0) := by
  refine And.intro (fun hc1 => ?_) (fun hc1 => ?_)
  · skip
    refine And.intro (fun h9 => absurd rfl h9) (fun _ => ?_)
    exact h _ (by decide +kernel) _ _ _ _ _ _
  · skip
    refine br_t ((fa_le 0 p0).mpr (by have l_0 : (0 : Int32).toInt = 0 := (by decide); have g_hc1 := mt (fa_lt p0 0).mpr hc1; omega)) ?_
    refine And.intro (fun h9 => absurd rfl h9) (fun _ => ?_)
    exact h _ (by decide +kernel) _ _ _ _ _ _
set_option maxHeartbeats 8000000 in
set_option maxRecDepth 200000 in
theorem fx_trips (post : Int32 → Int32 → (Nat → Int32) → Int32 → (Nat → Int32) → Prop) (p0 : Int32) (h : ∀ r : Int32, r = (-1) → ∀ o0 : Int32, ∀ o1 : (Nat → Int32), ∀ o2 : Int32, ∀ o3 : (Nat → Int32), post r o0 o1 o2 o3) : wp_X9_trips post p0 0 (fun _ => 0) 0 0 (fun _ => 0) (fun _ => 0) (fun _ => 0) (fun _ => 0) (fun _ => 0) (upd (upd (upd (upd (upd (fun _ => 0) (0 : Int32).toNatClampNeg 8) (1 : Int32).toNatClampNeg 3) (2 : Int32).toNatClampNeg 5) (3 : Int32).toNatClampNeg 1) (4 : Int32).toNatClampNeg 6) 0 0 0 (-1) 0 0 0 (fun _ => 0) := by
  refine And.intro (fun hc1 => ?_) (fun hc1 => ?_)
  · skip
    refine And.intro (fun h9 => absurd rfl h9) (fun _ => ?_)
    exact h _ (by decide +kernel) _ _ _ _
  · skip
    refine br_t ((fa_le 0 p0).mpr (by have l_0 : (0 : Int32).toInt = 0 := (by decide); have g_hc1 := mt (fa_lt p0 0).mpr hc1; omega)) ?_
    refine And.intro (fun h9 => absurd rfl h9) (fun _ => ?_)
    exact h _ (by decide +kernel) _ _ _ _
set_option maxHeartbeats 8000000 in
set_option maxRecDepth 200000 in
theorem fx_helps (post : Int32 → Int32 → (Nat → Int32) → Int32 → (Nat → Int32) → Prop) (h : ∀ r : Int32, r = 0 → ∀ o0 : Int32, ∀ o1 : (Nat → Int32), ∀ o2 : Int32, ∀ o3 : (Nat → Int32), post r o0 o1 o2 o3) : wp_X9_helps post 0 (fun _ => 0) 0 0 (fun _ => 0) (fun _ => 0) (fun _ => 0) (fun _ => 0) (fun _ => 0) (upd (upd (upd (upd (upd (fun _ => 0) (0 : Int32).toNatClampNeg 8) (1 : Int32).toNatClampNeg 3) (2 : Int32).toNatClampNeg 5) (3 : Int32).toNatClampNeg 1) (4 : Int32).toNatClampNeg 6) 0 0 0 0 0 (fun _ => 0) := by
  intro v1 ev1; obtain rfl : v1 = 8 := ev1.trans (by decide +kernel)
  intro v2 ev2; obtain rfl : v2 = 8 := ev2.trans (by decide +kernel)
  refine Exists.intro 40 ?_
  refine br_t (by decide +kernel) ?_
  intro v3 ev3; obtain rfl : v3 = 1 := ev3.trans (by decide +kernel)
  intro v4 ev4; obtain rfl : v4 = 0 := ev4.trans (by decide +kernel)
  intro v5 ev5; obtain rfl : v5 = 0 := ev5.trans (by decide +kernel)
  refine Exists.intro 40 ?_
  refine br_t (by decide +kernel) ?_
  intro v6 ev6; obtain rfl : v6 = 0 := ev6.trans (by decide +kernel)
  intro v7 ev7; obtain rfl : v7 = 1 := ev7.trans (by decide +kernel)
  refine Exists.intro 40 ?_
  refine br_t (by decide +kernel) ?_
  intro v8 ev8; obtain rfl : v8 = 0 := ev8.trans (by decide +kernel)
  intro v9 ev9; obtain rfl : v9 = 1 := ev9.trans (by decide +kernel)
  refine Exists.intro 40 ?_
  refine br_t (by decide +kernel) ?_
  intro v10 ev10; obtain rfl : v10 = 8 := ev10.trans (by decide +kernel)
  intro v11 ev11; obtain rfl : v11 = 11 := ev11.trans (by decide +kernel)
  refine Exists.intro 40 ?_
  refine br_t (by decide +kernel) ?_
  intro v12 ev12; obtain rfl : v12 = 1 := ev12.trans (by decide +kernel)
  intro v13 ev13; obtain rfl : v13 = 0 := ev13.trans (by decide +kernel)
  intro v14 ev14; obtain rfl : v14 = 0 := ev14.trans (by decide +kernel)
  refine Exists.intro 40 ?_
  refine br_t (by decide +kernel) ?_
  intro v15 ev15; obtain rfl : v15 = 0 := ev15.trans (by decide +kernel)
  intro v16 ev16; obtain rfl : v16 = 1 := ev16.trans (by decide +kernel)
  refine Exists.intro 40 ?_
  refine br_t (by decide +kernel) ?_
  intro v17 ev17; obtain rfl : v17 = 0 := ev17.trans (by decide +kernel)
  intro v18 ev18; obtain rfl : v18 = 1 := ev18.trans (by decide +kernel)
  refine Exists.intro 40 ?_
  refine br_t (by decide +kernel) ?_
  intro v19 ev19; obtain rfl : v19 = 0 := ev19.trans (by decide +kernel)
  intro v20 ev20; obtain rfl : v20 = 0 := ev20.trans (by decide +kernel)
  intro v21 ev21; obtain rfl : v21 = 0 := ev21.trans (by decide +kernel)
  intro v22 ev22; obtain rfl : v22 = 0 := ev22.trans (by decide +kernel)
  intro v23 ev23; obtain rfl : v23 = 0 := ev23.trans (by decide +kernel)
  intro v24 ev24; obtain rfl : v24 = 0 := ev24.trans (by decide +kernel)
  intro v25 ev25; obtain rfl : v25 = 0 := ev25.trans (by decide +kernel)
  intro v26 ev26; obtain rfl : v26 = 0 := ev26.trans (by decide +kernel)
  intro v27 ev27; obtain rfl : v27 = 0 := ev27.trans (by decide +kernel)
  intro v28 ev28; obtain rfl : v28 = 0 := ev28.trans (by decide +kernel)
  intro v29 ev29; obtain rfl : v29 = 0 := ev29.trans (by decide +kernel)
  intro v30 ev30; obtain rfl : v30 = 0 := ev30.trans (by decide +kernel)
  intro v31 ev31; obtain rfl : v31 = 0 := ev31.trans (by decide +kernel)
  intro v32 ev32; obtain rfl : v32 = 0 := ev32.trans (by decide +kernel)
  intro v33 ev33; obtain rfl : v33 = 0 := ev33.trans (by decide +kernel)
  intro v34 ev34; obtain rfl : v34 = 0 := ev34.trans (by decide +kernel)
  intro v35 ev35; obtain rfl : v35 = 0 := ev35.trans (by decide +kernel)
  intro v36 ev36; obtain rfl : v36 = 0 := ev36.trans (by decide +kernel)
  refine br_f (by decide +kernel) ?_
  refine And.intro (g_in (by decide +kernel)) ?_
  intro v37 ev37; obtain rfl : v37 = 1 := ev37.trans (by decide +kernel)
  refine br_f (by decide +kernel) ?_
  refine And.intro (g_in (by decide +kernel)) ?_
  intro v38 ev38; obtain rfl : v38 = 2 := ev38.trans (by decide +kernel)
  intro v39 ev39; obtain rfl : v39 = 0 := ev39.trans (by decide +kernel)
  intro v40 ev40; obtain rfl : v40 = 0 := ev40.trans (by decide +kernel)
  intro v41 ev41; obtain rfl : v41 = 0 := ev41.trans (by decide +kernel)
  intro v42 ev42; obtain rfl : v42 = 0 := ev42.trans (by decide +kernel)
  intro v43 ev43; obtain rfl : v43 = 0 := ev43.trans (by decide +kernel)
  intro v44 ev44; obtain rfl : v44 = 0 := ev44.trans (by decide +kernel)
  intro v45 ev45; obtain rfl : v45 = 0 := ev45.trans (by decide +kernel)
  intro v46 ev46; obtain rfl : v46 = 0 := ev46.trans (by decide +kernel)
  intro v47 ev47; obtain rfl : v47 = 0 := ev47.trans (by decide +kernel)
  intro v48 ev48; obtain rfl : v48 = 0 := ev48.trans (by decide +kernel)
  intro v49 ev49; obtain rfl : v49 = 0 := ev49.trans (by decide +kernel)
  intro v50 ev50; obtain rfl : v50 = 0 := ev50.trans (by decide +kernel)
  intro v51 ev51; obtain rfl : v51 = 0 := ev51.trans (by decide +kernel)
  intro v52 ev52; obtain rfl : v52 = 0 := ev52.trans (by decide +kernel)
  intro v53 ev53; obtain rfl : v53 = 0 := ev53.trans (by decide +kernel)
  intro v54 ev54; obtain rfl : v54 = 0 := ev54.trans (by decide +kernel)
  intro v55 ev55; obtain rfl : v55 = 0 := ev55.trans (by decide +kernel)
  intro v56 ev56; obtain rfl : v56 = 0 := ev56.trans (by decide +kernel)
  exact h _ (by decide +kernel) _ _ _ _
set_option maxHeartbeats 8000000 in
set_option maxRecDepth 200000 in
theorem fx_hooked (post : Int32 → Int32 → (Nat → Int32) → Int32 → (Nat → Int32) → Prop) (h : ∀ r : Int32, r = 0 → ∀ o0 : Int32, ∀ o1 : (Nat → Int32), ∀ o2 : Int32, ∀ o3 : (Nat → Int32), post r o0 o1 o2 o3) : wp_X9_hooked post 0 (fun _ => 0) 0 0 (fun _ => 0) (fun _ => 0) (fun _ => 0) (fun _ => 0) (fun _ => 0) (upd (upd (upd (upd (upd (fun _ => 0) (0 : Int32).toNatClampNeg 8) (1 : Int32).toNatClampNeg 3) (2 : Int32).toNatClampNeg 5) (3 : Int32).toNatClampNeg 1) (4 : Int32).toNatClampNeg 6) 0 0 0 0 0 0 (fun _ => 0) := by
  intro v1 ev1; obtain rfl : v1 = 8 := ev1.trans (by decide +kernel)
  intro v2 ev2; obtain rfl : v2 = 8 := ev2.trans (by decide +kernel)
  refine Exists.intro 40 ?_
  refine br_t (by decide +kernel) ?_
  intro v3 ev3; obtain rfl : v3 = 1 := ev3.trans (by decide +kernel)
  intro v4 ev4; obtain rfl : v4 = 0 := ev4.trans (by decide +kernel)
  intro v5 ev5; obtain rfl : v5 = 0 := ev5.trans (by decide +kernel)
  refine Exists.intro 40 ?_
  refine br_t (by decide +kernel) ?_
  intro v6 ev6; obtain rfl : v6 = 0 := ev6.trans (by decide +kernel)
  intro v7 ev7; obtain rfl : v7 = 1 := ev7.trans (by decide +kernel)
  refine Exists.intro 40 ?_
  refine br_t (by decide +kernel) ?_
  intro v8 ev8; obtain rfl : v8 = 0 := ev8.trans (by decide +kernel)
  intro v9 ev9; obtain rfl : v9 = 1 := ev9.trans (by decide +kernel)
  intro v10 ev10; obtain rfl : v10 = 0 := ev10.trans (by decide +kernel)
  intro v11 ev11; obtain rfl : v11 = 0 := ev11.trans (by decide +kernel)
  refine Exists.intro 40 ?_
  refine br_t (by decide +kernel) ?_
  intro v12 ev12; obtain rfl : v12 = 0 := ev12.trans (by decide +kernel)
  intro v13 ev13; obtain rfl : v13 = 0 := ev13.trans (by decide +kernel)
  refine Exists.intro 40 ?_
  refine br_t (by decide +kernel) ?_
  refine br_f (by decide +kernel) ?_
  refine And.intro (g_in (by decide +kernel)) ?_
  intro v14 ev14; obtain rfl : v14 = 1 := ev14.trans (by decide +kernel)
  refine br_f (by decide +kernel) ?_
  refine And.intro (g_in (by decide +kernel)) ?_
  intro v15 ev15; obtain rfl : v15 = 2 := ev15.trans (by decide +kernel)
  exact h _ (by decide +kernel) _ _ _ _
set_option maxHeartbeats 8000000 in
set_option maxRecDepth 200000 in
theorem fx_broken (post : Int32 → Int32 → (Nat → Int32) → Int32 → (Nat → Int32) → Prop) (p0 : Int32) (h : ∀ r : Int32, r = (-1) → ∀ o0 : Int32, ∀ o1 : (Nat → Int32), ∀ o2 : Int32, ∀ o3 : (Nat → Int32), post r o0 o1 o2 o3) : wp_X9_broken post p0 0 (fun _ => 0) 0 0 (fun _ => 0) (fun _ => 0) (fun _ => 0) (fun _ => 0) (fun _ => 0) (upd (upd (upd (upd (upd (fun _ => 0) (0 : Int32).toNatClampNeg 8) (1 : Int32).toNatClampNeg 3) (2 : Int32).toNatClampNeg 5) (3 : Int32).toNatClampNeg 1) (4 : Int32).toNatClampNeg 6) 0 0 0 0 0 0 (fun _ => 0) := by
  refine And.intro (fun hc1 => ?_) (fun hc1 => ?_)
  · skip
    refine And.intro (fun h9 => absurd rfl h9) (fun _ => ?_)
    exact h _ (by decide +kernel) _ _ _ _
  · skip
    refine br_t ((fa_le 0 p0).mpr (by have l_0 : (0 : Int32).toInt = 0 := (by decide); have g_hc1 := mt (fa_lt p0 0).mpr hc1; omega)) ?_
    refine And.intro (fun h9 => absurd rfl h9) (fun _ => ?_)
    exact h _ (by decide +kernel) _ _ _ _
set_option maxHeartbeats 8000000 in
set_option maxRecDepth 200000 in
theorem fx_sweep (post : Int32 → Int32 → Int32 → Int32 → Int32 → (Nat → Int32) → (Nat → Int32) → (Nat → Int32) → (Nat → Int32) → (Nat → Int32) → Int32 → (Nat → Int32) → Prop) (p0 : Int32) (h : ∀ r : Int32, r = (if p0 < 0 then (-1) else (if 9999 < p0 then (-1) else 0)) → ∀ o0 : Int32, ∀ o1 : Int32, ∀ o2 : Int32, ∀ o3 : Int32, ∀ o4 : (Nat → Int32), ∀ o5 : (Nat → Int32), ∀ o6 : (Nat → Int32), ∀ o7 : (Nat → Int32), ∀ o8 : (Nat → Int32), ∀ o9 : Int32, ∀ o10 : (Nat → Int32), post r o0 o1 o2 o3 o4 o5 o6 o7 o8 o9 o10) : wp_X9_sweep post p0 0 0 0 0 (fun _ => 0) (fun _ => 0) (fun _ => 0) 0 0 (fun _ => 0) (fun _ => 0) (fun _ => 0) (fun _ => 0) (fun _ => 0) (fun _ => 0) (upd (upd (upd (upd (upd (fun _ => 0) (0 : Int32).toNatClampNeg 8) (1 : Int32).toNatClampNeg 3) (2 : Int32).toNatClampNeg 5) (3 : Int32).toNatClampNeg 1) (4 : Int32).toNatClampNeg 6) 0 0 0 0 (-1) 0 0 0 (fun _ => 0) (fun _ => 0) (fun _ => 0) 0 (fun _ => 0) := by
  refine And.intro (fun hc1 => ?_) (fun hc1 => ?_)
  · skip
    exact h _ ((if_pos ((fa_lt p0 0).mpr (by have l_0 : (0 : Int32).toInt = 0 := (by decide); have g_hc1 := (fa_lt p0 0).mp hc1; omega))).symm) _ _ _ _ _ _ _ _ _ _ _
  · skip
    refine And.intro (fun hc2 => ?_) (fun hc2 => ?_)
    · skip
      intro v3 ev3; obtain rfl : v3 = 8 := ev3.trans (by decide +kernel)
      intro v4 ev4; obtain rfl : v4 = 8 := ev4.trans (by decide +kernel)
      refine Exists.intro 40 ?_
      refine br_t (by decide +kernel) ?_
      intro v5 ev5; obtain rfl : v5 = 1 := ev5.trans (by decide +kernel)
      intro v6 ev6; obtain rfl : v6 = 0 := ev6.trans (by decide +kernel)
      intro v7 ev7; obtain rfl : v7 = 0 := ev7.trans (by decide +kernel)
      refine Exists.intro 40 ?_
      refine br_t (by decide +kernel) ?_
      intro v8 ev8; obtain rfl : v8 = 0 := ev8.trans (by decide +kernel)
      intro v9 ev9; obtain rfl : v9 = 1 := ev9.trans (by decide +kernel)
      refine Exists.intro 40 ?_
      refine br_t (by decide +kernel) ?_
      intro v10 ev10; obtain rfl : v10 = 0 := ev10.trans (by decide +kernel)
      refine Exists.intro 40 ?_
      refine br_t (by decide +kernel) ?_
      refine Exists.intro 40 ?_
      intro v11 ev11; obtain rfl : v11 = 1 := ev11.trans (by decide +kernel)
      refine br_t (by decide +kernel) ?_
      refine br_f (by decide +kernel) ?_
      refine And.intro (g_in (by decide +kernel)) ?_
      intro v12 ev12; obtain rfl : v12 = 1 := ev12.trans (by decide +kernel)
      refine br_f (by decide +kernel) ?_
      refine And.intro (g_in (by decide +kernel)) ?_
      intro v13 ev13; obtain rfl : v13 = 2 := ev13.trans (by decide +kernel)
      exact h _ (((if_neg (fun q0 => absurd ((fa_lt p0 0).mp q0) (by have l_0 : (0 : Int32).toInt = 0 := (by decide); have l_1 : (9999 : Int32).toInt = 9999 := (by decide); have g_hc1 := mt (fa_lt p0 0).mpr hc1; have g_hc2 := (fa_le p0 9999).mp hc2; omega))).trans (if_neg (fun q0 => absurd ((fa_lt 9999 p0).mp q0) (by have l_0 : (0 : Int32).toInt = 0 := (by decide); have l_1 : (9999 : Int32).toInt = 9999 := (by decide); have g_hc1 := mt (fa_lt p0 0).mpr hc1; have g_hc2 := (fa_le p0 9999).mp hc2; omega)))).symm) _ _ _ _ _ _ _ _ _ _ _
    · skip
      exact h _ (((if_neg (fun q0 => absurd ((fa_lt p0 0).mp q0) (by have l_0 : (0 : Int32).toInt = 0 := (by decide); have l_1 : (9999 : Int32).toInt = 9999 := (by decide); have g_hc1 := mt (fa_lt p0 0).mpr hc1; have g_hc2 := mt (fa_le p0 9999).mpr hc2; omega))).trans (if_pos ((fa_lt 9999 p0).mpr (by have l_0 : (0 : Int32).toInt = 0 := (by decide); have l_1 : (9999 : Int32).toInt = 9999 := (by decide); have g_hc1 := mt (fa_lt p0 0).mpr hc1; have g_hc2 := mt (fa_le p0 9999).mpr hc2; omega)))).symm) _ _ _ _ _ _ _ _ _ _ _
set_option maxHeartbeats 8000000 in
set_option maxRecDepth 200000 in
theorem fx_dusk (post : Int32 → (Nat → Int32) → (Nat → Int32) → (Nat → Int32) → Int32 → (Nat → Int32) → Prop) (p0 : Int32) (h : ∀ r : Int32, r = (if p0 < 0 then (-1) else (if 300 < p0 then (-1) else (-2))) → ∀ o0 : (Nat → Int32), ∀ o1 : (Nat → Int32), ∀ o2 : (Nat → Int32), ∀ o3 : Int32, ∀ o4 : (Nat → Int32), post r o0 o1 o2 o3 o4) : wp_X9_dusk post p0 (fun _ => 0) 0 (fun _ => 0) (fun _ => 0) (fun _ => 0) (fun _ => 0) (fun _ => 0) (fun _ => 0) (upd (upd (upd (upd (upd (fun _ => 0) (0 : Int32).toNatClampNeg 8) (1 : Int32).toNatClampNeg 3) (2 : Int32).toNatClampNeg 5) (3 : Int32).toNatClampNeg 1) (4 : Int32).toNatClampNeg 6) 0 0 0 0 (-1) 0 0 0 (fun _ => 0) (fun _ => 0) (fun _ => 0) 0 (fun _ => 0) := by
  refine And.intro (fun hc1 => ?_) (fun hc1 => ?_)
  · skip
    exact h _ ((if_pos ((fa_lt p0 0).mpr (by have l_0 : (0 : Int32).toInt = 0 := (by decide); have g_hc1 := (fa_lt p0 0).mp hc1; omega))).symm) _ _ _ _ _
  · skip
    refine And.intro (fun hc2 => ?_) (fun hc2 => ?_)
    · skip
      refine And.intro (fun h9 => absurd rfl h9) (fun _ => ?_)
      exact h _ (((if_neg (fun q0 => absurd ((fa_lt p0 0).mp q0) (by have l_0 : (0 : Int32).toInt = 0 := (by decide); have l_1 : (300 : Int32).toInt = 300 := (by decide); have g_hc1 := mt (fa_lt p0 0).mpr hc1; have g_hc2 := (fa_le p0 300).mp hc2; omega))).trans (if_neg (fun q0 => absurd ((fa_lt 300 p0).mp q0) (by have l_0 : (0 : Int32).toInt = 0 := (by decide); have l_1 : (300 : Int32).toInt = 300 := (by decide); have g_hc1 := mt (fa_lt p0 0).mpr hc1; have g_hc2 := (fa_le p0 300).mp hc2; omega)))).symm) _ _ _ _ _
    · skip
      exact h _ (((if_neg (fun q0 => absurd ((fa_lt p0 0).mp q0) (by have l_0 : (0 : Int32).toInt = 0 := (by decide); have l_1 : (300 : Int32).toInt = 300 := (by decide); have g_hc1 := mt (fa_lt p0 0).mpr hc1; have g_hc2 := mt (fa_le p0 300).mpr hc2; omega))).trans (if_pos ((fa_lt 300 p0).mpr (by have l_0 : (0 : Int32).toInt = 0 := (by decide); have l_1 : (300 : Int32).toInt = 300 := (by decide); have g_hc1 := mt (fa_lt p0 0).mpr hc1; have g_hc2 := mt (fa_le p0 300).mpr hc2; omega)))).symm) _ _ _ _ _
set_option maxHeartbeats 8000000 in
set_option maxRecDepth 200000 in
theorem fx_gentle (post : Int32 → Int32 → (Nat → Int32) → Prop) (h : ∀ r : Int32, r = (-2) → ∀ o0 : Int32, ∀ o1 : (Nat → Int32), post r o0 o1) : wp_X9_gentle post 0 (fun _ => 0) (fun _ => 0) (fun _ => 0) (fun _ => 0) (fun _ => 0) (upd (upd (upd (upd (upd (fun _ => 0) (0 : Int32).toNatClampNeg 8) (1 : Int32).toNatClampNeg 3) (2 : Int32).toNatClampNeg 5) (3 : Int32).toNatClampNeg 1) (4 : Int32).toNatClampNeg 6) 0 0 0 (-1) 0 0 0 (fun _ => 0) := by
  refine And.intro (fun h9 => absurd rfl h9) (fun _ => ?_)
  exact h _ (by decide +kernel) _ _
set_option maxHeartbeats 8000000 in
set_option maxRecDepth 200000 in
theorem fx_harm (post : Int32 → Int32 → (Nat → Int32) → Prop) (h : ∀ r : Int32, r = (-2) → ∀ o0 : Int32, ∀ o1 : (Nat → Int32), post r o0 o1) : wp_X9_harm post 0 (fun _ => 0) (fun _ => 0) (fun _ => 0) (fun _ => 0) (fun _ => 0) (fun _ => 0) (upd (upd (upd (upd (upd (fun _ => 0) (0 : Int32).toNatClampNeg 8) (1 : Int32).toNatClampNeg 3) (2 : Int32).toNatClampNeg 5) (3 : Int32).toNatClampNeg 1) (4 : Int32).toNatClampNeg 6) 0 0 0 0 (-1) 0 0 0 (fun _ => 0) := by
  refine And.intro (fun h9 => absurd rfl h9) (fun _ => ?_)
  exact h _ (by decide +kernel) _ _
set_option maxHeartbeats 8000000 in
set_option maxRecDepth 200000 in
theorem fx_share (post : Int32 → Int32 → (Nat → Int32) → (Nat → Int32) → (Nat → Int32) → (Nat → Int32) → Int32 → (Nat → Int32) → Prop) (p0 : Int32) (h : ∀ r : Int32, r = (if p0 = 0 then 0 else (-1)) → ∀ o0 : Int32, ∀ o1 : (Nat → Int32), ∀ o2 : (Nat → Int32), ∀ o3 : (Nat → Int32), ∀ o4 : (Nat → Int32), ∀ o5 : Int32, ∀ o6 : (Nat → Int32), post r o0 o1 o2 o3 o4 o5 o6) : wp_X9_share post p0 0 (fun _ => 0) (fun _ => 0) 0 0 (fun _ => 0) (fun _ => 0) (fun _ => 0) (fun _ => 0) (fun _ => 0) (fun _ => 0) (upd (upd (upd (upd (upd (fun _ => 0) (0 : Int32).toNatClampNeg 8) (1 : Int32).toNatClampNeg 3) (2 : Int32).toNatClampNeg 5) (3 : Int32).toNatClampNeg 1) (4 : Int32).toNatClampNeg 6) 0 0 0 0 0 0 0 (fun _ => 0) (fun _ => 0) (fun _ => 0) 0 (fun _ => 0) := by
  intro v1 ev1; obtain rfl : v1 = 1 := ev1.trans (by decide +kernel)
  refine And.intro (fun hc2 => ?_) (fun hc2 => ?_)
  · skip
    have hc3 : ¬ p0 = 0 := fun q0 => hc2 ((g_and1 p0).trans q0)
    refine And.intro (fun h9 => absurd rfl h9) (fun _ => ?_)
    exact h _ ((if_neg (fun q0 => absurd ((fa_eq p0 0).mp q0) (by have l_0 : (0 : Int32).toInt = 0 := (by decide); have g_hc3 := mt (fa_eq p0 0).mpr hc3; omega))).symm) _ _ _ _ _ _ _
  · skip
    have hc4 : p0 = 0 := (g_and1 p0).symm.trans hc2
    obtain rfl : p0 = 0 := (fa_eq _ _).mpr (by have l_0 : (0 : Int32).toInt = 0 := (by decide); have g_hc4 := (fa_eq p0 0).mp hc4; omega)
    refine And.intro (fun _ => ?_) (fun h9 => absurd h9 (by decide +kernel))
    intro v5 ev5; obtain rfl : v5 = 8 := ev5.trans (by decide +kernel)
    intro v6 ev6; obtain rfl : v6 = 8 := ev6.trans (by decide +kernel)
    refine Exists.intro 40 ?_
    refine br_t (by decide +kernel) ?_
    intro v7 ev7; obtain rfl : v7 = 1 := ev7.trans (by decide +kernel)
    intro v8 ev8; obtain rfl : v8 = 0 := ev8.trans (by decide +kernel)
    intro v9 ev9; obtain rfl : v9 = 0 := ev9.trans (by decide +kernel)
    refine Exists.intro 40 ?_
    refine br_t (by decide +kernel) ?_
    intro v10 ev10; obtain rfl : v10 = 0 := ev10.trans (by decide +kernel)
    intro v11 ev11; obtain rfl : v11 = 1 := ev11.trans (by decide +kernel)
    refine Exists.intro 40 ?_
    refine br_t (by decide +kernel) ?_
    intro v12 ev12; obtain rfl : v12 = 0 := ev12.trans (by decide +kernel)
    refine Exists.intro 40 ?_
    refine br_t (by decide +kernel) ?_
    refine Exists.intro 40 ?_
    refine br_t (by decide +kernel) ?_
    refine Exists.intro 40 ?_
    refine br_t (by decide +kernel) ?_
    refine Exists.intro 40 ?_
    refine br_t (by decide +kernel) ?_
    intro v13 ev13; obtain rfl : v13 = 0 := ev13.trans (by decide +kernel)
    refine br_f (by decide +kernel) ?_
    refine And.intro (g_in (by decide +kernel)) ?_
    intro v14 ev14; obtain rfl : v14 = 1 := ev14.trans (by decide +kernel)
    refine br_f (by decide +kernel) ?_
    refine And.intro (g_in (by decide +kernel)) ?_
    intro v15 ev15; obtain rfl : v15 = 2 := ev15.trans (by decide +kernel)
    exact h _ ((if_pos (by decide +kernel)).symm) _ _ _ _ _ _ _
set_option maxHeartbeats 8000000 in
set_option maxRecDepth 200000 in
theorem fx_ripens (post : Int32 → Int32 → (Nat → Int32) → Int32 → (Nat → Int32) → Prop) (h : ∀ r : Int32, r = 0 → ∀ o0 : Int32, ∀ o1 : (Nat → Int32), ∀ o2 : Int32, ∀ o3 : (Nat → Int32), post r o0 o1 o2 o3) : wp_X9_ripens post 0 (fun _ => 0) 0 0 (fun _ => 0) (fun _ => 0) (fun _ => 0) (fun _ => 0) (fun _ => 0) (upd (upd (upd (upd (upd (fun _ => 0) (0 : Int32).toNatClampNeg 8) (1 : Int32).toNatClampNeg 3) (2 : Int32).toNatClampNeg 5) (3 : Int32).toNatClampNeg 1) (4 : Int32).toNatClampNeg 6) 0 0 0 0 0 0 (fun _ => 0) := by
  refine Exists.intro 40 ?_
  refine br_f (by decide +kernel) ?_
  intro v1 ev1; obtain rfl : v1 = 1 := ev1.trans (by decide +kernel)
  intro v2 ev2; obtain rfl : v2 = 0 := ev2.trans (by decide +kernel)
  intro v3 ev3; obtain rfl : v3 = 0 := ev3.trans (by decide +kernel)
  refine Exists.intro 40 ?_
  refine br_t (by decide +kernel) ?_
  intro v4 ev4; obtain rfl : v4 = 0 := ev4.trans (by decide +kernel)
  refine br_t (by decide +kernel) ?_
  intro v5 ev5; obtain rfl : v5 = 0 := ev5.trans (by decide +kernel)
  intro v6 ev6; obtain rfl : v6 = 0 := ev6.trans (by decide +kernel)
  intro v7 ev7; obtain rfl : v7 = 0 := ev7.trans (by decide +kernel)
  intro v8 ev8; obtain rfl : v8 = 0 := ev8.trans (by decide +kernel)
  intro v9 ev9; obtain rfl : v9 = 0 := ev9.trans (by decide +kernel)
  intro v10 ev10; obtain rfl : v10 = 0 := ev10.trans (by decide +kernel)
  intro v11 ev11; obtain rfl : v11 = 0 := ev11.trans (by decide +kernel)
  intro v12 ev12; obtain rfl : v12 = 0 := ev12.trans (by decide +kernel)
  intro v13 ev13; obtain rfl : v13 = 0 := ev13.trans (by decide +kernel)
  refine br_t (by decide +kernel) ?_
  intro v14 ev14; obtain rfl : v14 = 1 := ev14.trans (by decide +kernel)
  refine br_f (by decide +kernel) ?_
  intro v15 ev15; obtain rfl : v15 = 1 := ev15.trans (by decide +kernel)
  intro v16 ev16; obtain rfl : v16 = 0 := ev16.trans (by decide +kernel)
  intro v17 ev17; obtain rfl : v17 = 0 := ev17.trans (by decide +kernel)
  refine Exists.intro 40 ?_
  refine br_t (by decide +kernel) ?_
  intro v18 ev18; obtain rfl : v18 = 0 := ev18.trans (by decide +kernel)
  refine br_f (by decide +kernel) ?_
  intro v19 ev19; obtain rfl : v19 = 0 := ev19.trans (by decide +kernel)
  refine Exists.intro 40 ?_
  refine br_t (by decide +kernel) ?_
  intro v20 ev20; obtain rfl : v20 = 0 := ev20.trans (by decide +kernel)
  intro v21 ev21; obtain rfl : v21 = 0 := ev21.trans (by decide +kernel)
  intro v22 ev22; obtain rfl : v22 = 0 := ev22.trans (by decide +kernel)
  intro v23 ev23; obtain rfl : v23 = 0 := ev23.trans (by decide +kernel)
  intro v24 ev24; obtain rfl : v24 = 0 := ev24.trans (by decide +kernel)
  intro v25 ev25; obtain rfl : v25 = 0 := ev25.trans (by decide +kernel)
  intro v26 ev26; obtain rfl : v26 = 0 := ev26.trans (by decide +kernel)
  intro v27 ev27; obtain rfl : v27 = 0 := ev27.trans (by decide +kernel)
  intro v28 ev28; obtain rfl : v28 = 0 := ev28.trans (by decide +kernel)
  intro v29 ev29; obtain rfl : v29 = 0 := ev29.trans (by decide +kernel)
  refine br_t (by decide +kernel) ?_
  intro v30 ev30; obtain rfl : v30 = 2 := ev30.trans (by decide +kernel)
  refine br_f (by decide +kernel) ?_
  intro v31 ev31; obtain rfl : v31 = 1 := ev31.trans (by decide +kernel)
  intro v32 ev32; obtain rfl : v32 = 0 := ev32.trans (by decide +kernel)
  intro v33 ev33; obtain rfl : v33 = 0 := ev33.trans (by decide +kernel)
  refine Exists.intro 40 ?_
  refine br_t (by decide +kernel) ?_
  intro v34 ev34; obtain rfl : v34 = 0 := ev34.trans (by decide +kernel)
  refine br_f (by decide +kernel) ?_
  intro v35 ev35; obtain rfl : v35 = 1 := ev35.trans (by decide +kernel)
  refine Exists.intro 40 ?_
  refine br_t (by decide +kernel) ?_
  intro v36 ev36; obtain rfl : v36 = 0 := ev36.trans (by decide +kernel)
  intro v37 ev37; obtain rfl : v37 = 0 := ev37.trans (by decide +kernel)
  intro v38 ev38; obtain rfl : v38 = 0 := ev38.trans (by decide +kernel)
  intro v39 ev39; obtain rfl : v39 = 0 := ev39.trans (by decide +kernel)
  intro v40 ev40; obtain rfl : v40 = 0 := ev40.trans (by decide +kernel)
  intro v41 ev41; obtain rfl : v41 = 0 := ev41.trans (by decide +kernel)
  intro v42 ev42; obtain rfl : v42 = 0 := ev42.trans (by decide +kernel)
  intro v43 ev43; obtain rfl : v43 = 0 := ev43.trans (by decide +kernel)
  intro v44 ev44; obtain rfl : v44 = 0 := ev44.trans (by decide +kernel)
  intro v45 ev45; obtain rfl : v45 = 0 := ev45.trans (by decide +kernel)
  refine br_t (by decide +kernel) ?_
  intro v46 ev46; obtain rfl : v46 = 3 := ev46.trans (by decide +kernel)
  refine br_f (by decide +kernel) ?_
  intro v47 ev47; obtain rfl : v47 = 1 := ev47.trans (by decide +kernel)
  intro v48 ev48; obtain rfl : v48 = 0 := ev48.trans (by decide +kernel)
  intro v49 ev49; obtain rfl : v49 = 0 := ev49.trans (by decide +kernel)
  refine Exists.intro 40 ?_
  refine br_t (by decide +kernel) ?_
  intro v50 ev50; obtain rfl : v50 = 0 := ev50.trans (by decide +kernel)
  refine br_f (by decide +kernel) ?_
  intro v51 ev51; obtain rfl : v51 = 2 := ev51.trans (by decide +kernel)
  refine Exists.intro 40 ?_
  refine br_t (by decide +kernel) ?_
  intro v52 ev52; obtain rfl : v52 = 0 := ev52.trans (by decide +kernel)
  intro v53 ev53; obtain rfl : v53 = 0 := ev53.trans (by decide +kernel)
  intro v54 ev54; obtain rfl : v54 = 0 := ev54.trans (by decide +kernel)
  intro v55 ev55; obtain rfl : v55 = 0 := ev55.trans (by decide +kernel)
  intro v56 ev56; obtain rfl : v56 = 0 := ev56.trans (by decide +kernel)
  intro v57 ev57; obtain rfl : v57 = 0 := ev57.trans (by decide +kernel)
  intro v58 ev58; obtain rfl : v58 = 0 := ev58.trans (by decide +kernel)
  intro v59 ev59; obtain rfl : v59 = 0 := ev59.trans (by decide +kernel)
  intro v60 ev60; obtain rfl : v60 = 0 := ev60.trans (by decide +kernel)
  intro v61 ev61; obtain rfl : v61 = 0 := ev61.trans (by decide +kernel)
  refine br_t (by decide +kernel) ?_
  intro v62 ev62; obtain rfl : v62 = 4 := ev62.trans (by decide +kernel)
  refine br_f (by decide +kernel) ?_
  intro v63 ev63; obtain rfl : v63 = 1 := ev63.trans (by decide +kernel)
  intro v64 ev64; obtain rfl : v64 = 0 := ev64.trans (by decide +kernel)
  intro v65 ev65; obtain rfl : v65 = 0 := ev65.trans (by decide +kernel)
  refine Exists.intro 40 ?_
  refine br_t (by decide +kernel) ?_
  intro v66 ev66; obtain rfl : v66 = 0 := ev66.trans (by decide +kernel)
  refine br_f (by decide +kernel) ?_
  intro v67 ev67; obtain rfl : v67 = 3 := ev67.trans (by decide +kernel)
  refine Exists.intro 40 ?_
  refine br_t (by decide +kernel) ?_
  intro v68 ev68; obtain rfl : v68 = 0 := ev68.trans (by decide +kernel)
  intro v69 ev69; obtain rfl : v69 = 0 := ev69.trans (by decide +kernel)
  intro v70 ev70; obtain rfl : v70 = 0 := ev70.trans (by decide +kernel)
  intro v71 ev71; obtain rfl : v71 = 0 := ev71.trans (by decide +kernel)
  intro v72 ev72; obtain rfl : v72 = 0 := ev72.trans (by decide +kernel)
  intro v73 ev73; obtain rfl : v73 = 0 := ev73.trans (by decide +kernel)
  intro v74 ev74; obtain rfl : v74 = 0 := ev74.trans (by decide +kernel)
  intro v75 ev75; obtain rfl : v75 = 0 := ev75.trans (by decide +kernel)
  intro v76 ev76; obtain rfl : v76 = 0 := ev76.trans (by decide +kernel)
  intro v77 ev77; obtain rfl : v77 = 0 := ev77.trans (by decide +kernel)
  refine br_t (by decide +kernel) ?_
  intro v78 ev78; obtain rfl : v78 = 5 := ev78.trans (by decide +kernel)
  refine br_f (by decide +kernel) ?_
  intro v79 ev79; obtain rfl : v79 = 1 := ev79.trans (by decide +kernel)
  intro v80 ev80; obtain rfl : v80 = 0 := ev80.trans (by decide +kernel)
  intro v81 ev81; obtain rfl : v81 = 0 := ev81.trans (by decide +kernel)
  refine Exists.intro 40 ?_
  refine br_t (by decide +kernel) ?_
  intro v82 ev82; obtain rfl : v82 = 0 := ev82.trans (by decide +kernel)
  refine br_f (by decide +kernel) ?_
  intro v83 ev83; obtain rfl : v83 = 4 := ev83.trans (by decide +kernel)
  refine Exists.intro 40 ?_
  refine br_t (by decide +kernel) ?_
  intro v84 ev84; obtain rfl : v84 = 0 := ev84.trans (by decide +kernel)
  intro v85 ev85; obtain rfl : v85 = 0 := ev85.trans (by decide +kernel)
  intro v86 ev86; obtain rfl : v86 = 0 := ev86.trans (by decide +kernel)
  intro v87 ev87; obtain rfl : v87 = 0 := ev87.trans (by decide +kernel)
  intro v88 ev88; obtain rfl : v88 = 0 := ev88.trans (by decide +kernel)
  intro v89 ev89; obtain rfl : v89 = 0 := ev89.trans (by decide +kernel)
  intro v90 ev90; obtain rfl : v90 = 0 := ev90.trans (by decide +kernel)
  intro v91 ev91; obtain rfl : v91 = 0 := ev91.trans (by decide +kernel)
  intro v92 ev92; obtain rfl : v92 = 0 := ev92.trans (by decide +kernel)
  intro v93 ev93; obtain rfl : v93 = 0 := ev93.trans (by decide +kernel)
  refine br_t (by decide +kernel) ?_
  intro v94 ev94; obtain rfl : v94 = 6 := ev94.trans (by decide +kernel)
  refine br_f (by decide +kernel) ?_
  intro v95 ev95; obtain rfl : v95 = 1 := ev95.trans (by decide +kernel)
  intro v96 ev96; obtain rfl : v96 = 0 := ev96.trans (by decide +kernel)
  intro v97 ev97; obtain rfl : v97 = 0 := ev97.trans (by decide +kernel)
  refine Exists.intro 40 ?_
  refine br_t (by decide +kernel) ?_
  intro v98 ev98; obtain rfl : v98 = 0 := ev98.trans (by decide +kernel)
  refine br_f (by decide +kernel) ?_
  intro v99 ev99; obtain rfl : v99 = 5 := ev99.trans (by decide +kernel)
  refine Exists.intro 40 ?_
  refine br_t (by decide +kernel) ?_
  intro v100 ev100; obtain rfl : v100 = 0 := ev100.trans (by decide +kernel)
  intro v101 ev101; obtain rfl : v101 = 0 := ev101.trans (by decide +kernel)
  intro v102 ev102; obtain rfl : v102 = 0 := ev102.trans (by decide +kernel)
  intro v103 ev103; obtain rfl : v103 = 0 := ev103.trans (by decide +kernel)
  intro v104 ev104; obtain rfl : v104 = 0 := ev104.trans (by decide +kernel)
  intro v105 ev105; obtain rfl : v105 = 0 := ev105.trans (by decide +kernel)
  intro v106 ev106; obtain rfl : v106 = 0 := ev106.trans (by decide +kernel)
  intro v107 ev107; obtain rfl : v107 = 0 := ev107.trans (by decide +kernel)
  intro v108 ev108; obtain rfl : v108 = 0 := ev108.trans (by decide +kernel)
  intro v109 ev109; obtain rfl : v109 = 0 := ev109.trans (by decide +kernel)
  refine br_t (by decide +kernel) ?_
  intro v110 ev110; obtain rfl : v110 = 7 := ev110.trans (by decide +kernel)
  refine br_f (by decide +kernel) ?_
  intro v111 ev111; obtain rfl : v111 = 1 := ev111.trans (by decide +kernel)
  intro v112 ev112; obtain rfl : v112 = 0 := ev112.trans (by decide +kernel)
  intro v113 ev113; obtain rfl : v113 = 0 := ev113.trans (by decide +kernel)
  refine Exists.intro 40 ?_
  refine br_t (by decide +kernel) ?_
  intro v114 ev114; obtain rfl : v114 = 0 := ev114.trans (by decide +kernel)
  refine br_f (by decide +kernel) ?_
  intro v115 ev115; obtain rfl : v115 = 6 := ev115.trans (by decide +kernel)
  refine Exists.intro 40 ?_
  refine br_t (by decide +kernel) ?_
  intro v116 ev116; obtain rfl : v116 = 0 := ev116.trans (by decide +kernel)
  intro v117 ev117; obtain rfl : v117 = 0 := ev117.trans (by decide +kernel)
  intro v118 ev118; obtain rfl : v118 = 0 := ev118.trans (by decide +kernel)
  intro v119 ev119; obtain rfl : v119 = 0 := ev119.trans (by decide +kernel)
  intro v120 ev120; obtain rfl : v120 = 0 := ev120.trans (by decide +kernel)
  intro v121 ev121; obtain rfl : v121 = 0 := ev121.trans (by decide +kernel)
  intro v122 ev122; obtain rfl : v122 = 0 := ev122.trans (by decide +kernel)
  intro v123 ev123; obtain rfl : v123 = 0 := ev123.trans (by decide +kernel)
  intro v124 ev124; obtain rfl : v124 = 0 := ev124.trans (by decide +kernel)
  intro v125 ev125; obtain rfl : v125 = 0 := ev125.trans (by decide +kernel)
  refine br_t (by decide +kernel) ?_
  intro v126 ev126; obtain rfl : v126 = 8 := ev126.trans (by decide +kernel)
  refine br_f (by decide +kernel) ?_
  intro v127 ev127; obtain rfl : v127 = 1 := ev127.trans (by decide +kernel)
  intro v128 ev128; obtain rfl : v128 = 0 := ev128.trans (by decide +kernel)
  intro v129 ev129; obtain rfl : v129 = 0 := ev129.trans (by decide +kernel)
  refine Exists.intro 40 ?_
  refine br_t (by decide +kernel) ?_
  intro v130 ev130; obtain rfl : v130 = 0 := ev130.trans (by decide +kernel)
  refine br_f (by decide +kernel) ?_
  intro v131 ev131; obtain rfl : v131 = 7 := ev131.trans (by decide +kernel)
  refine Exists.intro 40 ?_
  refine br_t (by decide +kernel) ?_
  intro v132 ev132; obtain rfl : v132 = 0 := ev132.trans (by decide +kernel)
  intro v133 ev133; obtain rfl : v133 = 0 := ev133.trans (by decide +kernel)
  intro v134 ev134; obtain rfl : v134 = 0 := ev134.trans (by decide +kernel)
  intro v135 ev135; obtain rfl : v135 = 0 := ev135.trans (by decide +kernel)
  intro v136 ev136; obtain rfl : v136 = 0 := ev136.trans (by decide +kernel)
  intro v137 ev137; obtain rfl : v137 = 0 := ev137.trans (by decide +kernel)
  intro v138 ev138; obtain rfl : v138 = 0 := ev138.trans (by decide +kernel)
  intro v139 ev139; obtain rfl : v139 = 0 := ev139.trans (by decide +kernel)
  intro v140 ev140; obtain rfl : v140 = 0 := ev140.trans (by decide +kernel)
  intro v141 ev141; obtain rfl : v141 = 0 := ev141.trans (by decide +kernel)
  refine br_t (by decide +kernel) ?_
  intro v142 ev142; obtain rfl : v142 = 9 := ev142.trans (by decide +kernel)
  refine br_f (by decide +kernel) ?_
  intro v143 ev143; obtain rfl : v143 = 1 := ev143.trans (by decide +kernel)
  intro v144 ev144; obtain rfl : v144 = 0 := ev144.trans (by decide +kernel)
  intro v145 ev145; obtain rfl : v145 = 0 := ev145.trans (by decide +kernel)
  refine Exists.intro 40 ?_
  refine br_t (by decide +kernel) ?_
  intro v146 ev146; obtain rfl : v146 = 0 := ev146.trans (by decide +kernel)
  refine br_f (by decide +kernel) ?_
  intro v147 ev147; obtain rfl : v147 = 8 := ev147.trans (by decide +kernel)
  refine Exists.intro 40 ?_
  refine br_t (by decide +kernel) ?_
  intro v148 ev148; obtain rfl : v148 = 0 := ev148.trans (by decide +kernel)
  intro v149 ev149; obtain rfl : v149 = 0 := ev149.trans (by decide +kernel)
  intro v150 ev150; obtain rfl : v150 = 0 := ev150.trans (by decide +kernel)
  intro v151 ev151; obtain rfl : v151 = 0 := ev151.trans (by decide +kernel)
  intro v152 ev152; obtain rfl : v152 = 0 := ev152.trans (by decide +kernel)
  intro v153 ev153; obtain rfl : v153 = 0 := ev153.trans (by decide +kernel)
  intro v154 ev154; obtain rfl : v154 = 0 := ev154.trans (by decide +kernel)
  intro v155 ev155; obtain rfl : v155 = 0 := ev155.trans (by decide +kernel)
  intro v156 ev156; obtain rfl : v156 = 0 := ev156.trans (by decide +kernel)
  intro v157 ev157; obtain rfl : v157 = 0 := ev157.trans (by decide +kernel)
  refine br_t (by decide +kernel) ?_
  intro v158 ev158; obtain rfl : v158 = 10 := ev158.trans (by decide +kernel)
  refine br_t (by decide +kernel) ?_
  intro v159 ev159; obtain rfl : v159 = 8 := ev159.trans (by decide +kernel)
  intro v160 ev160; obtain rfl : v160 = 8 := ev160.trans (by decide +kernel)
  refine Exists.intro 40 ?_
  refine br_t (by decide +kernel) ?_
  intro v161 ev161; obtain rfl : v161 = 1 := ev161.trans (by decide +kernel)
  intro v162 ev162; obtain rfl : v162 = 0 := ev162.trans (by decide +kernel)
  intro v163 ev163; obtain rfl : v163 = 0 := ev163.trans (by decide +kernel)
  refine Exists.intro 40 ?_
  refine br_t (by decide +kernel) ?_
  intro v164 ev164; obtain rfl : v164 = 0 := ev164.trans (by decide +kernel)
  intro v165 ev165; obtain rfl : v165 = 1 := ev165.trans (by decide +kernel)
  refine Exists.intro 40 ?_
  refine br_t (by decide +kernel) ?_
  intro v166 ev166; obtain rfl : v166 = 0 := ev166.trans (by decide +kernel)
  intro v167 ev167; obtain rfl : v167 = 1 := ev167.trans (by decide +kernel)
  refine Exists.intro 40 ?_
  refine br_t (by decide +kernel) ?_
  intro v168 ev168; obtain rfl : v168 = 0 := ev168.trans (by decide +kernel)
  intro v169 ev169; obtain rfl : v169 = 0 := ev169.trans (by decide +kernel)
  intro v170 ev170; obtain rfl : v170 = 0 := ev170.trans (by decide +kernel)
  intro v171 ev171; obtain rfl : v171 = 0 := ev171.trans (by decide +kernel)
  intro v172 ev172; obtain rfl : v172 = 0 := ev172.trans (by decide +kernel)
  intro v173 ev173; obtain rfl : v173 = 0 := ev173.trans (by decide +kernel)
  intro v174 ev174; obtain rfl : v174 = 0 := ev174.trans (by decide +kernel)
  intro v175 ev175; obtain rfl : v175 = 0 := ev175.trans (by decide +kernel)
  intro v176 ev176; obtain rfl : v176 = 0 := ev176.trans (by decide +kernel)
  refine br_f (by decide +kernel) ?_
  refine And.intro (g_in (by decide +kernel)) ?_
  intro v177 ev177; obtain rfl : v177 = 1 := ev177.trans (by decide +kernel)
  refine br_f (by decide +kernel) ?_
  refine And.intro (g_in (by decide +kernel)) ?_
  intro v178 ev178; obtain rfl : v178 = 2 := ev178.trans (by decide +kernel)
  exact h _ (by decide +kernel) _ _ _ _
set_option maxHeartbeats 8000000 in
set_option maxRecDepth 200000 in
theorem fx_ondays (post : Int32 → Int32 → (Nat → Int32) → Int32 → (Nat → Int32) → Prop) (p0 : Int32) (h : ∀ r : Int32, r = (if p0 < 0 then (-1) else (if 9 < p0 then (-1) else 0)) → ∀ o0 : Int32, ∀ o1 : (Nat → Int32), ∀ o2 : Int32, ∀ o3 : (Nat → Int32), post r o0 o1 o2 o3) : wp_X9_ondays post p0 0 (fun _ => 0) 0 0 (fun _ => 0) (fun _ => 0) (fun _ => 0) (fun _ => 0) (fun _ => 0) (upd (upd (upd (upd (upd (fun _ => 0) (0 : Int32).toNatClampNeg 8) (1 : Int32).toNatClampNeg 3) (2 : Int32).toNatClampNeg 5) (3 : Int32).toNatClampNeg 1) (4 : Int32).toNatClampNeg 6) 0 0 0 0 0 0 (fun _ => 0) := by
  refine And.intro (fun hc1 => ?_) (fun hc1 => ?_)
  · skip
    exact h _ ((if_pos ((fa_lt p0 0).mpr (by have l_0 : (0 : Int32).toInt = 0 := (by decide); have g_hc1 := (fa_lt p0 0).mp hc1; omega))).symm) _ _ _ _
  · skip
    refine And.intro (fun hc2 => ?_) (fun hc2 => ?_)
    · skip
      intro v3 ev3; obtain rfl : v3 = 8 := ev3.trans (by decide +kernel)
      intro v4 ev4; obtain rfl : v4 = 8 := ev4.trans (by decide +kernel)
      refine Exists.intro 40 ?_
      refine br_t (by decide +kernel) ?_
      intro v5 ev5; obtain rfl : v5 = 1 := ev5.trans (by decide +kernel)
      intro v6 ev6; obtain rfl : v6 = 0 := ev6.trans (by decide +kernel)
      intro v7 ev7; obtain rfl : v7 = 0 := ev7.trans (by decide +kernel)
      refine Exists.intro 40 ?_
      refine br_t (by decide +kernel) ?_
      intro v8 ev8; obtain rfl : v8 = 0 := ev8.trans (by decide +kernel)
      intro v9 ev9; obtain rfl : v9 = 1 := ev9.trans (by decide +kernel)
      refine Exists.intro 40 ?_
      refine br_t (by decide +kernel) ?_
      intro v10 ev10; obtain rfl : v10 = 0 := ev10.trans (by decide +kernel)
      intro v11 ev11; obtain rfl : v11 = 1 := ev11.trans (by decide +kernel)
      intro v12 ev12; obtain rfl : v12 = 0 := ev12.trans (by decide +kernel)
      intro v13 ev13; obtain rfl : v13 = 0 := ev13.trans (by decide +kernel)
      refine Exists.intro 40 ?_
      refine br_t (by decide +kernel) ?_
      intro v14 ev14; obtain rfl : v14 = 0 := ev14.trans (by decide +kernel)
      refine And.intro (fun hc15 => ?_) (fun hc15 => ?_)
      · skip
        obtain rfl : p0 = 0 := (fa_eq _ _).mpr (by have l_0 : (0 : Int32).toInt = 0 := (by decide); have l_1 : (9 : Int32).toInt = 9 := (by decide); have g_hc1 := mt (fa_lt p0 0).mpr hc1; have g_hc2 := (fa_le p0 9).mp hc2; have g_hc15 := (fa_le p0 0).mp hc15; omega)
        intro v16 ev16; obtain rfl : v16 = 1 := ev16.trans (by decide +kernel)
        refine Exists.intro 40 ?_
        refine br_t (by decide +kernel) ?_
        intro v17 ev17; obtain rfl : v17 = 0 := ev17.trans (by decide +kernel)
        intro v18 ev18; obtain rfl : v18 = 1 := ev18.trans (by decide +kernel)
        refine Exists.intro 40 ?_
        refine br_t (by decide +kernel) ?_
        refine Exists.intro 40 ?_
        refine br_f (by decide +kernel) ?_
        intro v19 ev19; obtain rfl : v19 = 0 := ev19.trans (by decide +kernel)
        refine br_t (by decide +kernel) ?_
        intro v20 ev20; obtain rfl : v20 = 1 := ev20.trans (by decide +kernel)
        refine br_f (by decide +kernel) ?_
        intro v21 ev21; obtain rfl : v21 = 0 := ev21.trans (by decide +kernel)
        refine br_t (by decide +kernel) ?_
        intro v22 ev22; obtain rfl : v22 = 2 := ev22.trans (by decide +kernel)
        refine br_f (by decide +kernel) ?_
        intro v23 ev23; obtain rfl : v23 = 0 := ev23.trans (by decide +kernel)
        refine br_t (by decide +kernel) ?_
        intro v24 ev24; obtain rfl : v24 = 3 := ev24.trans (by decide +kernel)
        refine br_f (by decide +kernel) ?_
        intro v25 ev25; obtain rfl : v25 = 0 := ev25.trans (by decide +kernel)
        refine br_t (by decide +kernel) ?_
        intro v26 ev26; obtain rfl : v26 = 4 := ev26.trans (by decide +kernel)
        refine br_f (by decide +kernel) ?_
        intro v27 ev27; obtain rfl : v27 = 0 := ev27.trans (by decide +kernel)
        refine br_t (by decide +kernel) ?_
        intro v28 ev28; obtain rfl : v28 = 5 := ev28.trans (by decide +kernel)
        refine br_f (by decide +kernel) ?_
        intro v29 ev29; obtain rfl : v29 = 0 := ev29.trans (by decide +kernel)
        refine br_t (by decide +kernel) ?_
        intro v30 ev30; obtain rfl : v30 = 6 := ev30.trans (by decide +kernel)
        refine br_f (by decide +kernel) ?_
        intro v31 ev31; obtain rfl : v31 = 0 := ev31.trans (by decide +kernel)
        refine br_t (by decide +kernel) ?_
        intro v32 ev32; obtain rfl : v32 = 7 := ev32.trans (by decide +kernel)
        refine br_f (by decide +kernel) ?_
        intro v33 ev33; obtain rfl : v33 = 0 := ev33.trans (by decide +kernel)
        refine br_t (by decide +kernel) ?_
        intro v34 ev34; obtain rfl : v34 = 8 := ev34.trans (by decide +kernel)
        refine br_t (by decide +kernel) ?_
        exact h _ (((if_neg (by decide +kernel)).trans (if_neg (by decide +kernel))).symm) _ _ _ _
      · skip
        intro v35 ev35; subst ev35
        refine Exists.intro 40 ?_
        refine br_t (by decide +kernel) ?_
        intro v36 ev36; obtain rfl : v36 = 0 := ev36.trans (by decide +kernel)
        intro v37 ev37; obtain rfl : v37 = 1 := ev37.trans (by decide +kernel)
        refine Exists.intro 40 ?_
        refine br_t (by decide +kernel) ?_
        intro v38 ev38; obtain rfl : v38 = 0 := ev38.trans (by decide +kernel)
        intro v39 ev39; obtain rfl : v39 = 1 := ev39.trans (by decide +kernel)
        refine Exists.intro 40 ?_
        refine br_t (by decide +kernel) ?_
        refine Exists.intro 40 ?_
        refine br_f (by decide +kernel) ?_
        intro v40 ev40; obtain rfl : v40 = 0 := ev40.trans (by decide +kernel)
        refine br_t (by decide +kernel) ?_
        intro v41 ev41; obtain rfl : v41 = 1 := ev41.trans (by decide +kernel)
        refine br_f (by decide +kernel) ?_
        intro v42 ev42; obtain rfl : v42 = 0 := ev42.trans (by decide +kernel)
        refine br_t (by decide +kernel) ?_
        intro v43 ev43; obtain rfl : v43 = 2 := ev43.trans (by decide +kernel)
        refine br_f (by decide +kernel) ?_
        intro v44 ev44; obtain rfl : v44 = 0 := ev44.trans (by decide +kernel)
        refine br_t (by decide +kernel) ?_
        intro v45 ev45; obtain rfl : v45 = 3 := ev45.trans (by decide +kernel)
        refine br_f (by decide +kernel) ?_
        intro v46 ev46; obtain rfl : v46 = 0 := ev46.trans (by decide +kernel)
        refine br_t (by decide +kernel) ?_
        intro v47 ev47; obtain rfl : v47 = 4 := ev47.trans (by decide +kernel)
        refine br_f (by decide +kernel) ?_
        intro v48 ev48; obtain rfl : v48 = 0 := ev48.trans (by decide +kernel)
        refine br_t (by decide +kernel) ?_
        intro v49 ev49; obtain rfl : v49 = 5 := ev49.trans (by decide +kernel)
        refine br_f (by decide +kernel) ?_
        intro v50 ev50; obtain rfl : v50 = 0 := ev50.trans (by decide +kernel)
        refine br_t (by decide +kernel) ?_
        intro v51 ev51; obtain rfl : v51 = 6 := ev51.trans (by decide +kernel)
        refine br_f (by decide +kernel) ?_
        intro v52 ev52; obtain rfl : v52 = 0 := ev52.trans (by decide +kernel)
        refine br_t (by decide +kernel) ?_
        intro v53 ev53; obtain rfl : v53 = 7 := ev53.trans (by decide +kernel)
        refine br_f (by decide +kernel) ?_
        intro v54 ev54; obtain rfl : v54 = 0 := ev54.trans (by decide +kernel)
        refine br_t (by decide +kernel) ?_
        intro v55 ev55; obtain rfl : v55 = 8 := ev55.trans (by decide +kernel)
        refine br_t (by decide +kernel) ?_
        exact h _ (((if_neg (fun q0 => absurd ((fa_lt p0 0).mp q0) (by have l_0 : (0 : Int32).toInt = 0 := (by decide); have l_1 : (9 : Int32).toInt = 9 := (by decide); have g_hc1 := mt (fa_lt p0 0).mpr hc1; have g_hc2 := (fa_le p0 9).mp hc2; have g_hc15 := mt (fa_le p0 0).mpr hc15; omega))).trans (if_neg (fun q0 => absurd ((fa_lt 9 p0).mp q0) (by have l_0 : (0 : Int32).toInt = 0 := (by decide); have l_1 : (9 : Int32).toInt = 9 := (by decide); have g_hc1 := mt (fa_lt p0 0).mpr hc1; have g_hc2 := (fa_le p0 9).mp hc2; have g_hc15 := mt (fa_le p0 0).mpr hc15; omega)))).symm) _ _ _ _
    · skip
      exact h _ (((if_neg (fun q0 => absurd ((fa_lt p0 0).mp q0) (by have l_0 : (0 : Int32).toInt = 0 := (by decide); have l_1 : (9 : Int32).toInt = 9 := (by decide); have g_hc1 := mt (fa_lt p0 0).mpr hc1; have g_hc2 := mt (fa_le p0 9).mpr hc2; omega))).trans (if_pos ((fa_lt 9 p0).mpr (by have l_0 : (0 : Int32).toInt = 0 := (by decide); have l_1 : (9 : Int32).toInt = 9 := (by decide); have g_hc1 := mt (fa_lt p0 0).mpr hc1; have g_hc2 := mt (fa_le p0 9).mpr hc2; omega)))).symm) _ _ _ _
set_option maxHeartbeats 8000000 in
set_option maxRecDepth 200000 in
theorem fx_allripe (post : Int32 → Int32 → (Nat → Int32) → Prop) (h : ∀ r : Int32, r = 0 → ∀ o0 : Int32, ∀ o1 : (Nat → Int32), post r o0 o1) : wp_X9_allripe post 0 (fun _ => 0) (fun _ => 0) 0 0 0 0 0 0 (fun _ => 0) := by
  intro v1 ev1; obtain rfl : v1 = 1 := ev1.trans (by decide +kernel)
  intro v2 ev2; obtain rfl : v2 = 0 := ev2.trans (by decide +kernel)
  intro v3 ev3; obtain rfl : v3 = 0 := ev3.trans (by decide +kernel)
  refine Exists.intro 40 ?_
  refine br_t (by decide +kernel) ?_
  intro v4 ev4; obtain rfl : v4 = 0 := ev4.trans (by decide +kernel)
  refine Exists.intro 40 ?_
  refine br_f (by decide +kernel) ?_
  refine Exists.intro 40 ?_
  refine br_t (by decide +kernel) ?_
  refine br_t (by decide +kernel) ?_
  intro v5 ev5; obtain rfl : v5 = 0 := ev5.trans (by decide +kernel)
  intro v6 ev6; obtain rfl : v6 = 0 := ev6.trans (by decide +kernel)
  intro v7 ev7; obtain rfl : v7 = 0 := ev7.trans (by decide +kernel)
  intro v8 ev8; obtain rfl : v8 = 0 := ev8.trans (by decide +kernel)
  intro v9 ev9; obtain rfl : v9 = 0 := ev9.trans (by decide +kernel)
  intro v10 ev10; obtain rfl : v10 = 0 := ev10.trans (by decide +kernel)
  intro v11 ev11; obtain rfl : v11 = 0 := ev11.trans (by decide +kernel)
  intro v12 ev12; obtain rfl : v12 = 0 := ev12.trans (by decide +kernel)
  intro v13 ev13; obtain rfl : v13 = 0 := ev13.trans (by decide +kernel)
  refine Exists.intro 40 ?_
  refine br_t (by decide +kernel) ?_
  refine br_f (by decide +kernel) ?_
  refine And.intro (g_in (by decide +kernel)) ?_
  intro v14 ev14; obtain rfl : v14 = 1 := ev14.trans (by decide +kernel)
  refine br_f (by decide +kernel) ?_
  refine And.intro (g_in (by decide +kernel)) ?_
  intro v15 ev15; obtain rfl : v15 = 2 := ev15.trans (by decide +kernel)
  exact h _ (by decide +kernel) _ _
set_option maxHeartbeats 8000000 in
set_option maxRecDepth 200000 in
theorem fx_marks (post : Int32 → Prop) (p0 : Int32) (p1 : Int32) (h : ∀ r : Int32, r = (if p0 < 0 then (-1) else (if 99 < p0 then (-1) else (if p1 < 0 then (-1) else (if 99 < p1 then (-1) else 0)))) → post r) : wp_X9_marks post p0 p1 0 (fun _ => 0) := by
  refine And.intro (fun hc1 => ?_) (fun hc1 => ?_)
  · skip
    exact h _ ((if_pos ((fa_lt p0 0).mpr (by have l_0 : (0 : Int32).toInt = 0 := (by decide); have g_hc1 := (fa_lt p0 0).mp hc1; omega))).symm)
  · skip
    refine And.intro (fun hc2 => ?_) (fun hc2 => ?_)
    · skip
      exact h _ (((if_neg (fun q0 => absurd ((fa_lt p0 0).mp q0) (by have l_0 : (0 : Int32).toInt = 0 := (by decide); have l_1 : (99 : Int32).toInt = 99 := (by decide); have g_hc1 := mt (fa_lt p0 0).mpr hc1; have g_hc2 := (fa_lt 99 p0).mp hc2; omega))).trans (if_pos ((fa_lt 99 p0).mpr (by have l_0 : (0 : Int32).toInt = 0 := (by decide); have l_1 : (99 : Int32).toInt = 99 := (by decide); have g_hc1 := mt (fa_lt p0 0).mpr hc1; have g_hc2 := (fa_lt 99 p0).mp hc2; omega)))).symm)
    · skip
      refine And.intro (fun hc3 => ?_) (fun hc3 => ?_)
      · skip
        exact h _ ((((if_neg (fun q0 => absurd ((fa_lt p0 0).mp q0) (by have l_0 : (0 : Int32).toInt = 0 := (by decide); have l_1 : (99 : Int32).toInt = 99 := (by decide); have g_hc1 := mt (fa_lt p0 0).mpr hc1; have g_hc2 := mt (fa_lt 99 p0).mpr hc2; omega))).trans (if_neg (fun q0 => absurd ((fa_lt 99 p0).mp q0) (by have l_0 : (0 : Int32).toInt = 0 := (by decide); have l_1 : (99 : Int32).toInt = 99 := (by decide); have g_hc1 := mt (fa_lt p0 0).mpr hc1; have g_hc2 := mt (fa_lt 99 p0).mpr hc2; omega)))).trans (if_pos ((fa_lt p1 0).mpr (by have l_0 : (0 : Int32).toInt = 0 := (by decide); have g_hc3 := (fa_lt p1 0).mp hc3; omega)))).symm)
      · skip
        refine And.intro (fun hc4 => ?_) (fun hc4 => ?_)
        · skip
          refine Exists.intro 40 ?_
          refine br_t (by decide +kernel) ?_
          exact h _ (((((if_neg (fun q0 => absurd ((fa_lt p0 0).mp q0) (by have l_0 : (0 : Int32).toInt = 0 := (by decide); have l_1 : (99 : Int32).toInt = 99 := (by decide); have g_hc1 := mt (fa_lt p0 0).mpr hc1; have g_hc2 := mt (fa_lt 99 p0).mpr hc2; omega))).trans (if_neg (fun q0 => absurd ((fa_lt 99 p0).mp q0) (by have l_0 : (0 : Int32).toInt = 0 := (by decide); have l_1 : (99 : Int32).toInt = 99 := (by decide); have g_hc1 := mt (fa_lt p0 0).mpr hc1; have g_hc2 := mt (fa_lt 99 p0).mpr hc2; omega)))).trans (if_neg (fun q0 => absurd ((fa_lt p1 0).mp q0) (by have l_0 : (0 : Int32).toInt = 0 := (by decide); have l_1 : (99 : Int32).toInt = 99 := (by decide); have g_hc3 := mt (fa_lt p1 0).mpr hc3; have g_hc4 := (fa_le p1 99).mp hc4; omega)))).trans (if_neg (fun q0 => absurd ((fa_lt 99 p1).mp q0) (by have l_0 : (0 : Int32).toInt = 0 := (by decide); have l_1 : (99 : Int32).toInt = 99 := (by decide); have g_hc3 := mt (fa_lt p1 0).mpr hc3; have g_hc4 := (fa_le p1 99).mp hc4; omega)))).symm)
        · skip
          exact h _ (((((if_neg (fun q0 => absurd ((fa_lt p0 0).mp q0) (by have l_0 : (0 : Int32).toInt = 0 := (by decide); have l_1 : (99 : Int32).toInt = 99 := (by decide); have g_hc1 := mt (fa_lt p0 0).mpr hc1; have g_hc2 := mt (fa_lt 99 p0).mpr hc2; omega))).trans (if_neg (fun q0 => absurd ((fa_lt 99 p0).mp q0) (by have l_0 : (0 : Int32).toInt = 0 := (by decide); have l_1 : (99 : Int32).toInt = 99 := (by decide); have g_hc1 := mt (fa_lt p0 0).mpr hc1; have g_hc2 := mt (fa_lt 99 p0).mpr hc2; omega)))).trans (if_neg (fun q0 => absurd ((fa_lt p1 0).mp q0) (by have l_0 : (0 : Int32).toInt = 0 := (by decide); have l_1 : (99 : Int32).toInt = 99 := (by decide); have g_hc3 := mt (fa_lt p1 0).mpr hc3; have g_hc4 := mt (fa_le p1 99).mpr hc4; omega)))).trans (if_pos ((fa_lt 99 p1).mpr (by have l_0 : (0 : Int32).toInt = 0 := (by decide); have l_1 : (99 : Int32).toInt = 99 := (by decide); have g_hc3 := mt (fa_lt p1 0).mpr hc3; have g_hc4 := mt (fa_le p1 99).mpr hc4; omega)))).symm)
set_option maxHeartbeats 8000000 in
set_option maxRecDepth 200000 in
theorem fx_grass (post : Int32 → Int32 → Int32 → Int32 → Int32 → (Nat → Int32) → Int32 → (Nat → Int32) → (Nat → Int32) → Prop) (p0 : Int32) (h : ∀ r : Int32, r = (if p0 < 0 then (-100) else (if 99 < p0 then (-100) else (-1))) → ∀ o0 : Int32, ∀ o1 : Int32, ∀ o2 : Int32, ∀ o3 : Int32, ∀ o4 : (Nat → Int32), ∀ o5 : Int32, ∀ o6 : (Nat → Int32), ∀ o7 : (Nat → Int32), post r o0 o1 o2 o3 o4 o5 o6 o7) : wp_X9_grass post p0 0 0 0 (fun _ => 0) 0 (fun _ => 0) 0 (fun _ => 0) 0 (fun _ => 0) (fun _ => 0) := by
  refine And.intro (fun hc1 => ?_) (fun hc1 => ?_)
  · skip
    exact h _ ((if_pos ((fa_lt p0 0).mpr (by have l_0 : (0 : Int32).toInt = 0 := (by decide); have g_hc1 := (fa_lt p0 0).mp hc1; omega))).symm) _ _ _ _ _ _ _ _
  · skip
    refine And.intro (fun hc2 => ?_) (fun hc2 => ?_)
    · skip
      exact h _ (((if_neg (fun q0 => absurd ((fa_lt p0 0).mp q0) (by have l_0 : (0 : Int32).toInt = 0 := (by decide); have l_1 : (99 : Int32).toInt = 99 := (by decide); have g_hc1 := mt (fa_lt p0 0).mpr hc1; have g_hc2 := (fa_lt 99 p0).mp hc2; omega))).trans (if_pos ((fa_lt 99 p0).mpr (by have l_0 : (0 : Int32).toInt = 0 := (by decide); have l_1 : (99 : Int32).toInt = 99 := (by decide); have g_hc1 := mt (fa_lt p0 0).mpr hc1; have g_hc2 := (fa_lt 99 p0).mp hc2; omega)))).symm) _ _ _ _ _ _ _ _
    · skip
      intro v3 ev3; obtain rfl : v3 = 0 := ev3.trans (by decide +kernel)
      refine Exists.intro 40 ?_
      refine br_f (by decide +kernel) ?_
      refine br_t (by decide +kernel) ?_
      refine br_t (by decide +kernel) ?_
      refine And.intro (fun h9 => absurd rfl h9) (fun _ => ?_)
      refine And.intro (fun h9 => absurd rfl h9) (fun _ => ?_)
      refine br_t (by decide +kernel) ?_
      exact h _ (((if_neg (fun q0 => absurd ((fa_lt p0 0).mp q0) (by have l_0 : (0 : Int32).toInt = 0 := (by decide); have l_1 : (99 : Int32).toInt = 99 := (by decide); have g_hc1 := mt (fa_lt p0 0).mpr hc1; have g_hc2 := mt (fa_lt 99 p0).mpr hc2; omega))).trans (if_neg (fun q0 => absurd ((fa_lt 99 p0).mp q0) (by have l_0 : (0 : Int32).toInt = 0 := (by decide); have l_1 : (99 : Int32).toInt = 99 := (by decide); have g_hc1 := mt (fa_lt p0 0).mpr hc1; have g_hc2 := mt (fa_lt 99 p0).mpr hc2; omega)))).symm) _ _ _ _ _ _ _ _
set_option maxHeartbeats 8000000 in
set_option maxRecDepth 200000 in
theorem fx_fits (post : Int32 → Int32 → (Nat → Int32) → Int32 → (Nat → Int32) → Prop) (p0 : Int32) (h : ∀ r : Int32, r = (if p0 = 0 then 1 else (-1)) → ∀ o0 : Int32, ∀ o1 : (Nat → Int32), ∀ o2 : Int32, ∀ o3 : (Nat → Int32), post r o0 o1 o2 o3) : wp_X9_fits post p0 0 (fun _ => 0) 0 0 (fun _ => 0) (fun _ => 0) (fun _ => 0) (fun _ => 0) (fun _ => 0) (upd (upd (upd (upd (upd (fun _ => 0) (0 : Int32).toNatClampNeg 8) (1 : Int32).toNatClampNeg 3) (2 : Int32).toNatClampNeg 5) (3 : Int32).toNatClampNeg 1) (4 : Int32).toNatClampNeg 6) 0 0 0 0 0 0 (fun _ => 0) := by
  intro v1 ev1; obtain rfl : v1 = 1 := ev1.trans (by decide +kernel)
  refine And.intro (fun hc2 => ?_) (fun hc2 => ?_)
  · skip
    have hc3 : p0 = 0 := (g_and1 p0).symm.trans hc2
    obtain rfl : p0 = 0 := (fa_eq _ _).mpr (by have l_0 : (0 : Int32).toInt = 0 := (by decide); have g_hc3 := (fa_eq p0 0).mp hc3; omega)
    intro v4 ev4; obtain rfl : v4 = 8 := ev4.trans (by decide +kernel)
    intro v5 ev5; obtain rfl : v5 = 8 := ev5.trans (by decide +kernel)
    refine Exists.intro 40 ?_
    refine br_t (by decide +kernel) ?_
    intro v6 ev6; obtain rfl : v6 = 1 := ev6.trans (by decide +kernel)
    intro v7 ev7; obtain rfl : v7 = 0 := ev7.trans (by decide +kernel)
    intro v8 ev8; obtain rfl : v8 = 0 := ev8.trans (by decide +kernel)
    refine Exists.intro 40 ?_
    refine br_t (by decide +kernel) ?_
    intro v9 ev9; obtain rfl : v9 = 0 := ev9.trans (by decide +kernel)
    intro v10 ev10; obtain rfl : v10 = 1 := ev10.trans (by decide +kernel)
    refine Exists.intro 40 ?_
    refine br_t (by decide +kernel) ?_
    intro v11 ev11; obtain rfl : v11 = 0 := ev11.trans (by decide +kernel)
    refine Exists.intro 40 ?_
    intro v12 ev12; obtain rfl : v12 = 1 := ev12.trans (by decide +kernel)
    refine br_f (by decide +kernel) ?_
    refine Exists.intro 40 ?_
    refine br_t (by decide +kernel) ?_
    refine Exists.intro 40 ?_
    refine br_t (by decide +kernel) ?_
    refine And.intro (fun h9 => absurd rfl h9) (fun _ => ?_)
    refine br_f (by decide +kernel) ?_
    intro v13 ev13; obtain rfl : v13 = 1 := ev13.trans (by decide +kernel)
    refine br_t (by decide +kernel) ?_
    refine br_t (by decide +kernel) ?_
    intro v14 ev14; obtain rfl : v14 = 1 := ev14.trans (by decide +kernel)
    intro v15 ev15; obtain rfl : v15 = 1 := ev15.trans (by decide +kernel)
    refine br_t (by decide +kernel) ?_
    refine br_f (by decide +kernel) ?_
    refine And.intro (g_in (by decide +kernel)) ?_
    intro v16 ev16; obtain rfl : v16 = 1 := ev16.trans (by decide +kernel)
    refine br_f (by decide +kernel) ?_
    refine And.intro (g_in (by decide +kernel)) ?_
    intro v17 ev17; obtain rfl : v17 = 2 := ev17.trans (by decide +kernel)
    exact h _ ((if_pos (by decide +kernel)).symm) _ _ _ _
  · skip
    have hc18 : ¬ p0 = 0 := fun q0 => hc2 ((g_and1 p0).trans q0)
    exact h _ ((if_neg (fun q0 => absurd ((fa_eq p0 0).mp q0) (by have l_0 : (0 : Int32).toInt = 0 := (by decide); have g_hc18 := mt (fa_eq p0 0).mpr hc18; omega))).symm) _ _ _ _
set_option maxHeartbeats 8000000 in
set_option maxRecDepth 200000 in
theorem fx_leaned (post : Int32 → Prop) (p0 : Int32) (p1 : Int32) (h : ∀ r : Int32, r = (-1) → post r) : wp_X9_leaned post p0 p1 0 0 (fun _ => 0) (fun _ => 0) (fun _ => 0) (fun _ => 0) (upd (upd (upd (upd (upd (fun _ => 0) (0 : Int32).toNatClampNeg 8) (1 : Int32).toNatClampNeg 3) (2 : Int32).toNatClampNeg 5) (3 : Int32).toNatClampNeg 1) (4 : Int32).toNatClampNeg 6) := by
  refine And.intro (fun hc1 => ?_) (fun hc1 => ?_)
  · skip
    refine br_t (by decide +kernel) ?_
    exact h _ (by decide +kernel)
  · skip
    refine br_t ((fa_le 0 p0).mpr (by have l_0 : (0 : Int32).toInt = 0 := (by decide); have g_hc1 := mt (fa_lt p0 0).mpr hc1; omega)) ?_
    refine br_t (by decide +kernel) ?_
    exact h _ (by decide +kernel)
set_option maxHeartbeats 8000000 in
set_option maxRecDepth 200000 in
theorem fx_autumn (post : Int32 → Int32 → (Nat → Int32) → Prop) (p0 : Int32) (p1 : Int32) (p2 : Int32) (h : ∀ r : Int32, r = (if p1 < 1 then (-1) else (if 30 < p1 then (-1) else (if p2 < 0 then (-1) else (if 10 < p2 then (-1) else 0)))) → ∀ o0 : Int32, ∀ o1 : (Nat → Int32), post r o0 o1) : wp_X9_autumn post p0 p1 p2 0 (fun _ => 0) (fun _ => 0) 0 0 0 0 0 0 (fun _ => 0) := by
  refine And.intro (fun hc1 => ?_) (fun hc1 => ?_)
  · skip
    exact h _ ((if_pos ((fa_lt p1 1).mpr (by have l_0 : (1 : Int32).toInt = 1 := (by decide); have g_hc1 := (fa_lt p1 1).mp hc1; omega))).symm) _ _
  · skip
    refine And.intro (fun hc2 => ?_) (fun hc2 => ?_)
    · skip
      exact h _ (((if_neg (fun q0 => absurd ((fa_lt p1 1).mp q0) (by have l_0 : (1 : Int32).toInt = 1 := (by decide); have l_1 : (30 : Int32).toInt = 30 := (by decide); have g_hc1 := mt (fa_lt p1 1).mpr hc1; have g_hc2 := (fa_lt 30 p1).mp hc2; omega))).trans (if_pos ((fa_lt 30 p1).mpr (by have l_0 : (1 : Int32).toInt = 1 := (by decide); have l_1 : (30 : Int32).toInt = 30 := (by decide); have g_hc1 := mt (fa_lt p1 1).mpr hc1; have g_hc2 := (fa_lt 30 p1).mp hc2; omega)))).symm) _ _
    · skip
      refine And.intro (fun hc3 => ?_) (fun hc3 => ?_)
      · skip
        exact h _ ((((if_neg (fun q0 => absurd ((fa_lt p1 1).mp q0) (by have l_0 : (1 : Int32).toInt = 1 := (by decide); have l_1 : (30 : Int32).toInt = 30 := (by decide); have g_hc1 := mt (fa_lt p1 1).mpr hc1; have g_hc2 := mt (fa_lt 30 p1).mpr hc2; omega))).trans (if_neg (fun q0 => absurd ((fa_lt 30 p1).mp q0) (by have l_0 : (1 : Int32).toInt = 1 := (by decide); have l_1 : (30 : Int32).toInt = 30 := (by decide); have g_hc1 := mt (fa_lt p1 1).mpr hc1; have g_hc2 := mt (fa_lt 30 p1).mpr hc2; omega)))).trans (if_pos ((fa_lt p2 0).mpr (by have l_0 : (0 : Int32).toInt = 0 := (by decide); have g_hc3 := (fa_lt p2 0).mp hc3; omega)))).symm) _ _
      · skip
        refine And.intro (fun hc4 => ?_) (fun hc4 => ?_)
        · skip
          intro v5 ev5; obtain rfl : v5 = 1 := ev5.trans (by decide +kernel)
          intro v6 ev6; obtain rfl : v6 = 0 := ev6.trans (by decide +kernel)
          intro v7 ev7; obtain rfl : v7 = 0 := ev7.trans (by decide +kernel)
          refine Exists.intro 40 ?_
          refine br_f (fun q0 => absurd ((fa_lt p1 1).mp q0) (by have l_0 : (1 : Int32).toInt = 1 := (by decide); have l_1 : (30 : Int32).toInt = 30 := (by decide); have g_hc1 := mt (fa_lt p1 1).mpr hc1; have g_hc2 := mt (fa_lt 30 p1).mpr hc2; omega)) ?_
          intro v8 ev8; obtain rfl : v8 = 0 := ev8.trans (by decide +kernel)
          intro v9 ev9; obtain rfl : v9 = 1 := ev9.trans (by decide +kernel)
          intro v10 ev10; obtain rfl : v10 = 1 := ev10.trans (by decide +kernel)
          refine Exists.intro 40 ?_
          refine br_t (by decide +kernel) ?_
          intro v11 ev11; obtain rfl : v11 = 0 := ev11.trans (by decide +kernel)
          refine Exists.intro 40 ?_
          refine br_t (by decide +kernel) ?_
          refine br_t (by decide +kernel) ?_
          intro v12 ev12; obtain rfl : v12 = 2 := ev12.trans (by decide +kernel)
          refine And.intro (fun hc13 => ?_) (fun hc13 => ?_)
          · skip
            obtain rfl : p1 = 1 := (fa_eq _ _).mpr (by have l_0 : (1 : Int32).toInt = 1 := (by decide); have l_1 : (2 : Int32).toInt = 2 := (by decide); have l_2 : (30 : Int32).toInt = 30 := (by decide); have g_hc1 := mt (fa_lt p1 1).mpr hc1; have g_hc2 := mt (fa_lt 30 p1).mpr hc2; have g_hc13 := (fa_lt p1 2).mp hc13; omega)
            refine Exists.intro 40 ?_
            refine br_t (by decide +kernel) ?_
            refine br_f (by decide +kernel) ?_
            refine And.intro (g_in (by decide +kernel)) ?_
            intro v14 ev14; obtain rfl : v14 = 1 := ev14.trans (by decide +kernel)
            refine br_f (by decide +kernel) ?_
            refine And.intro (g_in (by decide +kernel)) ?_
            intro v15 ev15; obtain rfl : v15 = 2 := ev15.trans (by decide +kernel)
            refine br_f (by decide +kernel) ?_
            refine And.intro (g_in (by decide +kernel)) ?_
            intro v16 ev16; obtain rfl : v16 = 3 := ev16.trans (by decide +kernel)
            intro v17 ev17; obtain rfl : v17 = 0 := ev17.trans (by decide +kernel)
            intro v18 ev18; obtain rfl : v18 = 0 := ev18.trans (by decide +kernel)
            intro v19 ev19; obtain rfl : v19 = 0 := ev19.trans (by decide +kernel)
            intro v20 ev20; obtain rfl : v20 = 0 := ev20.trans (by decide +kernel)
            intro v21 ev21; obtain rfl : v21 = 0 := ev21.trans (by decide +kernel)
            intro v22 ev22; obtain rfl : v22 = 0 := ev22.trans (by decide +kernel)
            intro v23 ev23; obtain rfl : v23 = 0 := ev23.trans (by decide +kernel)
            intro v24 ev24; obtain rfl : v24 = 0 := ev24.trans (by decide +kernel)
            intro v25 ev25; obtain rfl : v25 = 0 := ev25.trans (by decide +kernel)
            exact h _ (((((if_neg (by decide +kernel)).trans (if_neg (by decide +kernel))).trans (if_neg (fun q0 => absurd ((fa_lt p2 0).mp q0) (by have l_0 : (0 : Int32).toInt = 0 := (by decide); have l_1 : (10 : Int32).toInt = 10 := (by decide); have g_hc3 := mt (fa_lt p2 0).mpr hc3; have g_hc4 := (fa_le p2 10).mp hc4; omega)))).trans (if_neg (fun q0 => absurd ((fa_lt 10 p2).mp q0) (by have l_0 : (0 : Int32).toInt = 0 := (by decide); have l_1 : (10 : Int32).toInt = 10 := (by decide); have g_hc3 := mt (fa_lt p2 0).mpr hc3; have g_hc4 := (fa_le p2 10).mp hc4; omega)))).symm) _ _
          · skip
            intro v26 ev26; obtain rfl : v26 = 0 := ev26.trans (by decide +kernel)
            intro v27 ev27; obtain rfl : v27 = 2 := ev27.trans (by decide +kernel)
            intro v28 ev28; obtain rfl : v28 = 2 := ev28.trans (by decide +kernel)
            refine Exists.intro 40 ?_
            refine br_t (by decide +kernel) ?_
            intro v29 ev29; obtain rfl : v29 = 0 := ev29.trans (by decide +kernel)
            refine Exists.intro 40 ?_
            refine br_t (by decide +kernel) ?_
            refine br_t (by decide +kernel) ?_
            intro v30 ev30; obtain rfl : v30 = 3 := ev30.trans (by decide +kernel)
            refine And.intro (fun hc31 => ?_) (fun hc31 => ?_)
            · skip
              obtain rfl : p1 = 2 := (fa_eq _ _).mpr (by have l_0 : (1 : Int32).toInt = 1 := (by decide); have l_1 : (2 : Int32).toInt = 2 := (by decide); have l_2 : (3 : Int32).toInt = 3 := (by decide); have l_3 : (30 : Int32).toInt = 30 := (by decide); have g_hc1 := mt (fa_lt p1 1).mpr hc1; have g_hc2 := mt (fa_lt 30 p1).mpr hc2; have g_hc13 := mt (fa_lt p1 2).mpr hc13; have g_hc31 := (fa_lt p1 3).mp hc31; omega)
              refine Exists.intro 40 ?_
              refine br_t (by decide +kernel) ?_
              refine br_f (by decide +kernel) ?_
              refine And.intro (g_in (by decide +kernel)) ?_
              intro v32 ev32; obtain rfl : v32 = 1 := ev32.trans (by decide +kernel)
              refine br_f (by decide +kernel) ?_
              refine And.intro (g_in (by decide +kernel)) ?_
              intro v33 ev33; obtain rfl : v33 = 2 := ev33.trans (by decide +kernel)
              refine br_f (by decide +kernel) ?_
              refine And.intro (g_in (by decide +kernel)) ?_
              intro v34 ev34; obtain rfl : v34 = 3 := ev34.trans (by decide +kernel)
              intro v35 ev35; obtain rfl : v35 = 0 := ev35.trans (by decide +kernel)
              intro v36 ev36; obtain rfl : v36 = 0 := ev36.trans (by decide +kernel)
              intro v37 ev37; obtain rfl : v37 = 0 := ev37.trans (by decide +kernel)
              intro v38 ev38; obtain rfl : v38 = 0 := ev38.trans (by decide +kernel)
              intro v39 ev39; obtain rfl : v39 = 0 := ev39.trans (by decide +kernel)
              intro v40 ev40; obtain rfl : v40 = 0 := ev40.trans (by decide +kernel)
              intro v41 ev41; obtain rfl : v41 = 0 := ev41.trans (by decide +kernel)
              intro v42 ev42; obtain rfl : v42 = 0 := ev42.trans (by decide +kernel)
              intro v43 ev43; obtain rfl : v43 = 0 := ev43.trans (by decide +kernel)
              exact h _ (((((if_neg (by decide +kernel)).trans (if_neg (by decide +kernel))).trans (if_neg (fun q0 => absurd ((fa_lt p2 0).mp q0) (by have l_0 : (0 : Int32).toInt = 0 := (by decide); have l_1 : (10 : Int32).toInt = 10 := (by decide); have g_hc3 := mt (fa_lt p2 0).mpr hc3; have g_hc4 := (fa_le p2 10).mp hc4; omega)))).trans (if_neg (fun q0 => absurd ((fa_lt 10 p2).mp q0) (by have l_0 : (0 : Int32).toInt = 0 := (by decide); have l_1 : (10 : Int32).toInt = 10 := (by decide); have g_hc3 := mt (fa_lt p2 0).mpr hc3; have g_hc4 := (fa_le p2 10).mp hc4; omega)))).symm) _ _
            · skip
              intro v44 ev44; obtain rfl : v44 = 0 := ev44.trans (by decide +kernel)
              intro v45 ev45; obtain rfl : v45 = 3 := ev45.trans (by decide +kernel)
              intro v46 ev46; obtain rfl : v46 = 3 := ev46.trans (by decide +kernel)
              refine Exists.intro 40 ?_
              refine br_t (by decide +kernel) ?_
              intro v47 ev47; obtain rfl : v47 = 0 := ev47.trans (by decide +kernel)
              refine Exists.intro 40 ?_
              refine br_t (by decide +kernel) ?_
              refine br_t (by decide +kernel) ?_
              intro v48 ev48; obtain rfl : v48 = 4 := ev48.trans (by decide +kernel)
              refine And.intro (fun hc49 => ?_) (fun hc49 => ?_)
              · skip
                obtain rfl : p1 = 3 := (fa_eq _ _).mpr (by have l_0 : (1 : Int32).toInt = 1 := (by decide); have l_1 : (2 : Int32).toInt = 2 := (by decide); have l_2 : (3 : Int32).toInt = 3 := (by decide); have l_3 : (30 : Int32).toInt = 30 := (by decide); have l_4 : (4 : Int32).toInt = 4 := (by decide); have g_hc1 := mt (fa_lt p1 1).mpr hc1; have g_hc2 := mt (fa_lt 30 p1).mpr hc2; have g_hc13 := mt (fa_lt p1 2).mpr hc13; have g_hc31 := mt (fa_lt p1 3).mpr hc31; have g_hc49 := (fa_lt p1 4).mp hc49; omega)
                refine Exists.intro 40 ?_
                refine br_t (by decide +kernel) ?_
                refine br_f (by decide +kernel) ?_
                refine And.intro (g_in (by decide +kernel)) ?_
                intro v50 ev50; obtain rfl : v50 = 1 := ev50.trans (by decide +kernel)
                refine br_f (by decide +kernel) ?_
                refine And.intro (g_in (by decide +kernel)) ?_
                intro v51 ev51; obtain rfl : v51 = 2 := ev51.trans (by decide +kernel)
                refine br_f (by decide +kernel) ?_
                refine And.intro (g_in (by decide +kernel)) ?_
                intro v52 ev52; obtain rfl : v52 = 3 := ev52.trans (by decide +kernel)
                intro v53 ev53; obtain rfl : v53 = 0 := ev53.trans (by decide +kernel)
                intro v54 ev54; obtain rfl : v54 = 0 := ev54.trans (by decide +kernel)
                intro v55 ev55; obtain rfl : v55 = 0 := ev55.trans (by decide +kernel)
                intro v56 ev56; obtain rfl : v56 = 0 := ev56.trans (by decide +kernel)
                intro v57 ev57; obtain rfl : v57 = 0 := ev57.trans (by decide +kernel)
                intro v58 ev58; obtain rfl : v58 = 0 := ev58.trans (by decide +kernel)
                intro v59 ev59; obtain rfl : v59 = 0 := ev59.trans (by decide +kernel)
                intro v60 ev60; obtain rfl : v60 = 0 := ev60.trans (by decide +kernel)
                intro v61 ev61; obtain rfl : v61 = 0 := ev61.trans (by decide +kernel)
                exact h _ (((((if_neg (by decide +kernel)).trans (if_neg (by decide +kernel))).trans (if_neg (fun q0 => absurd ((fa_lt p2 0).mp q0) (by have l_0 : (0 : Int32).toInt = 0 := (by decide); have l_1 : (10 : Int32).toInt = 10 := (by decide); have g_hc3 := mt (fa_lt p2 0).mpr hc3; have g_hc4 := (fa_le p2 10).mp hc4; omega)))).trans (if_neg (fun q0 => absurd ((fa_lt 10 p2).mp q0) (by have l_0 : (0 : Int32).toInt = 0 := (by decide); have l_1 : (10 : Int32).toInt = 10 := (by decide); have g_hc3 := mt (fa_lt p2 0).mpr hc3; have g_hc4 := (fa_le p2 10).mp hc4; omega)))).symm) _ _
              · skip
                intro v62 ev62; obtain rfl : v62 = 0 := ev62.trans (by decide +kernel)
                intro v63 ev63; obtain rfl : v63 = 4 := ev63.trans (by decide +kernel)
                intro v64 ev64; obtain rfl : v64 = 4 := ev64.trans (by decide +kernel)
                refine Exists.intro 40 ?_
                refine br_t (by decide +kernel) ?_
                intro v65 ev65; obtain rfl : v65 = 0 := ev65.trans (by decide +kernel)
                refine Exists.intro 40 ?_
                refine br_t (by decide +kernel) ?_
                refine br_t (by decide +kernel) ?_
                intro v66 ev66; obtain rfl : v66 = 5 := ev66.trans (by decide +kernel)
                refine And.intro (fun hc67 => ?_) (fun hc67 => ?_)
                · skip
                  obtain rfl : p1 = 4 := (fa_eq _ _).mpr (by have l_0 : (1 : Int32).toInt = 1 := (by decide); have l_1 : (2 : Int32).toInt = 2 := (by decide); have l_2 : (3 : Int32).toInt = 3 := (by decide); have l_3 : (30 : Int32).toInt = 30 := (by decide); have l_4 : (4 : Int32).toInt = 4 := (by decide); have l_5 : (5 : Int32).toInt = 5 := (by decide); have g_hc1 := mt (fa_lt p1 1).mpr hc1; have g_hc2 := mt (fa_lt 30 p1).mpr hc2; have g_hc13 := mt (fa_lt p1 2).mpr hc13; have g_hc31 := mt (fa_lt p1 3).mpr hc31; have g_hc49 := mt (fa_lt p1 4).mpr hc49; have g_hc67 := (fa_lt p1 5).mp hc67; omega)
                  refine Exists.intro 40 ?_
                  refine br_t (by decide +kernel) ?_
                  refine br_f (by decide +kernel) ?_
                  refine And.intro (g_in (by decide +kernel)) ?_
                  intro v68 ev68; obtain rfl : v68 = 1 := ev68.trans (by decide +kernel)
                  refine br_f (by decide +kernel) ?_
                  refine And.intro (g_in (by decide +kernel)) ?_
                  intro v69 ev69; obtain rfl : v69 = 2 := ev69.trans (by decide +kernel)
                  refine br_f (by decide +kernel) ?_
                  refine And.intro (g_in (by decide +kernel)) ?_
                  intro v70 ev70; obtain rfl : v70 = 3 := ev70.trans (by decide +kernel)
                  intro v71 ev71; obtain rfl : v71 = 0 := ev71.trans (by decide +kernel)
                  intro v72 ev72; obtain rfl : v72 = 0 := ev72.trans (by decide +kernel)
                  intro v73 ev73; obtain rfl : v73 = 0 := ev73.trans (by decide +kernel)
                  intro v74 ev74; obtain rfl : v74 = 0 := ev74.trans (by decide +kernel)
                  intro v75 ev75; obtain rfl : v75 = 0 := ev75.trans (by decide +kernel)
                  intro v76 ev76; obtain rfl : v76 = 0 := ev76.trans (by decide +kernel)
                  intro v77 ev77; obtain rfl : v77 = 0 := ev77.trans (by decide +kernel)
                  intro v78 ev78; obtain rfl : v78 = 0 := ev78.trans (by decide +kernel)
                  intro v79 ev79; obtain rfl : v79 = 0 := ev79.trans (by decide +kernel)
                  exact h _ (((((if_neg (by decide +kernel)).trans (if_neg (by decide +kernel))).trans (if_neg (fun q0 => absurd ((fa_lt p2 0).mp q0) (by have l_0 : (0 : Int32).toInt = 0 := (by decide); have l_1 : (10 : Int32).toInt = 10 := (by decide); have g_hc3 := mt (fa_lt p2 0).mpr hc3; have g_hc4 := (fa_le p2 10).mp hc4; omega)))).trans (if_neg (fun q0 => absurd ((fa_lt 10 p2).mp q0) (by have l_0 : (0 : Int32).toInt = 0 := (by decide); have l_1 : (10 : Int32).toInt = 10 := (by decide); have g_hc3 := mt (fa_lt p2 0).mpr hc3; have g_hc4 := (fa_le p2 10).mp hc4; omega)))).symm) _ _
                · skip
                  intro v80 ev80; obtain rfl : v80 = 0 := ev80.trans (by decide +kernel)
                  intro v81 ev81; obtain rfl : v81 = 5 := ev81.trans (by decide +kernel)
                  intro v82 ev82; obtain rfl : v82 = 5 := ev82.trans (by decide +kernel)
                  refine Exists.intro 40 ?_
                  refine br_t (by decide +kernel) ?_
                  intro v83 ev83; obtain rfl : v83 = 0 := ev83.trans (by decide +kernel)
                  refine Exists.intro 40 ?_
                  refine br_t (by decide +kernel) ?_
                  refine br_t (by decide +kernel) ?_
                  intro v84 ev84; obtain rfl : v84 = 6 := ev84.trans (by decide +kernel)
                  refine And.intro (fun hc85 => ?_) (fun hc85 => ?_)
                  · skip
                    obtain rfl : p1 = 5 := (fa_eq _ _).mpr (by have l_0 : (1 : Int32).toInt = 1 := (by decide); have l_1 : (2 : Int32).toInt = 2 := (by decide); have l_2 : (3 : Int32).toInt = 3 := (by decide); have l_3 : (30 : Int32).toInt = 30 := (by decide); have l_4 : (4 : Int32).toInt = 4 := (by decide); have l_5 : (5 : Int32).toInt = 5 := (by decide); have l_6 : (6 : Int32).toInt = 6 := (by decide); have g_hc1 := mt (fa_lt p1 1).mpr hc1; have g_hc2 := mt (fa_lt 30 p1).mpr hc2; have g_hc13 := mt (fa_lt p1 2).mpr hc13; have g_hc31 := mt (fa_lt p1 3).mpr hc31; have g_hc49 := mt (fa_lt p1 4).mpr hc49; have g_hc67 := mt (fa_lt p1 5).mpr hc67; have g_hc85 := (fa_lt p1 6).mp hc85; omega)
                    refine Exists.intro 40 ?_
                    refine br_t (by decide +kernel) ?_
                    refine br_f (by decide +kernel) ?_
                    refine And.intro (g_in (by decide +kernel)) ?_
                    intro v86 ev86; obtain rfl : v86 = 1 := ev86.trans (by decide +kernel)
                    refine br_f (by decide +kernel) ?_
                    refine And.intro (g_in (by decide +kernel)) ?_
                    intro v87 ev87; obtain rfl : v87 = 2 := ev87.trans (by decide +kernel)
                    refine br_f (by decide +kernel) ?_
                    refine And.intro (g_in (by decide +kernel)) ?_
                    intro v88 ev88; obtain rfl : v88 = 3 := ev88.trans (by decide +kernel)
                    intro v89 ev89; obtain rfl : v89 = 0 := ev89.trans (by decide +kernel)
                    intro v90 ev90; obtain rfl : v90 = 0 := ev90.trans (by decide +kernel)
                    intro v91 ev91; obtain rfl : v91 = 0 := ev91.trans (by decide +kernel)
                    intro v92 ev92; obtain rfl : v92 = 0 := ev92.trans (by decide +kernel)
                    intro v93 ev93; obtain rfl : v93 = 0 := ev93.trans (by decide +kernel)
                    intro v94 ev94; obtain rfl : v94 = 0 := ev94.trans (by decide +kernel)
                    intro v95 ev95; obtain rfl : v95 = 0 := ev95.trans (by decide +kernel)
                    intro v96 ev96; obtain rfl : v96 = 0 := ev96.trans (by decide +kernel)
                    intro v97 ev97; obtain rfl : v97 = 0 := ev97.trans (by decide +kernel)
                    exact h _ (((((if_neg (by decide +kernel)).trans (if_neg (by decide +kernel))).trans (if_neg (fun q0 => absurd ((fa_lt p2 0).mp q0) (by have l_0 : (0 : Int32).toInt = 0 := (by decide); have l_1 : (10 : Int32).toInt = 10 := (by decide); have g_hc3 := mt (fa_lt p2 0).mpr hc3; have g_hc4 := (fa_le p2 10).mp hc4; omega)))).trans (if_neg (fun q0 => absurd ((fa_lt 10 p2).mp q0) (by have l_0 : (0 : Int32).toInt = 0 := (by decide); have l_1 : (10 : Int32).toInt = 10 := (by decide); have g_hc3 := mt (fa_lt p2 0).mpr hc3; have g_hc4 := (fa_le p2 10).mp hc4; omega)))).symm) _ _
                  · skip
                    intro v98 ev98; obtain rfl : v98 = 0 := ev98.trans (by decide +kernel)
                    intro v99 ev99; obtain rfl : v99 = 6 := ev99.trans (by decide +kernel)
                    intro v100 ev100; obtain rfl : v100 = 6 := ev100.trans (by decide +kernel)
                    refine Exists.intro 40 ?_
                    refine br_t (by decide +kernel) ?_
                    intro v101 ev101; obtain rfl : v101 = 0 := ev101.trans (by decide +kernel)
                    refine Exists.intro 40 ?_
                    refine br_t (by decide +kernel) ?_
                    refine br_t (by decide +kernel) ?_
                    intro v102 ev102; obtain rfl : v102 = 7 := ev102.trans (by decide +kernel)
                    refine And.intro (fun hc103 => ?_) (fun hc103 => ?_)
                    · skip
                      obtain rfl : p1 = 6 := (fa_eq _ _).mpr (by have l_0 : (1 : Int32).toInt = 1 := (by decide); have l_1 : (2 : Int32).toInt = 2 := (by decide); have l_2 : (3 : Int32).toInt = 3 := (by decide); have l_3 : (30 : Int32).toInt = 30 := (by decide); have l_4 : (4 : Int32).toInt = 4 := (by decide); have l_5 : (5 : Int32).toInt = 5 := (by decide); have l_6 : (6 : Int32).toInt = 6 := (by decide); have l_7 : (7 : Int32).toInt = 7 := (by decide); have g_hc1 := mt (fa_lt p1 1).mpr hc1; have g_hc2 := mt (fa_lt 30 p1).mpr hc2; have g_hc13 := mt (fa_lt p1 2).mpr hc13; have g_hc31 := mt (fa_lt p1 3).mpr hc31; have g_hc49 := mt (fa_lt p1 4).mpr hc49; have g_hc67 := mt (fa_lt p1 5).mpr hc67; have g_hc85 := mt (fa_lt p1 6).mpr hc85; have g_hc103 := (fa_lt p1 7).mp hc103; omega)
                      refine Exists.intro 40 ?_
                      refine br_t (by decide +kernel) ?_
                      refine br_f (by decide +kernel) ?_
                      refine And.intro (g_in (by decide +kernel)) ?_
                      intro v104 ev104; obtain rfl : v104 = 1 := ev104.trans (by decide +kernel)
                      refine br_f (by decide +kernel) ?_
                      refine And.intro (g_in (by decide +kernel)) ?_
                      intro v105 ev105; obtain rfl : v105 = 2 := ev105.trans (by decide +kernel)
                      refine br_f (by decide +kernel) ?_
                      refine And.intro (g_in (by decide +kernel)) ?_
                      intro v106 ev106; obtain rfl : v106 = 3 := ev106.trans (by decide +kernel)
                      intro v107 ev107; obtain rfl : v107 = 0 := ev107.trans (by decide +kernel)
                      intro v108 ev108; obtain rfl : v108 = 0 := ev108.trans (by decide +kernel)
                      intro v109 ev109; obtain rfl : v109 = 0 := ev109.trans (by decide +kernel)
                      intro v110 ev110; obtain rfl : v110 = 0 := ev110.trans (by decide +kernel)
                      intro v111 ev111; obtain rfl : v111 = 0 := ev111.trans (by decide +kernel)
                      intro v112 ev112; obtain rfl : v112 = 0 := ev112.trans (by decide +kernel)
                      intro v113 ev113; obtain rfl : v113 = 0 := ev113.trans (by decide +kernel)
                      intro v114 ev114; obtain rfl : v114 = 0 := ev114.trans (by decide +kernel)
                      intro v115 ev115; obtain rfl : v115 = 0 := ev115.trans (by decide +kernel)
                      exact h _ (((((if_neg (by decide +kernel)).trans (if_neg (by decide +kernel))).trans (if_neg (fun q0 => absurd ((fa_lt p2 0).mp q0) (by have l_0 : (0 : Int32).toInt = 0 := (by decide); have l_1 : (10 : Int32).toInt = 10 := (by decide); have g_hc3 := mt (fa_lt p2 0).mpr hc3; have g_hc4 := (fa_le p2 10).mp hc4; omega)))).trans (if_neg (fun q0 => absurd ((fa_lt 10 p2).mp q0) (by have l_0 : (0 : Int32).toInt = 0 := (by decide); have l_1 : (10 : Int32).toInt = 10 := (by decide); have g_hc3 := mt (fa_lt p2 0).mpr hc3; have g_hc4 := (fa_le p2 10).mp hc4; omega)))).symm) _ _
                    · skip
                      intro v116 ev116; obtain rfl : v116 = 0 := ev116.trans (by decide +kernel)
                      intro v117 ev117; obtain rfl : v117 = 7 := ev117.trans (by decide +kernel)
                      intro v118 ev118; obtain rfl : v118 = 7 := ev118.trans (by decide +kernel)
                      refine Exists.intro 40 ?_
                      refine br_t (by decide +kernel) ?_
                      intro v119 ev119; obtain rfl : v119 = 0 := ev119.trans (by decide +kernel)
                      refine Exists.intro 40 ?_
                      refine br_t (by decide +kernel) ?_
                      refine br_t (by decide +kernel) ?_
                      intro v120 ev120; obtain rfl : v120 = 8 := ev120.trans (by decide +kernel)
                      refine And.intro (fun hc121 => ?_) (fun hc121 => ?_)
                      · skip
                        obtain rfl : p1 = 7 := (fa_eq _ _).mpr (by have l_0 : (1 : Int32).toInt = 1 := (by decide); have l_1 : (2 : Int32).toInt = 2 := (by decide); have l_2 : (3 : Int32).toInt = 3 := (by decide); have l_3 : (30 : Int32).toInt = 30 := (by decide); have l_4 : (4 : Int32).toInt = 4 := (by decide); have l_5 : (5 : Int32).toInt = 5 := (by decide); have l_6 : (6 : Int32).toInt = 6 := (by decide); have l_7 : (7 : Int32).toInt = 7 := (by decide); have l_8 : (8 : Int32).toInt = 8 := (by decide); have g_hc1 := mt (fa_lt p1 1).mpr hc1; have g_hc2 := mt (fa_lt 30 p1).mpr hc2; have g_hc13 := mt (fa_lt p1 2).mpr hc13; have g_hc31 := mt (fa_lt p1 3).mpr hc31; have g_hc49 := mt (fa_lt p1 4).mpr hc49; have g_hc67 := mt (fa_lt p1 5).mpr hc67; have g_hc85 := mt (fa_lt p1 6).mpr hc85; have g_hc103 := mt (fa_lt p1 7).mpr hc103; have g_hc121 := (fa_lt p1 8).mp hc121; omega)
                        refine Exists.intro 40 ?_
                        refine br_t (by decide +kernel) ?_
                        refine br_f (by decide +kernel) ?_
                        refine And.intro (g_in (by decide +kernel)) ?_
                        intro v122 ev122; obtain rfl : v122 = 1 := ev122.trans (by decide +kernel)
                        refine br_f (by decide +kernel) ?_
                        refine And.intro (g_in (by decide +kernel)) ?_
                        intro v123 ev123; obtain rfl : v123 = 2 := ev123.trans (by decide +kernel)
                        refine br_f (by decide +kernel) ?_
                        refine And.intro (g_in (by decide +kernel)) ?_
                        intro v124 ev124; obtain rfl : v124 = 3 := ev124.trans (by decide +kernel)
                        intro v125 ev125; obtain rfl : v125 = 0 := ev125.trans (by decide +kernel)
                        intro v126 ev126; obtain rfl : v126 = 0 := ev126.trans (by decide +kernel)
                        intro v127 ev127; obtain rfl : v127 = 0 := ev127.trans (by decide +kernel)
                        intro v128 ev128; obtain rfl : v128 = 0 := ev128.trans (by decide +kernel)
                        intro v129 ev129; obtain rfl : v129 = 0 := ev129.trans (by decide +kernel)
                        intro v130 ev130; obtain rfl : v130 = 0 := ev130.trans (by decide +kernel)
                        intro v131 ev131; obtain rfl : v131 = 0 := ev131.trans (by decide +kernel)
                        intro v132 ev132; obtain rfl : v132 = 0 := ev132.trans (by decide +kernel)
                        intro v133 ev133; obtain rfl : v133 = 0 := ev133.trans (by decide +kernel)
                        exact h _ (((((if_neg (by decide +kernel)).trans (if_neg (by decide +kernel))).trans (if_neg (fun q0 => absurd ((fa_lt p2 0).mp q0) (by have l_0 : (0 : Int32).toInt = 0 := (by decide); have l_1 : (10 : Int32).toInt = 10 := (by decide); have g_hc3 := mt (fa_lt p2 0).mpr hc3; have g_hc4 := (fa_le p2 10).mp hc4; omega)))).trans (if_neg (fun q0 => absurd ((fa_lt 10 p2).mp q0) (by have l_0 : (0 : Int32).toInt = 0 := (by decide); have l_1 : (10 : Int32).toInt = 10 := (by decide); have g_hc3 := mt (fa_lt p2 0).mpr hc3; have g_hc4 := (fa_le p2 10).mp hc4; omega)))).symm) _ _
                      · skip
                        intro v134 ev134; obtain rfl : v134 = 0 := ev134.trans (by decide +kernel)
                        intro v135 ev135; obtain rfl : v135 = 8 := ev135.trans (by decide +kernel)
                        intro v136 ev136; obtain rfl : v136 = 8 := ev136.trans (by decide +kernel)
                        refine Exists.intro 40 ?_
                        refine br_t (by decide +kernel) ?_
                        intro v137 ev137; obtain rfl : v137 = 0 := ev137.trans (by decide +kernel)
                        refine Exists.intro 40 ?_
                        refine br_t (by decide +kernel) ?_
                        refine br_t (by decide +kernel) ?_
                        intro v138 ev138; obtain rfl : v138 = 9 := ev138.trans (by decide +kernel)
                        refine And.intro (fun hc139 => ?_) (fun hc139 => ?_)
                        · skip
                          obtain rfl : p1 = 8 := (fa_eq _ _).mpr (by have l_0 : (1 : Int32).toInt = 1 := (by decide); have l_1 : (2 : Int32).toInt = 2 := (by decide); have l_2 : (3 : Int32).toInt = 3 := (by decide); have l_3 : (30 : Int32).toInt = 30 := (by decide); have l_4 : (4 : Int32).toInt = 4 := (by decide); have l_5 : (5 : Int32).toInt = 5 := (by decide); have l_6 : (6 : Int32).toInt = 6 := (by decide); have l_7 : (7 : Int32).toInt = 7 := (by decide); have l_8 : (8 : Int32).toInt = 8 := (by decide); have l_9 : (9 : Int32).toInt = 9 := (by decide); have g_hc1 := mt (fa_lt p1 1).mpr hc1; have g_hc2 := mt (fa_lt 30 p1).mpr hc2; have g_hc13 := mt (fa_lt p1 2).mpr hc13; have g_hc31 := mt (fa_lt p1 3).mpr hc31; have g_hc49 := mt (fa_lt p1 4).mpr hc49; have g_hc67 := mt (fa_lt p1 5).mpr hc67; have g_hc85 := mt (fa_lt p1 6).mpr hc85; have g_hc103 := mt (fa_lt p1 7).mpr hc103; have g_hc121 := mt (fa_lt p1 8).mpr hc121; have g_hc139 := (fa_lt p1 9).mp hc139; omega)
                          refine Exists.intro 40 ?_
                          refine br_t (by decide +kernel) ?_
                          refine br_f (by decide +kernel) ?_
                          refine And.intro (g_in (by decide +kernel)) ?_
                          intro v140 ev140; obtain rfl : v140 = 1 := ev140.trans (by decide +kernel)
                          refine br_f (by decide +kernel) ?_
                          refine And.intro (g_in (by decide +kernel)) ?_
                          intro v141 ev141; obtain rfl : v141 = 2 := ev141.trans (by decide +kernel)
                          refine br_f (by decide +kernel) ?_
                          refine And.intro (g_in (by decide +kernel)) ?_
                          intro v142 ev142; obtain rfl : v142 = 3 := ev142.trans (by decide +kernel)
                          intro v143 ev143; obtain rfl : v143 = 0 := ev143.trans (by decide +kernel)
                          intro v144 ev144; obtain rfl : v144 = 0 := ev144.trans (by decide +kernel)
                          intro v145 ev145; obtain rfl : v145 = 0 := ev145.trans (by decide +kernel)
                          intro v146 ev146; obtain rfl : v146 = 0 := ev146.trans (by decide +kernel)
                          intro v147 ev147; obtain rfl : v147 = 0 := ev147.trans (by decide +kernel)
                          intro v148 ev148; obtain rfl : v148 = 0 := ev148.trans (by decide +kernel)
                          intro v149 ev149; obtain rfl : v149 = 0 := ev149.trans (by decide +kernel)
                          intro v150 ev150; obtain rfl : v150 = 0 := ev150.trans (by decide +kernel)
                          intro v151 ev151; obtain rfl : v151 = 0 := ev151.trans (by decide +kernel)
                          exact h _ (((((if_neg (by decide +kernel)).trans (if_neg (by decide +kernel))).trans (if_neg (fun q0 => absurd ((fa_lt p2 0).mp q0) (by have l_0 : (0 : Int32).toInt = 0 := (by decide); have l_1 : (10 : Int32).toInt = 10 := (by decide); have g_hc3 := mt (fa_lt p2 0).mpr hc3; have g_hc4 := (fa_le p2 10).mp hc4; omega)))).trans (if_neg (fun q0 => absurd ((fa_lt 10 p2).mp q0) (by have l_0 : (0 : Int32).toInt = 0 := (by decide); have l_1 : (10 : Int32).toInt = 10 := (by decide); have g_hc3 := mt (fa_lt p2 0).mpr hc3; have g_hc4 := (fa_le p2 10).mp hc4; omega)))).symm) _ _
                        · skip
                          intro v152 ev152; obtain rfl : v152 = 0 := ev152.trans (by decide +kernel)
                          intro v153 ev153; obtain rfl : v153 = 9 := ev153.trans (by decide +kernel)
                          intro v154 ev154; obtain rfl : v154 = 9 := ev154.trans (by decide +kernel)
                          refine Exists.intro 40 ?_
                          refine br_t (by decide +kernel) ?_
                          intro v155 ev155; obtain rfl : v155 = 0 := ev155.trans (by decide +kernel)
                          refine Exists.intro 40 ?_
                          refine br_t (by decide +kernel) ?_
                          refine br_t (by decide +kernel) ?_
                          intro v156 ev156; obtain rfl : v156 = 10 := ev156.trans (by decide +kernel)
                          refine And.intro (fun hc157 => ?_) (fun hc157 => ?_)
                          · skip
                            obtain rfl : p1 = 9 := (fa_eq _ _).mpr (by have l_0 : (1 : Int32).toInt = 1 := (by decide); have l_1 : (10 : Int32).toInt = 10 := (by decide); have l_2 : (2 : Int32).toInt = 2 := (by decide); have l_3 : (3 : Int32).toInt = 3 := (by decide); have l_4 : (30 : Int32).toInt = 30 := (by decide); have l_5 : (4 : Int32).toInt = 4 := (by decide); have l_6 : (5 : Int32).toInt = 5 := (by decide); have l_7 : (6 : Int32).toInt = 6 := (by decide); have l_8 : (7 : Int32).toInt = 7 := (by decide); have l_9 : (8 : Int32).toInt = 8 := (by decide); have l_10 : (9 : Int32).toInt = 9 := (by decide); have g_hc1 := mt (fa_lt p1 1).mpr hc1; have g_hc2 := mt (fa_lt 30 p1).mpr hc2; have g_hc13 := mt (fa_lt p1 2).mpr hc13; have g_hc31 := mt (fa_lt p1 3).mpr hc31; have g_hc49 := mt (fa_lt p1 4).mpr hc49; have g_hc67 := mt (fa_lt p1 5).mpr hc67; have g_hc85 := mt (fa_lt p1 6).mpr hc85; have g_hc103 := mt (fa_lt p1 7).mpr hc103; have g_hc121 := mt (fa_lt p1 8).mpr hc121; have g_hc139 := mt (fa_lt p1 9).mpr hc139; have g_hc157 := (fa_lt p1 10).mp hc157; omega)
                            refine Exists.intro 40 ?_
                            refine br_t (by decide +kernel) ?_
                            refine br_f (by decide +kernel) ?_
                            refine And.intro (g_in (by decide +kernel)) ?_
                            intro v158 ev158; obtain rfl : v158 = 1 := ev158.trans (by decide +kernel)
                            refine br_f (by decide +kernel) ?_
                            refine And.intro (g_in (by decide +kernel)) ?_
                            intro v159 ev159; obtain rfl : v159 = 2 := ev159.trans (by decide +kernel)
                            refine br_f (by decide +kernel) ?_
                            refine And.intro (g_in (by decide +kernel)) ?_
                            intro v160 ev160; obtain rfl : v160 = 3 := ev160.trans (by decide +kernel)
                            intro v161 ev161; obtain rfl : v161 = 0 := ev161.trans (by decide +kernel)
                            intro v162 ev162; obtain rfl : v162 = 0 := ev162.trans (by decide +kernel)
                            intro v163 ev163; obtain rfl : v163 = 0 := ev163.trans (by decide +kernel)
                            intro v164 ev164; obtain rfl : v164 = 0 := ev164.trans (by decide +kernel)
                            intro v165 ev165; obtain rfl : v165 = 0 := ev165.trans (by decide +kernel)
                            intro v166 ev166; obtain rfl : v166 = 0 := ev166.trans (by decide +kernel)
                            intro v167 ev167; obtain rfl : v167 = 0 := ev167.trans (by decide +kernel)
                            intro v168 ev168; obtain rfl : v168 = 0 := ev168.trans (by decide +kernel)
                            intro v169 ev169; obtain rfl : v169 = 0 := ev169.trans (by decide +kernel)
                            exact h _ (((((if_neg (by decide +kernel)).trans (if_neg (by decide +kernel))).trans (if_neg (fun q0 => absurd ((fa_lt p2 0).mp q0) (by have l_0 : (0 : Int32).toInt = 0 := (by decide); have l_1 : (10 : Int32).toInt = 10 := (by decide); have g_hc3 := mt (fa_lt p2 0).mpr hc3; have g_hc4 := (fa_le p2 10).mp hc4; omega)))).trans (if_neg (fun q0 => absurd ((fa_lt 10 p2).mp q0) (by have l_0 : (0 : Int32).toInt = 0 := (by decide); have l_1 : (10 : Int32).toInt = 10 := (by decide); have g_hc3 := mt (fa_lt p2 0).mpr hc3; have g_hc4 := (fa_le p2 10).mp hc4; omega)))).symm) _ _
                          · skip
                            intro v170 ev170; obtain rfl : v170 = 0 := ev170.trans (by decide +kernel)
                            intro v171 ev171; obtain rfl : v171 = 10 := ev171.trans (by decide +kernel)
                            intro v172 ev172; obtain rfl : v172 = 9 := ev172.trans (by decide +kernel)
                            refine Exists.intro 40 ?_
                            refine br_t (by decide +kernel) ?_
                            intro v173 ev173; obtain rfl : v173 = 0 := ev173.trans (by decide +kernel)
                            refine Exists.intro 40 ?_
                            refine br_t (by decide +kernel) ?_
                            refine br_t (by decide +kernel) ?_
                            intro v174 ev174; obtain rfl : v174 = 11 := ev174.trans (by decide +kernel)
                            refine And.intro (fun hc175 => ?_) (fun hc175 => ?_)
                            · skip
                              obtain rfl : p1 = 10 := (fa_eq _ _).mpr (by have l_0 : (1 : Int32).toInt = 1 := (by decide); have l_1 : (10 : Int32).toInt = 10 := (by decide); have l_2 : (11 : Int32).toInt = 11 := (by decide); have l_3 : (2 : Int32).toInt = 2 := (by decide); have l_4 : (3 : Int32).toInt = 3 := (by decide); have l_5 : (30 : Int32).toInt = 30 := (by decide); have l_6 : (4 : Int32).toInt = 4 := (by decide); have l_7 : (5 : Int32).toInt = 5 := (by decide); have l_8 : (6 : Int32).toInt = 6 := (by decide); have l_9 : (7 : Int32).toInt = 7 := (by decide); have l_10 : (8 : Int32).toInt = 8 := (by decide); have l_11 : (9 : Int32).toInt = 9 := (by decide); have g_hc1 := mt (fa_lt p1 1).mpr hc1; have g_hc2 := mt (fa_lt 30 p1).mpr hc2; have g_hc13 := mt (fa_lt p1 2).mpr hc13; have g_hc31 := mt (fa_lt p1 3).mpr hc31; have g_hc49 := mt (fa_lt p1 4).mpr hc49; have g_hc67 := mt (fa_lt p1 5).mpr hc67; have g_hc85 := mt (fa_lt p1 6).mpr hc85; have g_hc103 := mt (fa_lt p1 7).mpr hc103; have g_hc121 := mt (fa_lt p1 8).mpr hc121; have g_hc139 := mt (fa_lt p1 9).mpr hc139; have g_hc157 := mt (fa_lt p1 10).mpr hc157; have g_hc175 := (fa_lt p1 11).mp hc175; omega)
                              refine Exists.intro 40 ?_
                              refine br_t (by decide +kernel) ?_
                              refine br_f (by decide +kernel) ?_
                              refine And.intro (g_in (by decide +kernel)) ?_
                              intro v176 ev176; obtain rfl : v176 = 1 := ev176.trans (by decide +kernel)
                              refine br_f (by decide +kernel) ?_
                              refine And.intro (g_in (by decide +kernel)) ?_
                              intro v177 ev177; obtain rfl : v177 = 2 := ev177.trans (by decide +kernel)
                              refine br_f (by decide +kernel) ?_
                              refine And.intro (g_in (by decide +kernel)) ?_
                              intro v178 ev178; obtain rfl : v178 = 3 := ev178.trans (by decide +kernel)
                              intro v179 ev179; obtain rfl : v179 = 0 := ev179.trans (by decide +kernel)
                              intro v180 ev180; obtain rfl : v180 = 0 := ev180.trans (by decide +kernel)
                              intro v181 ev181; obtain rfl : v181 = 0 := ev181.trans (by decide +kernel)
                              intro v182 ev182; obtain rfl : v182 = 0 := ev182.trans (by decide +kernel)
                              intro v183 ev183; obtain rfl : v183 = 0 := ev183.trans (by decide +kernel)
                              intro v184 ev184; obtain rfl : v184 = 0 := ev184.trans (by decide +kernel)
                              intro v185 ev185; obtain rfl : v185 = 0 := ev185.trans (by decide +kernel)
                              intro v186 ev186; obtain rfl : v186 = 0 := ev186.trans (by decide +kernel)
                              intro v187 ev187; obtain rfl : v187 = 0 := ev187.trans (by decide +kernel)
                              exact h _ (((((if_neg (by decide +kernel)).trans (if_neg (by decide +kernel))).trans (if_neg (fun q0 => absurd ((fa_lt p2 0).mp q0) (by have l_0 : (0 : Int32).toInt = 0 := (by decide); have l_1 : (10 : Int32).toInt = 10 := (by decide); have g_hc3 := mt (fa_lt p2 0).mpr hc3; have g_hc4 := (fa_le p2 10).mp hc4; omega)))).trans (if_neg (fun q0 => absurd ((fa_lt 10 p2).mp q0) (by have l_0 : (0 : Int32).toInt = 0 := (by decide); have l_1 : (10 : Int32).toInt = 10 := (by decide); have g_hc3 := mt (fa_lt p2 0).mpr hc3; have g_hc4 := (fa_le p2 10).mp hc4; omega)))).symm) _ _
                            · skip
                              intro v188 ev188; obtain rfl : v188 = 0 := ev188.trans (by decide +kernel)
                              intro v189 ev189; obtain rfl : v189 = 11 := ev189.trans (by decide +kernel)
                              intro v190 ev190; obtain rfl : v190 = 9 := ev190.trans (by decide +kernel)
                              refine Exists.intro 40 ?_
                              refine br_t (by decide +kernel) ?_
                              intro v191 ev191; obtain rfl : v191 = 0 := ev191.trans (by decide +kernel)
                              refine Exists.intro 40 ?_
                              refine br_t (by decide +kernel) ?_
                              refine br_t (by decide +kernel) ?_
                              intro v192 ev192; obtain rfl : v192 = 12 := ev192.trans (by decide +kernel)
                              refine And.intro (fun hc193 => ?_) (fun hc193 => ?_)
                              · skip
                                obtain rfl : p1 = 11 := (fa_eq _ _).mpr (by have l_0 : (1 : Int32).toInt = 1 := (by decide); have l_1 : (10 : Int32).toInt = 10 := (by decide); have l_2 : (11 : Int32).toInt = 11 := (by decide); have l_3 : (12 : Int32).toInt = 12 := (by decide); have l_4 : (2 : Int32).toInt = 2 := (by decide); have l_5 : (3 : Int32).toInt = 3 := (by decide); have l_6 : (30 : Int32).toInt = 30 := (by decide); have l_7 : (4 : Int32).toInt = 4 := (by decide); have l_8 : (5 : Int32).toInt = 5 := (by decide); have l_9 : (6 : Int32).toInt = 6 := (by decide); have l_10 : (7 : Int32).toInt = 7 := (by decide); have l_11 : (8 : Int32).toInt = 8 := (by decide); have l_12 : (9 : Int32).toInt = 9 := (by decide); have g_hc1 := mt (fa_lt p1 1).mpr hc1; have g_hc2 := mt (fa_lt 30 p1).mpr hc2; have g_hc13 := mt (fa_lt p1 2).mpr hc13; have g_hc31 := mt (fa_lt p1 3).mpr hc31; have g_hc49 := mt (fa_lt p1 4).mpr hc49; have g_hc67 := mt (fa_lt p1 5).mpr hc67; have g_hc85 := mt (fa_lt p1 6).mpr hc85; have g_hc103 := mt (fa_lt p1 7).mpr hc103; have g_hc121 := mt (fa_lt p1 8).mpr hc121; have g_hc139 := mt (fa_lt p1 9).mpr hc139; have g_hc157 := mt (fa_lt p1 10).mpr hc157; have g_hc175 := mt (fa_lt p1 11).mpr hc175; have g_hc193 := (fa_lt p1 12).mp hc193; omega)
                                refine Exists.intro 40 ?_
                                refine br_t (by decide +kernel) ?_
                                refine br_f (by decide +kernel) ?_
                                refine And.intro (g_in (by decide +kernel)) ?_
                                intro v194 ev194; obtain rfl : v194 = 1 := ev194.trans (by decide +kernel)
                                refine br_f (by decide +kernel) ?_
                                refine And.intro (g_in (by decide +kernel)) ?_
                                intro v195 ev195; obtain rfl : v195 = 2 := ev195.trans (by decide +kernel)
                                refine br_f (by decide +kernel) ?_
                                refine And.intro (g_in (by decide +kernel)) ?_
                                intro v196 ev196; obtain rfl : v196 = 3 := ev196.trans (by decide +kernel)
                                intro v197 ev197; obtain rfl : v197 = 0 := ev197.trans (by decide +kernel)
                                intro v198 ev198; obtain rfl : v198 = 0 := ev198.trans (by decide +kernel)
                                intro v199 ev199; obtain rfl : v199 = 0 := ev199.trans (by decide +kernel)
                                intro v200 ev200; obtain rfl : v200 = 0 := ev200.trans (by decide +kernel)
                                intro v201 ev201; obtain rfl : v201 = 0 := ev201.trans (by decide +kernel)
                                intro v202 ev202; obtain rfl : v202 = 0 := ev202.trans (by decide +kernel)
                                intro v203 ev203; obtain rfl : v203 = 0 := ev203.trans (by decide +kernel)
                                intro v204 ev204; obtain rfl : v204 = 0 := ev204.trans (by decide +kernel)
                                intro v205 ev205; obtain rfl : v205 = 0 := ev205.trans (by decide +kernel)
                                exact h _ (((((if_neg (by decide +kernel)).trans (if_neg (by decide +kernel))).trans (if_neg (fun q0 => absurd ((fa_lt p2 0).mp q0) (by have l_0 : (0 : Int32).toInt = 0 := (by decide); have l_1 : (10 : Int32).toInt = 10 := (by decide); have g_hc3 := mt (fa_lt p2 0).mpr hc3; have g_hc4 := (fa_le p2 10).mp hc4; omega)))).trans (if_neg (fun q0 => absurd ((fa_lt 10 p2).mp q0) (by have l_0 : (0 : Int32).toInt = 0 := (by decide); have l_1 : (10 : Int32).toInt = 10 := (by decide); have g_hc3 := mt (fa_lt p2 0).mpr hc3; have g_hc4 := (fa_le p2 10).mp hc4; omega)))).symm) _ _
                              · skip
                                intro v206 ev206; obtain rfl : v206 = 0 := ev206.trans (by decide +kernel)
                                intro v207 ev207; obtain rfl : v207 = 12 := ev207.trans (by decide +kernel)
                                intro v208 ev208; obtain rfl : v208 = 9 := ev208.trans (by decide +kernel)
                                refine Exists.intro 40 ?_
                                refine br_t (by decide +kernel) ?_
                                intro v209 ev209; obtain rfl : v209 = 0 := ev209.trans (by decide +kernel)
                                refine Exists.intro 40 ?_
                                refine br_t (by decide +kernel) ?_
                                refine br_t (by decide +kernel) ?_
                                intro v210 ev210; obtain rfl : v210 = 13 := ev210.trans (by decide +kernel)
                                refine And.intro (fun hc211 => ?_) (fun hc211 => ?_)
                                · skip
                                  obtain rfl : p1 = 12 := (fa_eq _ _).mpr (by have l_0 : (1 : Int32).toInt = 1 := (by decide); have l_1 : (10 : Int32).toInt = 10 := (by decide); have l_2 : (11 : Int32).toInt = 11 := (by decide); have l_3 : (12 : Int32).toInt = 12 := (by decide); have l_4 : (13 : Int32).toInt = 13 := (by decide); have l_5 : (2 : Int32).toInt = 2 := (by decide); have l_6 : (3 : Int32).toInt = 3 := (by decide); have l_7 : (30 : Int32).toInt = 30 := (by decide); have l_8 : (4 : Int32).toInt = 4 := (by decide); have l_9 : (5 : Int32).toInt = 5 := (by decide); have l_10 : (6 : Int32).toInt = 6 := (by decide); have l_11 : (7 : Int32).toInt = 7 := (by decide); have l_12 : (8 : Int32).toInt = 8 := (by decide); have l_13 : (9 : Int32).toInt = 9 := (by decide); have g_hc1 := mt (fa_lt p1 1).mpr hc1; have g_hc2 := mt (fa_lt 30 p1).mpr hc2; have g_hc13 := mt (fa_lt p1 2).mpr hc13; have g_hc31 := mt (fa_lt p1 3).mpr hc31; have g_hc49 := mt (fa_lt p1 4).mpr hc49; have g_hc67 := mt (fa_lt p1 5).mpr hc67; have g_hc85 := mt (fa_lt p1 6).mpr hc85; have g_hc103 := mt (fa_lt p1 7).mpr hc103; have g_hc121 := mt (fa_lt p1 8).mpr hc121; have g_hc139 := mt (fa_lt p1 9).mpr hc139; have g_hc157 := mt (fa_lt p1 10).mpr hc157; have g_hc175 := mt (fa_lt p1 11).mpr hc175; have g_hc193 := mt (fa_lt p1 12).mpr hc193; have g_hc211 := (fa_lt p1 13).mp hc211; omega)
                                  refine Exists.intro 40 ?_
                                  refine br_t (by decide +kernel) ?_
                                  refine br_f (by decide +kernel) ?_
                                  refine And.intro (g_in (by decide +kernel)) ?_
                                  intro v212 ev212; obtain rfl : v212 = 1 := ev212.trans (by decide +kernel)
                                  refine br_f (by decide +kernel) ?_
                                  refine And.intro (g_in (by decide +kernel)) ?_
                                  intro v213 ev213; obtain rfl : v213 = 2 := ev213.trans (by decide +kernel)
                                  refine br_f (by decide +kernel) ?_
                                  refine And.intro (g_in (by decide +kernel)) ?_
                                  intro v214 ev214; obtain rfl : v214 = 3 := ev214.trans (by decide +kernel)
                                  intro v215 ev215; obtain rfl : v215 = 0 := ev215.trans (by decide +kernel)
                                  intro v216 ev216; obtain rfl : v216 = 0 := ev216.trans (by decide +kernel)
                                  intro v217 ev217; obtain rfl : v217 = 0 := ev217.trans (by decide +kernel)
                                  intro v218 ev218; obtain rfl : v218 = 0 := ev218.trans (by decide +kernel)
                                  intro v219 ev219; obtain rfl : v219 = 0 := ev219.trans (by decide +kernel)
                                  intro v220 ev220; obtain rfl : v220 = 0 := ev220.trans (by decide +kernel)
                                  intro v221 ev221; obtain rfl : v221 = 0 := ev221.trans (by decide +kernel)
                                  intro v222 ev222; obtain rfl : v222 = 0 := ev222.trans (by decide +kernel)
                                  intro v223 ev223; obtain rfl : v223 = 0 := ev223.trans (by decide +kernel)
                                  exact h _ (((((if_neg (by decide +kernel)).trans (if_neg (by decide +kernel))).trans (if_neg (fun q0 => absurd ((fa_lt p2 0).mp q0) (by have l_0 : (0 : Int32).toInt = 0 := (by decide); have l_1 : (10 : Int32).toInt = 10 := (by decide); have g_hc3 := mt (fa_lt p2 0).mpr hc3; have g_hc4 := (fa_le p2 10).mp hc4; omega)))).trans (if_neg (fun q0 => absurd ((fa_lt 10 p2).mp q0) (by have l_0 : (0 : Int32).toInt = 0 := (by decide); have l_1 : (10 : Int32).toInt = 10 := (by decide); have g_hc3 := mt (fa_lt p2 0).mpr hc3; have g_hc4 := (fa_le p2 10).mp hc4; omega)))).symm) _ _
                                · skip
                                  intro v224 ev224; obtain rfl : v224 = 0 := ev224.trans (by decide +kernel)
                                  intro v225 ev225; obtain rfl : v225 = 13 := ev225.trans (by decide +kernel)
                                  intro v226 ev226; obtain rfl : v226 = 9 := ev226.trans (by decide +kernel)
                                  refine Exists.intro 40 ?_
                                  refine br_t (by decide +kernel) ?_
                                  intro v227 ev227; obtain rfl : v227 = 0 := ev227.trans (by decide +kernel)
                                  refine Exists.intro 40 ?_
                                  refine br_t (by decide +kernel) ?_
                                  refine br_t (by decide +kernel) ?_
                                  intro v228 ev228; obtain rfl : v228 = 14 := ev228.trans (by decide +kernel)
                                  refine And.intro (fun hc229 => ?_) (fun hc229 => ?_)
                                  · skip
                                    obtain rfl : p1 = 13 := (fa_eq _ _).mpr (by have l_0 : (1 : Int32).toInt = 1 := (by decide); have l_1 : (10 : Int32).toInt = 10 := (by decide); have l_2 : (11 : Int32).toInt = 11 := (by decide); have l_3 : (12 : Int32).toInt = 12 := (by decide); have l_4 : (13 : Int32).toInt = 13 := (by decide); have l_5 : (14 : Int32).toInt = 14 := (by decide); have l_6 : (2 : Int32).toInt = 2 := (by decide); have l_7 : (3 : Int32).toInt = 3 := (by decide); have l_8 : (30 : Int32).toInt = 30 := (by decide); have l_9 : (4 : Int32).toInt = 4 := (by decide); have l_10 : (5 : Int32).toInt = 5 := (by decide); have l_11 : (6 : Int32).toInt = 6 := (by decide); have l_12 : (7 : Int32).toInt = 7 := (by decide); have l_13 : (8 : Int32).toInt = 8 := (by decide); have l_14 : (9 : Int32).toInt = 9 := (by decide); have g_hc1 := mt (fa_lt p1 1).mpr hc1; have g_hc2 := mt (fa_lt 30 p1).mpr hc2; have g_hc13 := mt (fa_lt p1 2).mpr hc13; have g_hc31 := mt (fa_lt p1 3).mpr hc31; have g_hc49 := mt (fa_lt p1 4).mpr hc49; have g_hc67 := mt (fa_lt p1 5).mpr hc67; have g_hc85 := mt (fa_lt p1 6).mpr hc85; have g_hc103 := mt (fa_lt p1 7).mpr hc103; have g_hc121 := mt (fa_lt p1 8).mpr hc121; have g_hc139 := mt (fa_lt p1 9).mpr hc139; have g_hc157 := mt (fa_lt p1 10).mpr hc157; have g_hc175 := mt (fa_lt p1 11).mpr hc175; have g_hc193 := mt (fa_lt p1 12).mpr hc193; have g_hc211 := mt (fa_lt p1 13).mpr hc211; have g_hc229 := (fa_lt p1 14).mp hc229; omega)
                                    refine Exists.intro 40 ?_
                                    refine br_t (by decide +kernel) ?_
                                    refine br_f (by decide +kernel) ?_
                                    refine And.intro (g_in (by decide +kernel)) ?_
                                    intro v230 ev230; obtain rfl : v230 = 1 := ev230.trans (by decide +kernel)
                                    refine br_f (by decide +kernel) ?_
                                    refine And.intro (g_in (by decide +kernel)) ?_
                                    intro v231 ev231; obtain rfl : v231 = 2 := ev231.trans (by decide +kernel)
                                    refine br_f (by decide +kernel) ?_
                                    refine And.intro (g_in (by decide +kernel)) ?_
                                    intro v232 ev232; obtain rfl : v232 = 3 := ev232.trans (by decide +kernel)
                                    intro v233 ev233; obtain rfl : v233 = 0 := ev233.trans (by decide +kernel)
                                    intro v234 ev234; obtain rfl : v234 = 0 := ev234.trans (by decide +kernel)
                                    intro v235 ev235; obtain rfl : v235 = 0 := ev235.trans (by decide +kernel)
                                    intro v236 ev236; obtain rfl : v236 = 0 := ev236.trans (by decide +kernel)
                                    intro v237 ev237; obtain rfl : v237 = 0 := ev237.trans (by decide +kernel)
                                    intro v238 ev238; obtain rfl : v238 = 0 := ev238.trans (by decide +kernel)
                                    intro v239 ev239; obtain rfl : v239 = 0 := ev239.trans (by decide +kernel)
                                    intro v240 ev240; obtain rfl : v240 = 0 := ev240.trans (by decide +kernel)
                                    intro v241 ev241; obtain rfl : v241 = 0 := ev241.trans (by decide +kernel)
                                    exact h _ (((((if_neg (by decide +kernel)).trans (if_neg (by decide +kernel))).trans (if_neg (fun q0 => absurd ((fa_lt p2 0).mp q0) (by have l_0 : (0 : Int32).toInt = 0 := (by decide); have l_1 : (10 : Int32).toInt = 10 := (by decide); have g_hc3 := mt (fa_lt p2 0).mpr hc3; have g_hc4 := (fa_le p2 10).mp hc4; omega)))).trans (if_neg (fun q0 => absurd ((fa_lt 10 p2).mp q0) (by have l_0 : (0 : Int32).toInt = 0 := (by decide); have l_1 : (10 : Int32).toInt = 10 := (by decide); have g_hc3 := mt (fa_lt p2 0).mpr hc3; have g_hc4 := (fa_le p2 10).mp hc4; omega)))).symm) _ _
                                  · skip
                                    intro v242 ev242; obtain rfl : v242 = 0 := ev242.trans (by decide +kernel)
                                    intro v243 ev243; obtain rfl : v243 = 14 := ev243.trans (by decide +kernel)
                                    intro v244 ev244; obtain rfl : v244 = 9 := ev244.trans (by decide +kernel)
                                    refine Exists.intro 40 ?_
                                    refine br_t (by decide +kernel) ?_
                                    intro v245 ev245; obtain rfl : v245 = 0 := ev245.trans (by decide +kernel)
                                    refine Exists.intro 40 ?_
                                    refine br_t (by decide +kernel) ?_
                                    refine br_t (by decide +kernel) ?_
                                    intro v246 ev246; obtain rfl : v246 = 15 := ev246.trans (by decide +kernel)
                                    refine And.intro (fun hc247 => ?_) (fun hc247 => ?_)
                                    · skip
                                      obtain rfl : p1 = 14 := (fa_eq _ _).mpr (by have l_0 : (1 : Int32).toInt = 1 := (by decide); have l_1 : (10 : Int32).toInt = 10 := (by decide); have l_2 : (11 : Int32).toInt = 11 := (by decide); have l_3 : (12 : Int32).toInt = 12 := (by decide); have l_4 : (13 : Int32).toInt = 13 := (by decide); have l_5 : (14 : Int32).toInt = 14 := (by decide); have l_6 : (15 : Int32).toInt = 15 := (by decide); have l_7 : (2 : Int32).toInt = 2 := (by decide); have l_8 : (3 : Int32).toInt = 3 := (by decide); have l_9 : (30 : Int32).toInt = 30 := (by decide); have l_10 : (4 : Int32).toInt = 4 := (by decide); have l_11 : (5 : Int32).toInt = 5 := (by decide); have l_12 : (6 : Int32).toInt = 6 := (by decide); have l_13 : (7 : Int32).toInt = 7 := (by decide); have l_14 : (8 : Int32).toInt = 8 := (by decide); have l_15 : (9 : Int32).toInt = 9 := (by decide); have g_hc1 := mt (fa_lt p1 1).mpr hc1; have g_hc2 := mt (fa_lt 30 p1).mpr hc2; have g_hc13 := mt (fa_lt p1 2).mpr hc13; have g_hc31 := mt (fa_lt p1 3).mpr hc31; have g_hc49 := mt (fa_lt p1 4).mpr hc49; have g_hc67 := mt (fa_lt p1 5).mpr hc67; have g_hc85 := mt (fa_lt p1 6).mpr hc85; have g_hc103 := mt (fa_lt p1 7).mpr hc103; have g_hc121 := mt (fa_lt p1 8).mpr hc121; have g_hc139 := mt (fa_lt p1 9).mpr hc139; have g_hc157 := mt (fa_lt p1 10).mpr hc157; have g_hc175 := mt (fa_lt p1 11).mpr hc175; have g_hc193 := mt (fa_lt p1 12).mpr hc193; have g_hc211 := mt (fa_lt p1 13).mpr hc211; have g_hc229 := mt (fa_lt p1 14).mpr hc229; have g_hc247 := (fa_lt p1 15).mp hc247; omega)
                                      refine Exists.intro 40 ?_
                                      refine br_t (by decide +kernel) ?_
                                      refine br_f (by decide +kernel) ?_
                                      refine And.intro (g_in (by decide +kernel)) ?_
                                      intro v248 ev248; obtain rfl : v248 = 1 := ev248.trans (by decide +kernel)
                                      refine br_f (by decide +kernel) ?_
                                      refine And.intro (g_in (by decide +kernel)) ?_
                                      intro v249 ev249; obtain rfl : v249 = 2 := ev249.trans (by decide +kernel)
                                      refine br_f (by decide +kernel) ?_
                                      refine And.intro (g_in (by decide +kernel)) ?_
                                      intro v250 ev250; obtain rfl : v250 = 3 := ev250.trans (by decide +kernel)
                                      intro v251 ev251; obtain rfl : v251 = 0 := ev251.trans (by decide +kernel)
                                      intro v252 ev252; obtain rfl : v252 = 0 := ev252.trans (by decide +kernel)
                                      intro v253 ev253; obtain rfl : v253 = 0 := ev253.trans (by decide +kernel)
                                      intro v254 ev254; obtain rfl : v254 = 0 := ev254.trans (by decide +kernel)
                                      intro v255 ev255; obtain rfl : v255 = 0 := ev255.trans (by decide +kernel)
                                      intro v256 ev256; obtain rfl : v256 = 0 := ev256.trans (by decide +kernel)
                                      intro v257 ev257; obtain rfl : v257 = 0 := ev257.trans (by decide +kernel)
                                      intro v258 ev258; obtain rfl : v258 = 0 := ev258.trans (by decide +kernel)
                                      intro v259 ev259; obtain rfl : v259 = 0 := ev259.trans (by decide +kernel)
                                      exact h _ (((((if_neg (by decide +kernel)).trans (if_neg (by decide +kernel))).trans (if_neg (fun q0 => absurd ((fa_lt p2 0).mp q0) (by have l_0 : (0 : Int32).toInt = 0 := (by decide); have l_1 : (10 : Int32).toInt = 10 := (by decide); have g_hc3 := mt (fa_lt p2 0).mpr hc3; have g_hc4 := (fa_le p2 10).mp hc4; omega)))).trans (if_neg (fun q0 => absurd ((fa_lt 10 p2).mp q0) (by have l_0 : (0 : Int32).toInt = 0 := (by decide); have l_1 : (10 : Int32).toInt = 10 := (by decide); have g_hc3 := mt (fa_lt p2 0).mpr hc3; have g_hc4 := (fa_le p2 10).mp hc4; omega)))).symm) _ _
                                    · skip
                                      intro v260 ev260; obtain rfl : v260 = 0 := ev260.trans (by decide +kernel)
                                      intro v261 ev261; obtain rfl : v261 = 15 := ev261.trans (by decide +kernel)
                                      intro v262 ev262; obtain rfl : v262 = 9 := ev262.trans (by decide +kernel)
                                      refine Exists.intro 40 ?_
                                      refine br_t (by decide +kernel) ?_
                                      intro v263 ev263; obtain rfl : v263 = 0 := ev263.trans (by decide +kernel)
                                      refine Exists.intro 40 ?_
                                      refine br_t (by decide +kernel) ?_
                                      refine br_t (by decide +kernel) ?_
                                      intro v264 ev264; obtain rfl : v264 = 16 := ev264.trans (by decide +kernel)
                                      refine And.intro (fun hc265 => ?_) (fun hc265 => ?_)
                                      · skip
                                        obtain rfl : p1 = 15 := (fa_eq _ _).mpr (by have l_0 : (1 : Int32).toInt = 1 := (by decide); have l_1 : (10 : Int32).toInt = 10 := (by decide); have l_2 : (11 : Int32).toInt = 11 := (by decide); have l_3 : (12 : Int32).toInt = 12 := (by decide); have l_4 : (13 : Int32).toInt = 13 := (by decide); have l_5 : (14 : Int32).toInt = 14 := (by decide); have l_6 : (15 : Int32).toInt = 15 := (by decide); have l_7 : (16 : Int32).toInt = 16 := (by decide); have l_8 : (2 : Int32).toInt = 2 := (by decide); have l_9 : (3 : Int32).toInt = 3 := (by decide); have l_10 : (30 : Int32).toInt = 30 := (by decide); have l_11 : (4 : Int32).toInt = 4 := (by decide); have l_12 : (5 : Int32).toInt = 5 := (by decide); have l_13 : (6 : Int32).toInt = 6 := (by decide); have l_14 : (7 : Int32).toInt = 7 := (by decide); have l_15 : (8 : Int32).toInt = 8 := (by decide); have l_16 : (9 : Int32).toInt = 9 := (by decide); have g_hc1 := mt (fa_lt p1 1).mpr hc1; have g_hc2 := mt (fa_lt 30 p1).mpr hc2; have g_hc13 := mt (fa_lt p1 2).mpr hc13; have g_hc31 := mt (fa_lt p1 3).mpr hc31; have g_hc49 := mt (fa_lt p1 4).mpr hc49; have g_hc67 := mt (fa_lt p1 5).mpr hc67; have g_hc85 := mt (fa_lt p1 6).mpr hc85; have g_hc103 := mt (fa_lt p1 7).mpr hc103; have g_hc121 := mt (fa_lt p1 8).mpr hc121; have g_hc139 := mt (fa_lt p1 9).mpr hc139; have g_hc157 := mt (fa_lt p1 10).mpr hc157; have g_hc175 := mt (fa_lt p1 11).mpr hc175; have g_hc193 := mt (fa_lt p1 12).mpr hc193; have g_hc211 := mt (fa_lt p1 13).mpr hc211; have g_hc229 := mt (fa_lt p1 14).mpr hc229; have g_hc247 := mt (fa_lt p1 15).mpr hc247; have g_hc265 := (fa_lt p1 16).mp hc265; omega)
                                        refine Exists.intro 40 ?_
                                        refine br_t (by decide +kernel) ?_
                                        refine br_f (by decide +kernel) ?_
                                        refine And.intro (g_in (by decide +kernel)) ?_
                                        intro v266 ev266; obtain rfl : v266 = 1 := ev266.trans (by decide +kernel)
                                        refine br_f (by decide +kernel) ?_
                                        refine And.intro (g_in (by decide +kernel)) ?_
                                        intro v267 ev267; obtain rfl : v267 = 2 := ev267.trans (by decide +kernel)
                                        refine br_f (by decide +kernel) ?_
                                        refine And.intro (g_in (by decide +kernel)) ?_
                                        intro v268 ev268; obtain rfl : v268 = 3 := ev268.trans (by decide +kernel)
                                        intro v269 ev269; obtain rfl : v269 = 0 := ev269.trans (by decide +kernel)
                                        intro v270 ev270; obtain rfl : v270 = 0 := ev270.trans (by decide +kernel)
                                        intro v271 ev271; obtain rfl : v271 = 0 := ev271.trans (by decide +kernel)
                                        intro v272 ev272; obtain rfl : v272 = 0 := ev272.trans (by decide +kernel)
                                        intro v273 ev273; obtain rfl : v273 = 0 := ev273.trans (by decide +kernel)
                                        intro v274 ev274; obtain rfl : v274 = 0 := ev274.trans (by decide +kernel)
                                        intro v275 ev275; obtain rfl : v275 = 0 := ev275.trans (by decide +kernel)
                                        intro v276 ev276; obtain rfl : v276 = 0 := ev276.trans (by decide +kernel)
                                        intro v277 ev277; obtain rfl : v277 = 0 := ev277.trans (by decide +kernel)
                                        exact h _ (((((if_neg (by decide +kernel)).trans (if_neg (by decide +kernel))).trans (if_neg (fun q0 => absurd ((fa_lt p2 0).mp q0) (by have l_0 : (0 : Int32).toInt = 0 := (by decide); have l_1 : (10 : Int32).toInt = 10 := (by decide); have g_hc3 := mt (fa_lt p2 0).mpr hc3; have g_hc4 := (fa_le p2 10).mp hc4; omega)))).trans (if_neg (fun q0 => absurd ((fa_lt 10 p2).mp q0) (by have l_0 : (0 : Int32).toInt = 0 := (by decide); have l_1 : (10 : Int32).toInt = 10 := (by decide); have g_hc3 := mt (fa_lt p2 0).mpr hc3; have g_hc4 := (fa_le p2 10).mp hc4; omega)))).symm) _ _
                                      · skip
                                        intro v278 ev278; obtain rfl : v278 = 0 := ev278.trans (by decide +kernel)
                                        intro v279 ev279; obtain rfl : v279 = 16 := ev279.trans (by decide +kernel)
                                        intro v280 ev280; obtain rfl : v280 = 9 := ev280.trans (by decide +kernel)
                                        refine Exists.intro 40 ?_
                                        refine br_t (by decide +kernel) ?_
                                        intro v281 ev281; obtain rfl : v281 = 0 := ev281.trans (by decide +kernel)
                                        refine Exists.intro 40 ?_
                                        refine br_t (by decide +kernel) ?_
                                        refine br_t (by decide +kernel) ?_
                                        intro v282 ev282; obtain rfl : v282 = 17 := ev282.trans (by decide +kernel)
                                        refine And.intro (fun hc283 => ?_) (fun hc283 => ?_)
                                        · skip
                                          obtain rfl : p1 = 16 := (fa_eq _ _).mpr (by have l_0 : (1 : Int32).toInt = 1 := (by decide); have l_1 : (10 : Int32).toInt = 10 := (by decide); have l_2 : (11 : Int32).toInt = 11 := (by decide); have l_3 : (12 : Int32).toInt = 12 := (by decide); have l_4 : (13 : Int32).toInt = 13 := (by decide); have l_5 : (14 : Int32).toInt = 14 := (by decide); have l_6 : (15 : Int32).toInt = 15 := (by decide); have l_7 : (16 : Int32).toInt = 16 := (by decide); have l_8 : (17 : Int32).toInt = 17 := (by decide); have l_9 : (2 : Int32).toInt = 2 := (by decide); have l_10 : (3 : Int32).toInt = 3 := (by decide); have l_11 : (30 : Int32).toInt = 30 := (by decide); have l_12 : (4 : Int32).toInt = 4 := (by decide); have l_13 : (5 : Int32).toInt = 5 := (by decide); have l_14 : (6 : Int32).toInt = 6 := (by decide); have l_15 : (7 : Int32).toInt = 7 := (by decide); have l_16 : (8 : Int32).toInt = 8 := (by decide); have l_17 : (9 : Int32).toInt = 9 := (by decide); have g_hc1 := mt (fa_lt p1 1).mpr hc1; have g_hc2 := mt (fa_lt 30 p1).mpr hc2; have g_hc13 := mt (fa_lt p1 2).mpr hc13; have g_hc31 := mt (fa_lt p1 3).mpr hc31; have g_hc49 := mt (fa_lt p1 4).mpr hc49; have g_hc67 := mt (fa_lt p1 5).mpr hc67; have g_hc85 := mt (fa_lt p1 6).mpr hc85; have g_hc103 := mt (fa_lt p1 7).mpr hc103; have g_hc121 := mt (fa_lt p1 8).mpr hc121; have g_hc139 := mt (fa_lt p1 9).mpr hc139; have g_hc157 := mt (fa_lt p1 10).mpr hc157; have g_hc175 := mt (fa_lt p1 11).mpr hc175; have g_hc193 := mt (fa_lt p1 12).mpr hc193; have g_hc211 := mt (fa_lt p1 13).mpr hc211; have g_hc229 := mt (fa_lt p1 14).mpr hc229; have g_hc247 := mt (fa_lt p1 15).mpr hc247; have g_hc265 := mt (fa_lt p1 16).mpr hc265; have g_hc283 := (fa_lt p1 17).mp hc283; omega)
                                          refine Exists.intro 40 ?_
                                          refine br_t (by decide +kernel) ?_
                                          refine br_f (by decide +kernel) ?_
                                          refine And.intro (g_in (by decide +kernel)) ?_
                                          intro v284 ev284; obtain rfl : v284 = 1 := ev284.trans (by decide +kernel)
                                          refine br_f (by decide +kernel) ?_
                                          refine And.intro (g_in (by decide +kernel)) ?_
                                          intro v285 ev285; obtain rfl : v285 = 2 := ev285.trans (by decide +kernel)
                                          refine br_f (by decide +kernel) ?_
                                          refine And.intro (g_in (by decide +kernel)) ?_
                                          intro v286 ev286; obtain rfl : v286 = 3 := ev286.trans (by decide +kernel)
                                          intro v287 ev287; obtain rfl : v287 = 0 := ev287.trans (by decide +kernel)
                                          intro v288 ev288; obtain rfl : v288 = 0 := ev288.trans (by decide +kernel)
                                          intro v289 ev289; obtain rfl : v289 = 0 := ev289.trans (by decide +kernel)
                                          intro v290 ev290; obtain rfl : v290 = 0 := ev290.trans (by decide +kernel)
                                          intro v291 ev291; obtain rfl : v291 = 0 := ev291.trans (by decide +kernel)
                                          intro v292 ev292; obtain rfl : v292 = 0 := ev292.trans (by decide +kernel)
                                          intro v293 ev293; obtain rfl : v293 = 0 := ev293.trans (by decide +kernel)
                                          intro v294 ev294; obtain rfl : v294 = 0 := ev294.trans (by decide +kernel)
                                          intro v295 ev295; obtain rfl : v295 = 0 := ev295.trans (by decide +kernel)
                                          exact h _ (((((if_neg (by decide +kernel)).trans (if_neg (by decide +kernel))).trans (if_neg (fun q0 => absurd ((fa_lt p2 0).mp q0) (by have l_0 : (0 : Int32).toInt = 0 := (by decide); have l_1 : (10 : Int32).toInt = 10 := (by decide); have g_hc3 := mt (fa_lt p2 0).mpr hc3; have g_hc4 := (fa_le p2 10).mp hc4; omega)))).trans (if_neg (fun q0 => absurd ((fa_lt 10 p2).mp q0) (by have l_0 : (0 : Int32).toInt = 0 := (by decide); have l_1 : (10 : Int32).toInt = 10 := (by decide); have g_hc3 := mt (fa_lt p2 0).mpr hc3; have g_hc4 := (fa_le p2 10).mp hc4; omega)))).symm) _ _
                                        · skip
                                          intro v296 ev296; obtain rfl : v296 = 0 := ev296.trans (by decide +kernel)
                                          intro v297 ev297; obtain rfl : v297 = 17 := ev297.trans (by decide +kernel)
                                          intro v298 ev298; obtain rfl : v298 = 9 := ev298.trans (by decide +kernel)
                                          refine Exists.intro 40 ?_
                                          refine br_t (by decide +kernel) ?_
                                          intro v299 ev299; obtain rfl : v299 = 0 := ev299.trans (by decide +kernel)
                                          refine Exists.intro 40 ?_
                                          refine br_t (by decide +kernel) ?_
                                          refine br_t (by decide +kernel) ?_
                                          intro v300 ev300; obtain rfl : v300 = 18 := ev300.trans (by decide +kernel)
                                          refine And.intro (fun hc301 => ?_) (fun hc301 => ?_)
                                          · skip
                                            obtain rfl : p1 = 17 := (fa_eq _ _).mpr (by have l_0 : (1 : Int32).toInt = 1 := (by decide); have l_1 : (10 : Int32).toInt = 10 := (by decide); have l_2 : (11 : Int32).toInt = 11 := (by decide); have l_3 : (12 : Int32).toInt = 12 := (by decide); have l_4 : (13 : Int32).toInt = 13 := (by decide); have l_5 : (14 : Int32).toInt = 14 := (by decide); have l_6 : (15 : Int32).toInt = 15 := (by decide); have l_7 : (16 : Int32).toInt = 16 := (by decide); have l_8 : (17 : Int32).toInt = 17 := (by decide); have l_9 : (18 : Int32).toInt = 18 := (by decide); have l_10 : (2 : Int32).toInt = 2 := (by decide); have l_11 : (3 : Int32).toInt = 3 := (by decide); have l_12 : (30 : Int32).toInt = 30 := (by decide); have l_13 : (4 : Int32).toInt = 4 := (by decide); have l_14 : (5 : Int32).toInt = 5 := (by decide); have l_15 : (6 : Int32).toInt = 6 := (by decide); have l_16 : (7 : Int32).toInt = 7 := (by decide); have l_17 : (8 : Int32).toInt = 8 := (by decide); have l_18 : (9 : Int32).toInt = 9 := (by decide); have g_hc1 := mt (fa_lt p1 1).mpr hc1; have g_hc2 := mt (fa_lt 30 p1).mpr hc2; have g_hc13 := mt (fa_lt p1 2).mpr hc13; have g_hc31 := mt (fa_lt p1 3).mpr hc31; have g_hc49 := mt (fa_lt p1 4).mpr hc49; have g_hc67 := mt (fa_lt p1 5).mpr hc67; have g_hc85 := mt (fa_lt p1 6).mpr hc85; have g_hc103 := mt (fa_lt p1 7).mpr hc103; have g_hc121 := mt (fa_lt p1 8).mpr hc121; have g_hc139 := mt (fa_lt p1 9).mpr hc139; have g_hc157 := mt (fa_lt p1 10).mpr hc157; have g_hc175 := mt (fa_lt p1 11).mpr hc175; have g_hc193 := mt (fa_lt p1 12).mpr hc193; have g_hc211 := mt (fa_lt p1 13).mpr hc211; have g_hc229 := mt (fa_lt p1 14).mpr hc229; have g_hc247 := mt (fa_lt p1 15).mpr hc247; have g_hc265 := mt (fa_lt p1 16).mpr hc265; have g_hc283 := mt (fa_lt p1 17).mpr hc283; have g_hc301 := (fa_lt p1 18).mp hc301; omega)
                                            refine Exists.intro 40 ?_
                                            refine br_t (by decide +kernel) ?_
                                            refine br_f (by decide +kernel) ?_
                                            refine And.intro (g_in (by decide +kernel)) ?_
                                            intro v302 ev302; obtain rfl : v302 = 1 := ev302.trans (by decide +kernel)
                                            refine br_f (by decide +kernel) ?_
                                            refine And.intro (g_in (by decide +kernel)) ?_
                                            intro v303 ev303; obtain rfl : v303 = 2 := ev303.trans (by decide +kernel)
                                            refine br_f (by decide +kernel) ?_
                                            refine And.intro (g_in (by decide +kernel)) ?_
                                            intro v304 ev304; obtain rfl : v304 = 3 := ev304.trans (by decide +kernel)
                                            intro v305 ev305; obtain rfl : v305 = 0 := ev305.trans (by decide +kernel)
                                            intro v306 ev306; obtain rfl : v306 = 0 := ev306.trans (by decide +kernel)
                                            intro v307 ev307; obtain rfl : v307 = 0 := ev307.trans (by decide +kernel)
                                            intro v308 ev308; obtain rfl : v308 = 0 := ev308.trans (by decide +kernel)
                                            intro v309 ev309; obtain rfl : v309 = 0 := ev309.trans (by decide +kernel)
                                            intro v310 ev310; obtain rfl : v310 = 0 := ev310.trans (by decide +kernel)
                                            intro v311 ev311; obtain rfl : v311 = 0 := ev311.trans (by decide +kernel)
                                            intro v312 ev312; obtain rfl : v312 = 0 := ev312.trans (by decide +kernel)
                                            intro v313 ev313; obtain rfl : v313 = 0 := ev313.trans (by decide +kernel)
                                            exact h _ (((((if_neg (by decide +kernel)).trans (if_neg (by decide +kernel))).trans (if_neg (fun q0 => absurd ((fa_lt p2 0).mp q0) (by have l_0 : (0 : Int32).toInt = 0 := (by decide); have l_1 : (10 : Int32).toInt = 10 := (by decide); have g_hc3 := mt (fa_lt p2 0).mpr hc3; have g_hc4 := (fa_le p2 10).mp hc4; omega)))).trans (if_neg (fun q0 => absurd ((fa_lt 10 p2).mp q0) (by have l_0 : (0 : Int32).toInt = 0 := (by decide); have l_1 : (10 : Int32).toInt = 10 := (by decide); have g_hc3 := mt (fa_lt p2 0).mpr hc3; have g_hc4 := (fa_le p2 10).mp hc4; omega)))).symm) _ _
                                          · skip
                                            intro v314 ev314; obtain rfl : v314 = 0 := ev314.trans (by decide +kernel)
                                            intro v315 ev315; obtain rfl : v315 = 18 := ev315.trans (by decide +kernel)
                                            intro v316 ev316; obtain rfl : v316 = 9 := ev316.trans (by decide +kernel)
                                            refine Exists.intro 40 ?_
                                            refine br_t (by decide +kernel) ?_
                                            intro v317 ev317; obtain rfl : v317 = 0 := ev317.trans (by decide +kernel)
                                            refine Exists.intro 40 ?_
                                            refine br_t (by decide +kernel) ?_
                                            refine br_t (by decide +kernel) ?_
                                            intro v318 ev318; obtain rfl : v318 = 19 := ev318.trans (by decide +kernel)
                                            refine And.intro (fun hc319 => ?_) (fun hc319 => ?_)
                                            · skip
                                              obtain rfl : p1 = 18 := (fa_eq _ _).mpr (by have l_0 : (1 : Int32).toInt = 1 := (by decide); have l_1 : (10 : Int32).toInt = 10 := (by decide); have l_2 : (11 : Int32).toInt = 11 := (by decide); have l_3 : (12 : Int32).toInt = 12 := (by decide); have l_4 : (13 : Int32).toInt = 13 := (by decide); have l_5 : (14 : Int32).toInt = 14 := (by decide); have l_6 : (15 : Int32).toInt = 15 := (by decide); have l_7 : (16 : Int32).toInt = 16 := (by decide); have l_8 : (17 : Int32).toInt = 17 := (by decide); have l_9 : (18 : Int32).toInt = 18 := (by decide); have l_10 : (19 : Int32).toInt = 19 := (by decide); have l_11 : (2 : Int32).toInt = 2 := (by decide); have l_12 : (3 : Int32).toInt = 3 := (by decide); have l_13 : (30 : Int32).toInt = 30 := (by decide); have l_14 : (4 : Int32).toInt = 4 := (by decide); have l_15 : (5 : Int32).toInt = 5 := (by decide); have l_16 : (6 : Int32).toInt = 6 := (by decide); have l_17 : (7 : Int32).toInt = 7 := (by decide); have l_18 : (8 : Int32).toInt = 8 := (by decide); have l_19 : (9 : Int32).toInt = 9 := (by decide); have g_hc1 := mt (fa_lt p1 1).mpr hc1; have g_hc2 := mt (fa_lt 30 p1).mpr hc2; have g_hc13 := mt (fa_lt p1 2).mpr hc13; have g_hc31 := mt (fa_lt p1 3).mpr hc31; have g_hc49 := mt (fa_lt p1 4).mpr hc49; have g_hc67 := mt (fa_lt p1 5).mpr hc67; have g_hc85 := mt (fa_lt p1 6).mpr hc85; have g_hc103 := mt (fa_lt p1 7).mpr hc103; have g_hc121 := mt (fa_lt p1 8).mpr hc121; have g_hc139 := mt (fa_lt p1 9).mpr hc139; have g_hc157 := mt (fa_lt p1 10).mpr hc157; have g_hc175 := mt (fa_lt p1 11).mpr hc175; have g_hc193 := mt (fa_lt p1 12).mpr hc193; have g_hc211 := mt (fa_lt p1 13).mpr hc211; have g_hc229 := mt (fa_lt p1 14).mpr hc229; have g_hc247 := mt (fa_lt p1 15).mpr hc247; have g_hc265 := mt (fa_lt p1 16).mpr hc265; have g_hc283 := mt (fa_lt p1 17).mpr hc283; have g_hc301 := mt (fa_lt p1 18).mpr hc301; have g_hc319 := (fa_lt p1 19).mp hc319; omega)
                                              refine Exists.intro 40 ?_
                                              refine br_t (by decide +kernel) ?_
                                              refine br_f (by decide +kernel) ?_
                                              refine And.intro (g_in (by decide +kernel)) ?_
                                              intro v320 ev320; obtain rfl : v320 = 1 := ev320.trans (by decide +kernel)
                                              refine br_f (by decide +kernel) ?_
                                              refine And.intro (g_in (by decide +kernel)) ?_
                                              intro v321 ev321; obtain rfl : v321 = 2 := ev321.trans (by decide +kernel)
                                              refine br_f (by decide +kernel) ?_
                                              refine And.intro (g_in (by decide +kernel)) ?_
                                              intro v322 ev322; obtain rfl : v322 = 3 := ev322.trans (by decide +kernel)
                                              intro v323 ev323; obtain rfl : v323 = 0 := ev323.trans (by decide +kernel)
                                              intro v324 ev324; obtain rfl : v324 = 0 := ev324.trans (by decide +kernel)
                                              intro v325 ev325; obtain rfl : v325 = 0 := ev325.trans (by decide +kernel)
                                              intro v326 ev326; obtain rfl : v326 = 0 := ev326.trans (by decide +kernel)
                                              intro v327 ev327; obtain rfl : v327 = 0 := ev327.trans (by decide +kernel)
                                              intro v328 ev328; obtain rfl : v328 = 0 := ev328.trans (by decide +kernel)
                                              intro v329 ev329; obtain rfl : v329 = 0 := ev329.trans (by decide +kernel)
                                              intro v330 ev330; obtain rfl : v330 = 0 := ev330.trans (by decide +kernel)
                                              intro v331 ev331; obtain rfl : v331 = 0 := ev331.trans (by decide +kernel)
                                              exact h _ (((((if_neg (by decide +kernel)).trans (if_neg (by decide +kernel))).trans (if_neg (fun q0 => absurd ((fa_lt p2 0).mp q0) (by have l_0 : (0 : Int32).toInt = 0 := (by decide); have l_1 : (10 : Int32).toInt = 10 := (by decide); have g_hc3 := mt (fa_lt p2 0).mpr hc3; have g_hc4 := (fa_le p2 10).mp hc4; omega)))).trans (if_neg (fun q0 => absurd ((fa_lt 10 p2).mp q0) (by have l_0 : (0 : Int32).toInt = 0 := (by decide); have l_1 : (10 : Int32).toInt = 10 := (by decide); have g_hc3 := mt (fa_lt p2 0).mpr hc3; have g_hc4 := (fa_le p2 10).mp hc4; omega)))).symm) _ _
                                            · skip
                                              intro v332 ev332; obtain rfl : v332 = 0 := ev332.trans (by decide +kernel)
                                              intro v333 ev333; obtain rfl : v333 = 19 := ev333.trans (by decide +kernel)
                                              intro v334 ev334; obtain rfl : v334 = 9 := ev334.trans (by decide +kernel)
                                              refine Exists.intro 40 ?_
                                              refine br_t (by decide +kernel) ?_
                                              intro v335 ev335; obtain rfl : v335 = 0 := ev335.trans (by decide +kernel)
                                              refine Exists.intro 40 ?_
                                              refine br_t (by decide +kernel) ?_
                                              refine br_t (by decide +kernel) ?_
                                              intro v336 ev336; obtain rfl : v336 = 20 := ev336.trans (by decide +kernel)
                                              refine And.intro (fun hc337 => ?_) (fun hc337 => ?_)
                                              · skip
                                                obtain rfl : p1 = 19 := (fa_eq _ _).mpr (by have l_0 : (1 : Int32).toInt = 1 := (by decide); have l_1 : (10 : Int32).toInt = 10 := (by decide); have l_2 : (11 : Int32).toInt = 11 := (by decide); have l_3 : (12 : Int32).toInt = 12 := (by decide); have l_4 : (13 : Int32).toInt = 13 := (by decide); have l_5 : (14 : Int32).toInt = 14 := (by decide); have l_6 : (15 : Int32).toInt = 15 := (by decide); have l_7 : (16 : Int32).toInt = 16 := (by decide); have l_8 : (17 : Int32).toInt = 17 := (by decide); have l_9 : (18 : Int32).toInt = 18 := (by decide); have l_10 : (19 : Int32).toInt = 19 := (by decide); have l_11 : (2 : Int32).toInt = 2 := (by decide); have l_12 : (20 : Int32).toInt = 20 := (by decide); have l_13 : (3 : Int32).toInt = 3 := (by decide); have l_14 : (30 : Int32).toInt = 30 := (by decide); have l_15 : (4 : Int32).toInt = 4 := (by decide); have l_16 : (5 : Int32).toInt = 5 := (by decide); have l_17 : (6 : Int32).toInt = 6 := (by decide); have l_18 : (7 : Int32).toInt = 7 := (by decide); have l_19 : (8 : Int32).toInt = 8 := (by decide); have l_20 : (9 : Int32).toInt = 9 := (by decide); have g_hc1 := mt (fa_lt p1 1).mpr hc1; have g_hc2 := mt (fa_lt 30 p1).mpr hc2; have g_hc13 := mt (fa_lt p1 2).mpr hc13; have g_hc31 := mt (fa_lt p1 3).mpr hc31; have g_hc49 := mt (fa_lt p1 4).mpr hc49; have g_hc67 := mt (fa_lt p1 5).mpr hc67; have g_hc85 := mt (fa_lt p1 6).mpr hc85; have g_hc103 := mt (fa_lt p1 7).mpr hc103; have g_hc121 := mt (fa_lt p1 8).mpr hc121; have g_hc139 := mt (fa_lt p1 9).mpr hc139; have g_hc157 := mt (fa_lt p1 10).mpr hc157; have g_hc175 := mt (fa_lt p1 11).mpr hc175; have g_hc193 := mt (fa_lt p1 12).mpr hc193; have g_hc211 := mt (fa_lt p1 13).mpr hc211; have g_hc229 := mt (fa_lt p1 14).mpr hc229; have g_hc247 := mt (fa_lt p1 15).mpr hc247; have g_hc265 := mt (fa_lt p1 16).mpr hc265; have g_hc283 := mt (fa_lt p1 17).mpr hc283; have g_hc301 := mt (fa_lt p1 18).mpr hc301; have g_hc319 := mt (fa_lt p1 19).mpr hc319; have g_hc337 := (fa_lt p1 20).mp hc337; omega)
                                                refine Exists.intro 40 ?_
                                                refine br_t (by decide +kernel) ?_
                                                refine br_f (by decide +kernel) ?_
                                                refine And.intro (g_in (by decide +kernel)) ?_
                                                intro v338 ev338; obtain rfl : v338 = 1 := ev338.trans (by decide +kernel)
                                                refine br_f (by decide +kernel) ?_
                                                refine And.intro (g_in (by decide +kernel)) ?_
                                                intro v339 ev339; obtain rfl : v339 = 2 := ev339.trans (by decide +kernel)
                                                refine br_f (by decide +kernel) ?_
                                                refine And.intro (g_in (by decide +kernel)) ?_
                                                intro v340 ev340; obtain rfl : v340 = 3 := ev340.trans (by decide +kernel)
                                                intro v341 ev341; obtain rfl : v341 = 0 := ev341.trans (by decide +kernel)
                                                intro v342 ev342; obtain rfl : v342 = 0 := ev342.trans (by decide +kernel)
                                                intro v343 ev343; obtain rfl : v343 = 0 := ev343.trans (by decide +kernel)
                                                intro v344 ev344; obtain rfl : v344 = 0 := ev344.trans (by decide +kernel)
                                                intro v345 ev345; obtain rfl : v345 = 0 := ev345.trans (by decide +kernel)
                                                intro v346 ev346; obtain rfl : v346 = 0 := ev346.trans (by decide +kernel)
                                                intro v347 ev347; obtain rfl : v347 = 0 := ev347.trans (by decide +kernel)
                                                intro v348 ev348; obtain rfl : v348 = 0 := ev348.trans (by decide +kernel)
                                                intro v349 ev349; obtain rfl : v349 = 0 := ev349.trans (by decide +kernel)
                                                exact h _ (((((if_neg (by decide +kernel)).trans (if_neg (by decide +kernel))).trans (if_neg (fun q0 => absurd ((fa_lt p2 0).mp q0) (by have l_0 : (0 : Int32).toInt = 0 := (by decide); have l_1 : (10 : Int32).toInt = 10 := (by decide); have g_hc3 := mt (fa_lt p2 0).mpr hc3; have g_hc4 := (fa_le p2 10).mp hc4; omega)))).trans (if_neg (fun q0 => absurd ((fa_lt 10 p2).mp q0) (by have l_0 : (0 : Int32).toInt = 0 := (by decide); have l_1 : (10 : Int32).toInt = 10 := (by decide); have g_hc3 := mt (fa_lt p2 0).mpr hc3; have g_hc4 := (fa_le p2 10).mp hc4; omega)))).symm) _ _
                                              · skip
                                                intro v350 ev350; obtain rfl : v350 = 0 := ev350.trans (by decide +kernel)
                                                intro v351 ev351; obtain rfl : v351 = 20 := ev351.trans (by decide +kernel)
                                                intro v352 ev352; obtain rfl : v352 = 9 := ev352.trans (by decide +kernel)
                                                refine Exists.intro 40 ?_
                                                refine br_t (by decide +kernel) ?_
                                                intro v353 ev353; obtain rfl : v353 = 0 := ev353.trans (by decide +kernel)
                                                refine Exists.intro 40 ?_
                                                refine br_t (by decide +kernel) ?_
                                                refine br_t (by decide +kernel) ?_
                                                intro v354 ev354; obtain rfl : v354 = 21 := ev354.trans (by decide +kernel)
                                                refine And.intro (fun hc355 => ?_) (fun hc355 => ?_)
                                                · skip
                                                  obtain rfl : p1 = 20 := (fa_eq _ _).mpr (by have l_0 : (1 : Int32).toInt = 1 := (by decide); have l_1 : (10 : Int32).toInt = 10 := (by decide); have l_2 : (11 : Int32).toInt = 11 := (by decide); have l_3 : (12 : Int32).toInt = 12 := (by decide); have l_4 : (13 : Int32).toInt = 13 := (by decide); have l_5 : (14 : Int32).toInt = 14 := (by decide); have l_6 : (15 : Int32).toInt = 15 := (by decide); have l_7 : (16 : Int32).toInt = 16 := (by decide); have l_8 : (17 : Int32).toInt = 17 := (by decide); have l_9 : (18 : Int32).toInt = 18 := (by decide); have l_10 : (19 : Int32).toInt = 19 := (by decide); have l_11 : (2 : Int32).toInt = 2 := (by decide); have l_12 : (20 : Int32).toInt = 20 := (by decide); have l_13 : (21 : Int32).toInt = 21 := (by decide); have l_14 : (3 : Int32).toInt = 3 := (by decide); have l_15 : (30 : Int32).toInt = 30 := (by decide); have l_16 : (4 : Int32).toInt = 4 := (by decide); have l_17 : (5 : Int32).toInt = 5 := (by decide); have l_18 : (6 : Int32).toInt = 6 := (by decide); have l_19 : (7 : Int32).toInt = 7 := (by decide); have l_20 : (8 : Int32).toInt = 8 := (by decide); have l_21 : (9 : Int32).toInt = 9 := (by decide); have g_hc1 := mt (fa_lt p1 1).mpr hc1; have g_hc2 := mt (fa_lt 30 p1).mpr hc2; have g_hc13 := mt (fa_lt p1 2).mpr hc13; have g_hc31 := mt (fa_lt p1 3).mpr hc31; have g_hc49 := mt (fa_lt p1 4).mpr hc49; have g_hc67 := mt (fa_lt p1 5).mpr hc67; have g_hc85 := mt (fa_lt p1 6).mpr hc85; have g_hc103 := mt (fa_lt p1 7).mpr hc103; have g_hc121 := mt (fa_lt p1 8).mpr hc121; have g_hc139 := mt (fa_lt p1 9).mpr hc139; have g_hc157 := mt (fa_lt p1 10).mpr hc157; have g_hc175 := mt (fa_lt p1 11).mpr hc175; have g_hc193 := mt (fa_lt p1 12).mpr hc193; have g_hc211 := mt (fa_lt p1 13).mpr hc211; have g_hc229 := mt (fa_lt p1 14).mpr hc229; have g_hc247 := mt (fa_lt p1 15).mpr hc247; have g_hc265 := mt (fa_lt p1 16).mpr hc265; have g_hc283 := mt (fa_lt p1 17).mpr hc283; have g_hc301 := mt (fa_lt p1 18).mpr hc301; have g_hc319 := mt (fa_lt p1 19).mpr hc319; have g_hc337 := mt (fa_lt p1 20).mpr hc337; have g_hc355 := (fa_lt p1 21).mp hc355; omega)
                                                  refine Exists.intro 40 ?_
                                                  refine br_t (by decide +kernel) ?_
                                                  refine br_f (by decide +kernel) ?_
                                                  refine And.intro (g_in (by decide +kernel)) ?_
                                                  intro v356 ev356; obtain rfl : v356 = 1 := ev356.trans (by decide +kernel)
                                                  refine br_f (by decide +kernel) ?_
                                                  refine And.intro (g_in (by decide +kernel)) ?_
                                                  intro v357 ev357; obtain rfl : v357 = 2 := ev357.trans (by decide +kernel)
                                                  refine br_f (by decide +kernel) ?_
                                                  refine And.intro (g_in (by decide +kernel)) ?_
                                                  intro v358 ev358; obtain rfl : v358 = 3 := ev358.trans (by decide +kernel)
                                                  intro v359 ev359; obtain rfl : v359 = 0 := ev359.trans (by decide +kernel)
                                                  intro v360 ev360; obtain rfl : v360 = 0 := ev360.trans (by decide +kernel)
                                                  intro v361 ev361; obtain rfl : v361 = 0 := ev361.trans (by decide +kernel)
                                                  intro v362 ev362; obtain rfl : v362 = 0 := ev362.trans (by decide +kernel)
                                                  intro v363 ev363; obtain rfl : v363 = 0 := ev363.trans (by decide +kernel)
                                                  intro v364 ev364; obtain rfl : v364 = 0 := ev364.trans (by decide +kernel)
                                                  intro v365 ev365; obtain rfl : v365 = 0 := ev365.trans (by decide +kernel)
                                                  intro v366 ev366; obtain rfl : v366 = 0 := ev366.trans (by decide +kernel)
                                                  intro v367 ev367; obtain rfl : v367 = 0 := ev367.trans (by decide +kernel)
                                                  exact h _ (((((if_neg (by decide +kernel)).trans (if_neg (by decide +kernel))).trans (if_neg (fun q0 => absurd ((fa_lt p2 0).mp q0) (by have l_0 : (0 : Int32).toInt = 0 := (by decide); have l_1 : (10 : Int32).toInt = 10 := (by decide); have g_hc3 := mt (fa_lt p2 0).mpr hc3; have g_hc4 := (fa_le p2 10).mp hc4; omega)))).trans (if_neg (fun q0 => absurd ((fa_lt 10 p2).mp q0) (by have l_0 : (0 : Int32).toInt = 0 := (by decide); have l_1 : (10 : Int32).toInt = 10 := (by decide); have g_hc3 := mt (fa_lt p2 0).mpr hc3; have g_hc4 := (fa_le p2 10).mp hc4; omega)))).symm) _ _
                                                · skip
                                                  intro v368 ev368; obtain rfl : v368 = 0 := ev368.trans (by decide +kernel)
                                                  intro v369 ev369; obtain rfl : v369 = 21 := ev369.trans (by decide +kernel)
                                                  intro v370 ev370; obtain rfl : v370 = 9 := ev370.trans (by decide +kernel)
                                                  refine Exists.intro 40 ?_
                                                  refine br_t (by decide +kernel) ?_
                                                  intro v371 ev371; obtain rfl : v371 = 0 := ev371.trans (by decide +kernel)
                                                  refine Exists.intro 40 ?_
                                                  refine br_t (by decide +kernel) ?_
                                                  refine br_t (by decide +kernel) ?_
                                                  intro v372 ev372; obtain rfl : v372 = 22 := ev372.trans (by decide +kernel)
                                                  refine And.intro (fun hc373 => ?_) (fun hc373 => ?_)
                                                  · skip
                                                    obtain rfl : p1 = 21 := (fa_eq _ _).mpr (by have l_0 : (1 : Int32).toInt = 1 := (by decide); have l_1 : (10 : Int32).toInt = 10 := (by decide); have l_2 : (11 : Int32).toInt = 11 := (by decide); have l_3 : (12 : Int32).toInt = 12 := (by decide); have l_4 : (13 : Int32).toInt = 13 := (by decide); have l_5 : (14 : Int32).toInt = 14 := (by decide); have l_6 : (15 : Int32).toInt = 15 := (by decide); have l_7 : (16 : Int32).toInt = 16 := (by decide); have l_8 : (17 : Int32).toInt = 17 := (by decide); have l_9 : (18 : Int32).toInt = 18 := (by decide); have l_10 : (19 : Int32).toInt = 19 := (by decide); have l_11 : (2 : Int32).toInt = 2 := (by decide); have l_12 : (20 : Int32).toInt = 20 := (by decide); have l_13 : (21 : Int32).toInt = 21 := (by decide); have l_14 : (22 : Int32).toInt = 22 := (by decide); have l_15 : (3 : Int32).toInt = 3 := (by decide); have l_16 : (30 : Int32).toInt = 30 := (by decide); have l_17 : (4 : Int32).toInt = 4 := (by decide); have l_18 : (5 : Int32).toInt = 5 := (by decide); have l_19 : (6 : Int32).toInt = 6 := (by decide); have l_20 : (7 : Int32).toInt = 7 := (by decide); have l_21 : (8 : Int32).toInt = 8 := (by decide); have l_22 : (9 : Int32).toInt = 9 := (by decide); have g_hc1 := mt (fa_lt p1 1).mpr hc1; have g_hc2 := mt (fa_lt 30 p1).mpr hc2; have g_hc13 := mt (fa_lt p1 2).mpr hc13; have g_hc31 := mt (fa_lt p1 3).mpr hc31; have g_hc49 := mt (fa_lt p1 4).mpr hc49; have g_hc67 := mt (fa_lt p1 5).mpr hc67; have g_hc85 := mt (fa_lt p1 6).mpr hc85; have g_hc103 := mt (fa_lt p1 7).mpr hc103; have g_hc121 := mt (fa_lt p1 8).mpr hc121; have g_hc139 := mt (fa_lt p1 9).mpr hc139; have g_hc157 := mt (fa_lt p1 10).mpr hc157; have g_hc175 := mt (fa_lt p1 11).mpr hc175; have g_hc193 := mt (fa_lt p1 12).mpr hc193; have g_hc211 := mt (fa_lt p1 13).mpr hc211; have g_hc229 := mt (fa_lt p1 14).mpr hc229; have g_hc247 := mt (fa_lt p1 15).mpr hc247; have g_hc265 := mt (fa_lt p1 16).mpr hc265; have g_hc283 := mt (fa_lt p1 17).mpr hc283; have g_hc301 := mt (fa_lt p1 18).mpr hc301; have g_hc319 := mt (fa_lt p1 19).mpr hc319; have g_hc337 := mt (fa_lt p1 20).mpr hc337; have g_hc355 := mt (fa_lt p1 21).mpr hc355; have g_hc373 := (fa_lt p1 22).mp hc373; omega)
                                                    refine Exists.intro 40 ?_
                                                    refine br_t (by decide +kernel) ?_
                                                    refine br_f (by decide +kernel) ?_
                                                    refine And.intro (g_in (by decide +kernel)) ?_
                                                    intro v374 ev374; obtain rfl : v374 = 1 := ev374.trans (by decide +kernel)
                                                    refine br_f (by decide +kernel) ?_
                                                    refine And.intro (g_in (by decide +kernel)) ?_
                                                    intro v375 ev375; obtain rfl : v375 = 2 := ev375.trans (by decide +kernel)
                                                    refine br_f (by decide +kernel) ?_
                                                    refine And.intro (g_in (by decide +kernel)) ?_
                                                    intro v376 ev376; obtain rfl : v376 = 3 := ev376.trans (by decide +kernel)
                                                    intro v377 ev377; obtain rfl : v377 = 0 := ev377.trans (by decide +kernel)
                                                    intro v378 ev378; obtain rfl : v378 = 0 := ev378.trans (by decide +kernel)
                                                    intro v379 ev379; obtain rfl : v379 = 0 := ev379.trans (by decide +kernel)
                                                    intro v380 ev380; obtain rfl : v380 = 0 := ev380.trans (by decide +kernel)
                                                    intro v381 ev381; obtain rfl : v381 = 0 := ev381.trans (by decide +kernel)
                                                    intro v382 ev382; obtain rfl : v382 = 0 := ev382.trans (by decide +kernel)
                                                    intro v383 ev383; obtain rfl : v383 = 0 := ev383.trans (by decide +kernel)
                                                    intro v384 ev384; obtain rfl : v384 = 0 := ev384.trans (by decide +kernel)
                                                    intro v385 ev385; obtain rfl : v385 = 0 := ev385.trans (by decide +kernel)
                                                    exact h _ (((((if_neg (by decide +kernel)).trans (if_neg (by decide +kernel))).trans (if_neg (fun q0 => absurd ((fa_lt p2 0).mp q0) (by have l_0 : (0 : Int32).toInt = 0 := (by decide); have l_1 : (10 : Int32).toInt = 10 := (by decide); have g_hc3 := mt (fa_lt p2 0).mpr hc3; have g_hc4 := (fa_le p2 10).mp hc4; omega)))).trans (if_neg (fun q0 => absurd ((fa_lt 10 p2).mp q0) (by have l_0 : (0 : Int32).toInt = 0 := (by decide); have l_1 : (10 : Int32).toInt = 10 := (by decide); have g_hc3 := mt (fa_lt p2 0).mpr hc3; have g_hc4 := (fa_le p2 10).mp hc4; omega)))).symm) _ _
                                                  · skip
                                                    intro v386 ev386; obtain rfl : v386 = 0 := ev386.trans (by decide +kernel)
                                                    intro v387 ev387; obtain rfl : v387 = 22 := ev387.trans (by decide +kernel)
                                                    intro v388 ev388; obtain rfl : v388 = 9 := ev388.trans (by decide +kernel)
                                                    refine Exists.intro 40 ?_
                                                    refine br_t (by decide +kernel) ?_
                                                    intro v389 ev389; obtain rfl : v389 = 0 := ev389.trans (by decide +kernel)
                                                    refine Exists.intro 40 ?_
                                                    refine br_t (by decide +kernel) ?_
                                                    refine br_t (by decide +kernel) ?_
                                                    intro v390 ev390; obtain rfl : v390 = 23 := ev390.trans (by decide +kernel)
                                                    refine And.intro (fun hc391 => ?_) (fun hc391 => ?_)
                                                    · skip
                                                      obtain rfl : p1 = 22 := (fa_eq _ _).mpr (by have l_0 : (1 : Int32).toInt = 1 := (by decide); have l_1 : (10 : Int32).toInt = 10 := (by decide); have l_2 : (11 : Int32).toInt = 11 := (by decide); have l_3 : (12 : Int32).toInt = 12 := (by decide); have l_4 : (13 : Int32).toInt = 13 := (by decide); have l_5 : (14 : Int32).toInt = 14 := (by decide); have l_6 : (15 : Int32).toInt = 15 := (by decide); have l_7 : (16 : Int32).toInt = 16 := (by decide); have l_8 : (17 : Int32).toInt = 17 := (by decide); have l_9 : (18 : Int32).toInt = 18 := (by decide); have l_10 : (19 : Int32).toInt = 19 := (by decide); have l_11 : (2 : Int32).toInt = 2 := (by decide); have l_12 : (20 : Int32).toInt = 20 := (by decide); have l_13 : (21 : Int32).toInt = 21 := (by decide); have l_14 : (22 : Int32).toInt = 22 := (by decide); have l_15 : (23 : Int32).toInt = 23 := (by decide); have l_16 : (3 : Int32).toInt = 3 := (by decide); have l_17 : (30 : Int32).toInt = 30 := (by decide); have l_18 : (4 : Int32).toInt = 4 := (by decide); have l_19 : (5 : Int32).toInt = 5 := (by decide); have l_20 : (6 : Int32).toInt = 6 := (by decide); have l_21 : (7 : Int32).toInt = 7 := (by decide); have l_22 : (8 : Int32).toInt = 8 := (by decide); have l_23 : (9 : Int32).toInt = 9 := (by decide); have g_hc1 := mt (fa_lt p1 1).mpr hc1; have g_hc2 := mt (fa_lt 30 p1).mpr hc2; have g_hc13 := mt (fa_lt p1 2).mpr hc13; have g_hc31 := mt (fa_lt p1 3).mpr hc31; have g_hc49 := mt (fa_lt p1 4).mpr hc49; have g_hc67 := mt (fa_lt p1 5).mpr hc67; have g_hc85 := mt (fa_lt p1 6).mpr hc85; have g_hc103 := mt (fa_lt p1 7).mpr hc103; have g_hc121 := mt (fa_lt p1 8).mpr hc121; have g_hc139 := mt (fa_lt p1 9).mpr hc139; have g_hc157 := mt (fa_lt p1 10).mpr hc157; have g_hc175 := mt (fa_lt p1 11).mpr hc175; have g_hc193 := mt (fa_lt p1 12).mpr hc193; have g_hc211 := mt (fa_lt p1 13).mpr hc211; have g_hc229 := mt (fa_lt p1 14).mpr hc229; have g_hc247 := mt (fa_lt p1 15).mpr hc247; have g_hc265 := mt (fa_lt p1 16).mpr hc265; have g_hc283 := mt (fa_lt p1 17).mpr hc283; have g_hc301 := mt (fa_lt p1 18).mpr hc301; have g_hc319 := mt (fa_lt p1 19).mpr hc319; have g_hc337 := mt (fa_lt p1 20).mpr hc337; have g_hc355 := mt (fa_lt p1 21).mpr hc355; have g_hc373 := mt (fa_lt p1 22).mpr hc373; have g_hc391 := (fa_lt p1 23).mp hc391; omega)
                                                      refine Exists.intro 40 ?_
                                                      refine br_t (by decide +kernel) ?_
                                                      refine br_f (by decide +kernel) ?_
                                                      refine And.intro (g_in (by decide +kernel)) ?_
                                                      intro v392 ev392; obtain rfl : v392 = 1 := ev392.trans (by decide +kernel)
                                                      refine br_f (by decide +kernel) ?_
                                                      refine And.intro (g_in (by decide +kernel)) ?_
                                                      intro v393 ev393; obtain rfl : v393 = 2 := ev393.trans (by decide +kernel)
                                                      refine br_f (by decide +kernel) ?_
                                                      refine And.intro (g_in (by decide +kernel)) ?_
                                                      intro v394 ev394; obtain rfl : v394 = 3 := ev394.trans (by decide +kernel)
                                                      intro v395 ev395; obtain rfl : v395 = 0 := ev395.trans (by decide +kernel)
                                                      intro v396 ev396; obtain rfl : v396 = 0 := ev396.trans (by decide +kernel)
                                                      intro v397 ev397; obtain rfl : v397 = 0 := ev397.trans (by decide +kernel)
                                                      intro v398 ev398; obtain rfl : v398 = 0 := ev398.trans (by decide +kernel)
                                                      intro v399 ev399; obtain rfl : v399 = 0 := ev399.trans (by decide +kernel)
                                                      intro v400 ev400; obtain rfl : v400 = 0 := ev400.trans (by decide +kernel)
                                                      intro v401 ev401; obtain rfl : v401 = 0 := ev401.trans (by decide +kernel)
                                                      intro v402 ev402; obtain rfl : v402 = 0 := ev402.trans (by decide +kernel)
                                                      intro v403 ev403; obtain rfl : v403 = 0 := ev403.trans (by decide +kernel)
                                                      exact h _ (((((if_neg (by decide +kernel)).trans (if_neg (by decide +kernel))).trans (if_neg (fun q0 => absurd ((fa_lt p2 0).mp q0) (by have l_0 : (0 : Int32).toInt = 0 := (by decide); have l_1 : (10 : Int32).toInt = 10 := (by decide); have g_hc3 := mt (fa_lt p2 0).mpr hc3; have g_hc4 := (fa_le p2 10).mp hc4; omega)))).trans (if_neg (fun q0 => absurd ((fa_lt 10 p2).mp q0) (by have l_0 : (0 : Int32).toInt = 0 := (by decide); have l_1 : (10 : Int32).toInt = 10 := (by decide); have g_hc3 := mt (fa_lt p2 0).mpr hc3; have g_hc4 := (fa_le p2 10).mp hc4; omega)))).symm) _ _
                                                    · skip
                                                      intro v404 ev404; obtain rfl : v404 = 0 := ev404.trans (by decide +kernel)
                                                      intro v405 ev405; obtain rfl : v405 = 23 := ev405.trans (by decide +kernel)
                                                      intro v406 ev406; obtain rfl : v406 = 9 := ev406.trans (by decide +kernel)
                                                      refine Exists.intro 40 ?_
                                                      refine br_t (by decide +kernel) ?_
                                                      intro v407 ev407; obtain rfl : v407 = 0 := ev407.trans (by decide +kernel)
                                                      refine Exists.intro 40 ?_
                                                      refine br_t (by decide +kernel) ?_
                                                      refine br_t (by decide +kernel) ?_
                                                      intro v408 ev408; obtain rfl : v408 = 24 := ev408.trans (by decide +kernel)
                                                      refine And.intro (fun hc409 => ?_) (fun hc409 => ?_)
                                                      · skip
                                                        obtain rfl : p1 = 23 := (fa_eq _ _).mpr (by have l_0 : (1 : Int32).toInt = 1 := (by decide); have l_1 : (10 : Int32).toInt = 10 := (by decide); have l_2 : (11 : Int32).toInt = 11 := (by decide); have l_3 : (12 : Int32).toInt = 12 := (by decide); have l_4 : (13 : Int32).toInt = 13 := (by decide); have l_5 : (14 : Int32).toInt = 14 := (by decide); have l_6 : (15 : Int32).toInt = 15 := (by decide); have l_7 : (16 : Int32).toInt = 16 := (by decide); have l_8 : (17 : Int32).toInt = 17 := (by decide); have l_9 : (18 : Int32).toInt = 18 := (by decide); have l_10 : (19 : Int32).toInt = 19 := (by decide); have l_11 : (2 : Int32).toInt = 2 := (by decide); have l_12 : (20 : Int32).toInt = 20 := (by decide); have l_13 : (21 : Int32).toInt = 21 := (by decide); have l_14 : (22 : Int32).toInt = 22 := (by decide); have l_15 : (23 : Int32).toInt = 23 := (by decide); have l_16 : (24 : Int32).toInt = 24 := (by decide); have l_17 : (3 : Int32).toInt = 3 := (by decide); have l_18 : (30 : Int32).toInt = 30 := (by decide); have l_19 : (4 : Int32).toInt = 4 := (by decide); have l_20 : (5 : Int32).toInt = 5 := (by decide); have l_21 : (6 : Int32).toInt = 6 := (by decide); have l_22 : (7 : Int32).toInt = 7 := (by decide); have l_23 : (8 : Int32).toInt = 8 := (by decide); have l_24 : (9 : Int32).toInt = 9 := (by decide); have g_hc1 := mt (fa_lt p1 1).mpr hc1; have g_hc2 := mt (fa_lt 30 p1).mpr hc2; have g_hc13 := mt (fa_lt p1 2).mpr hc13; have g_hc31 := mt (fa_lt p1 3).mpr hc31; have g_hc49 := mt (fa_lt p1 4).mpr hc49; have g_hc67 := mt (fa_lt p1 5).mpr hc67; have g_hc85 := mt (fa_lt p1 6).mpr hc85; have g_hc103 := mt (fa_lt p1 7).mpr hc103; have g_hc121 := mt (fa_lt p1 8).mpr hc121; have g_hc139 := mt (fa_lt p1 9).mpr hc139; have g_hc157 := mt (fa_lt p1 10).mpr hc157; have g_hc175 := mt (fa_lt p1 11).mpr hc175; have g_hc193 := mt (fa_lt p1 12).mpr hc193; have g_hc211 := mt (fa_lt p1 13).mpr hc211; have g_hc229 := mt (fa_lt p1 14).mpr hc229; have g_hc247 := mt (fa_lt p1 15).mpr hc247; have g_hc265 := mt (fa_lt p1 16).mpr hc265; have g_hc283 := mt (fa_lt p1 17).mpr hc283; have g_hc301 := mt (fa_lt p1 18).mpr hc301; have g_hc319 := mt (fa_lt p1 19).mpr hc319; have g_hc337 := mt (fa_lt p1 20).mpr hc337; have g_hc355 := mt (fa_lt p1 21).mpr hc355; have g_hc373 := mt (fa_lt p1 22).mpr hc373; have g_hc391 := mt (fa_lt p1 23).mpr hc391; have g_hc409 := (fa_lt p1 24).mp hc409; omega)
                                                        refine Exists.intro 40 ?_
                                                        refine br_t (by decide +kernel) ?_
                                                        refine br_f (by decide +kernel) ?_
                                                        refine And.intro (g_in (by decide +kernel)) ?_
                                                        intro v410 ev410; obtain rfl : v410 = 1 := ev410.trans (by decide +kernel)
                                                        refine br_f (by decide +kernel) ?_
                                                        refine And.intro (g_in (by decide +kernel)) ?_
                                                        intro v411 ev411; obtain rfl : v411 = 2 := ev411.trans (by decide +kernel)
                                                        refine br_f (by decide +kernel) ?_
                                                        refine And.intro (g_in (by decide +kernel)) ?_
                                                        intro v412 ev412; obtain rfl : v412 = 3 := ev412.trans (by decide +kernel)
                                                        intro v413 ev413; obtain rfl : v413 = 0 := ev413.trans (by decide +kernel)
                                                        intro v414 ev414; obtain rfl : v414 = 0 := ev414.trans (by decide +kernel)
                                                        intro v415 ev415; obtain rfl : v415 = 0 := ev415.trans (by decide +kernel)
                                                        intro v416 ev416; obtain rfl : v416 = 0 := ev416.trans (by decide +kernel)
                                                        intro v417 ev417; obtain rfl : v417 = 0 := ev417.trans (by decide +kernel)
                                                        intro v418 ev418; obtain rfl : v418 = 0 := ev418.trans (by decide +kernel)
                                                        intro v419 ev419; obtain rfl : v419 = 0 := ev419.trans (by decide +kernel)
                                                        intro v420 ev420; obtain rfl : v420 = 0 := ev420.trans (by decide +kernel)
                                                        intro v421 ev421; obtain rfl : v421 = 0 := ev421.trans (by decide +kernel)
                                                        exact h _ (((((if_neg (by decide +kernel)).trans (if_neg (by decide +kernel))).trans (if_neg (fun q0 => absurd ((fa_lt p2 0).mp q0) (by have l_0 : (0 : Int32).toInt = 0 := (by decide); have l_1 : (10 : Int32).toInt = 10 := (by decide); have g_hc3 := mt (fa_lt p2 0).mpr hc3; have g_hc4 := (fa_le p2 10).mp hc4; omega)))).trans (if_neg (fun q0 => absurd ((fa_lt 10 p2).mp q0) (by have l_0 : (0 : Int32).toInt = 0 := (by decide); have l_1 : (10 : Int32).toInt = 10 := (by decide); have g_hc3 := mt (fa_lt p2 0).mpr hc3; have g_hc4 := (fa_le p2 10).mp hc4; omega)))).symm) _ _
                                                      · skip
                                                        intro v422 ev422; obtain rfl : v422 = 0 := ev422.trans (by decide +kernel)
                                                        intro v423 ev423; obtain rfl : v423 = 24 := ev423.trans (by decide +kernel)
                                                        intro v424 ev424; obtain rfl : v424 = 9 := ev424.trans (by decide +kernel)
                                                        refine Exists.intro 40 ?_
                                                        refine br_t (by decide +kernel) ?_
                                                        intro v425 ev425; obtain rfl : v425 = 0 := ev425.trans (by decide +kernel)
                                                        refine Exists.intro 40 ?_
                                                        refine br_t (by decide +kernel) ?_
                                                        refine br_t (by decide +kernel) ?_
                                                        intro v426 ev426; obtain rfl : v426 = 25 := ev426.trans (by decide +kernel)
                                                        refine And.intro (fun hc427 => ?_) (fun hc427 => ?_)
                                                        · skip
                                                          obtain rfl : p1 = 24 := (fa_eq _ _).mpr (by have l_0 : (1 : Int32).toInt = 1 := (by decide); have l_1 : (10 : Int32).toInt = 10 := (by decide); have l_2 : (11 : Int32).toInt = 11 := (by decide); have l_3 : (12 : Int32).toInt = 12 := (by decide); have l_4 : (13 : Int32).toInt = 13 := (by decide); have l_5 : (14 : Int32).toInt = 14 := (by decide); have l_6 : (15 : Int32).toInt = 15 := (by decide); have l_7 : (16 : Int32).toInt = 16 := (by decide); have l_8 : (17 : Int32).toInt = 17 := (by decide); have l_9 : (18 : Int32).toInt = 18 := (by decide); have l_10 : (19 : Int32).toInt = 19 := (by decide); have l_11 : (2 : Int32).toInt = 2 := (by decide); have l_12 : (20 : Int32).toInt = 20 := (by decide); have l_13 : (21 : Int32).toInt = 21 := (by decide); have l_14 : (22 : Int32).toInt = 22 := (by decide); have l_15 : (23 : Int32).toInt = 23 := (by decide); have l_16 : (24 : Int32).toInt = 24 := (by decide); have l_17 : (25 : Int32).toInt = 25 := (by decide); have l_18 : (3 : Int32).toInt = 3 := (by decide); have l_19 : (30 : Int32).toInt = 30 := (by decide); have l_20 : (4 : Int32).toInt = 4 := (by decide); have l_21 : (5 : Int32).toInt = 5 := (by decide); have l_22 : (6 : Int32).toInt = 6 := (by decide); have l_23 : (7 : Int32).toInt = 7 := (by decide); have l_24 : (8 : Int32).toInt = 8 := (by decide); have l_25 : (9 : Int32).toInt = 9 := (by decide); have g_hc1 := mt (fa_lt p1 1).mpr hc1; have g_hc2 := mt (fa_lt 30 p1).mpr hc2; have g_hc13 := mt (fa_lt p1 2).mpr hc13; have g_hc31 := mt (fa_lt p1 3).mpr hc31; have g_hc49 := mt (fa_lt p1 4).mpr hc49; have g_hc67 := mt (fa_lt p1 5).mpr hc67; have g_hc85 := mt (fa_lt p1 6).mpr hc85; have g_hc103 := mt (fa_lt p1 7).mpr hc103; have g_hc121 := mt (fa_lt p1 8).mpr hc121; have g_hc139 := mt (fa_lt p1 9).mpr hc139; have g_hc157 := mt (fa_lt p1 10).mpr hc157; have g_hc175 := mt (fa_lt p1 11).mpr hc175; have g_hc193 := mt (fa_lt p1 12).mpr hc193; have g_hc211 := mt (fa_lt p1 13).mpr hc211; have g_hc229 := mt (fa_lt p1 14).mpr hc229; have g_hc247 := mt (fa_lt p1 15).mpr hc247; have g_hc265 := mt (fa_lt p1 16).mpr hc265; have g_hc283 := mt (fa_lt p1 17).mpr hc283; have g_hc301 := mt (fa_lt p1 18).mpr hc301; have g_hc319 := mt (fa_lt p1 19).mpr hc319; have g_hc337 := mt (fa_lt p1 20).mpr hc337; have g_hc355 := mt (fa_lt p1 21).mpr hc355; have g_hc373 := mt (fa_lt p1 22).mpr hc373; have g_hc391 := mt (fa_lt p1 23).mpr hc391; have g_hc409 := mt (fa_lt p1 24).mpr hc409; have g_hc427 := (fa_lt p1 25).mp hc427; omega)
                                                          refine Exists.intro 40 ?_
                                                          refine br_t (by decide +kernel) ?_
                                                          refine br_f (by decide +kernel) ?_
                                                          refine And.intro (g_in (by decide +kernel)) ?_
                                                          intro v428 ev428; obtain rfl : v428 = 1 := ev428.trans (by decide +kernel)
                                                          refine br_f (by decide +kernel) ?_
                                                          refine And.intro (g_in (by decide +kernel)) ?_
                                                          intro v429 ev429; obtain rfl : v429 = 2 := ev429.trans (by decide +kernel)
                                                          refine br_f (by decide +kernel) ?_
                                                          refine And.intro (g_in (by decide +kernel)) ?_
                                                          intro v430 ev430; obtain rfl : v430 = 3 := ev430.trans (by decide +kernel)
                                                          intro v431 ev431; obtain rfl : v431 = 0 := ev431.trans (by decide +kernel)
                                                          intro v432 ev432; obtain rfl : v432 = 0 := ev432.trans (by decide +kernel)
                                                          intro v433 ev433; obtain rfl : v433 = 0 := ev433.trans (by decide +kernel)
                                                          intro v434 ev434; obtain rfl : v434 = 0 := ev434.trans (by decide +kernel)
                                                          intro v435 ev435; obtain rfl : v435 = 0 := ev435.trans (by decide +kernel)
                                                          intro v436 ev436; obtain rfl : v436 = 0 := ev436.trans (by decide +kernel)
                                                          intro v437 ev437; obtain rfl : v437 = 0 := ev437.trans (by decide +kernel)
                                                          intro v438 ev438; obtain rfl : v438 = 0 := ev438.trans (by decide +kernel)
                                                          intro v439 ev439; obtain rfl : v439 = 0 := ev439.trans (by decide +kernel)
                                                          exact h _ (((((if_neg (by decide +kernel)).trans (if_neg (by decide +kernel))).trans (if_neg (fun q0 => absurd ((fa_lt p2 0).mp q0) (by have l_0 : (0 : Int32).toInt = 0 := (by decide); have l_1 : (10 : Int32).toInt = 10 := (by decide); have g_hc3 := mt (fa_lt p2 0).mpr hc3; have g_hc4 := (fa_le p2 10).mp hc4; omega)))).trans (if_neg (fun q0 => absurd ((fa_lt 10 p2).mp q0) (by have l_0 : (0 : Int32).toInt = 0 := (by decide); have l_1 : (10 : Int32).toInt = 10 := (by decide); have g_hc3 := mt (fa_lt p2 0).mpr hc3; have g_hc4 := (fa_le p2 10).mp hc4; omega)))).symm) _ _
                                                        · skip
                                                          intro v440 ev440; obtain rfl : v440 = 0 := ev440.trans (by decide +kernel)
                                                          intro v441 ev441; obtain rfl : v441 = 25 := ev441.trans (by decide +kernel)
                                                          intro v442 ev442; obtain rfl : v442 = 9 := ev442.trans (by decide +kernel)
                                                          refine Exists.intro 40 ?_
                                                          refine br_t (by decide +kernel) ?_
                                                          intro v443 ev443; obtain rfl : v443 = 0 := ev443.trans (by decide +kernel)
                                                          refine Exists.intro 40 ?_
                                                          refine br_t (by decide +kernel) ?_
                                                          refine br_t (by decide +kernel) ?_
                                                          intro v444 ev444; obtain rfl : v444 = 26 := ev444.trans (by decide +kernel)
                                                          refine And.intro (fun hc445 => ?_) (fun hc445 => ?_)
                                                          · skip
                                                            obtain rfl : p1 = 25 := (fa_eq _ _).mpr (by have l_0 : (1 : Int32).toInt = 1 := (by decide); have l_1 : (10 : Int32).toInt = 10 := (by decide); have l_2 : (11 : Int32).toInt = 11 := (by decide); have l_3 : (12 : Int32).toInt = 12 := (by decide); have l_4 : (13 : Int32).toInt = 13 := (by decide); have l_5 : (14 : Int32).toInt = 14 := (by decide); have l_6 : (15 : Int32).toInt = 15 := (by decide); have l_7 : (16 : Int32).toInt = 16 := (by decide); have l_8 : (17 : Int32).toInt = 17 := (by decide); have l_9 : (18 : Int32).toInt = 18 := (by decide); have l_10 : (19 : Int32).toInt = 19 := (by decide); have l_11 : (2 : Int32).toInt = 2 := (by decide); have l_12 : (20 : Int32).toInt = 20 := (by decide); have l_13 : (21 : Int32).toInt = 21 := (by decide); have l_14 : (22 : Int32).toInt = 22 := (by decide); have l_15 : (23 : Int32).toInt = 23 := (by decide); have l_16 : (24 : Int32).toInt = 24 := (by decide); have l_17 : (25 : Int32).toInt = 25 := (by decide); have l_18 : (26 : Int32).toInt = 26 := (by decide); have l_19 : (3 : Int32).toInt = 3 := (by decide); have l_20 : (30 : Int32).toInt = 30 := (by decide); have l_21 : (4 : Int32).toInt = 4 := (by decide); have l_22 : (5 : Int32).toInt = 5 := (by decide); have l_23 : (6 : Int32).toInt = 6 := (by decide); have l_24 : (7 : Int32).toInt = 7 := (by decide); have l_25 : (8 : Int32).toInt = 8 := (by decide); have l_26 : (9 : Int32).toInt = 9 := (by decide); have g_hc1 := mt (fa_lt p1 1).mpr hc1; have g_hc2 := mt (fa_lt 30 p1).mpr hc2; have g_hc13 := mt (fa_lt p1 2).mpr hc13; have g_hc31 := mt (fa_lt p1 3).mpr hc31; have g_hc49 := mt (fa_lt p1 4).mpr hc49; have g_hc67 := mt (fa_lt p1 5).mpr hc67; have g_hc85 := mt (fa_lt p1 6).mpr hc85; have g_hc103 := mt (fa_lt p1 7).mpr hc103; have g_hc121 := mt (fa_lt p1 8).mpr hc121; have g_hc139 := mt (fa_lt p1 9).mpr hc139; have g_hc157 := mt (fa_lt p1 10).mpr hc157; have g_hc175 := mt (fa_lt p1 11).mpr hc175; have g_hc193 := mt (fa_lt p1 12).mpr hc193; have g_hc211 := mt (fa_lt p1 13).mpr hc211; have g_hc229 := mt (fa_lt p1 14).mpr hc229; have g_hc247 := mt (fa_lt p1 15).mpr hc247; have g_hc265 := mt (fa_lt p1 16).mpr hc265; have g_hc283 := mt (fa_lt p1 17).mpr hc283; have g_hc301 := mt (fa_lt p1 18).mpr hc301; have g_hc319 := mt (fa_lt p1 19).mpr hc319; have g_hc337 := mt (fa_lt p1 20).mpr hc337; have g_hc355 := mt (fa_lt p1 21).mpr hc355; have g_hc373 := mt (fa_lt p1 22).mpr hc373; have g_hc391 := mt (fa_lt p1 23).mpr hc391; have g_hc409 := mt (fa_lt p1 24).mpr hc409; have g_hc427 := mt (fa_lt p1 25).mpr hc427; have g_hc445 := (fa_lt p1 26).mp hc445; omega)
                                                            refine Exists.intro 40 ?_
                                                            refine br_t (by decide +kernel) ?_
                                                            refine br_f (by decide +kernel) ?_
                                                            refine And.intro (g_in (by decide +kernel)) ?_
                                                            intro v446 ev446; obtain rfl : v446 = 1 := ev446.trans (by decide +kernel)
                                                            refine br_f (by decide +kernel) ?_
                                                            refine And.intro (g_in (by decide +kernel)) ?_
                                                            intro v447 ev447; obtain rfl : v447 = 2 := ev447.trans (by decide +kernel)
                                                            refine br_f (by decide +kernel) ?_
                                                            refine And.intro (g_in (by decide +kernel)) ?_
                                                            intro v448 ev448; obtain rfl : v448 = 3 := ev448.trans (by decide +kernel)
                                                            intro v449 ev449; obtain rfl : v449 = 0 := ev449.trans (by decide +kernel)
                                                            intro v450 ev450; obtain rfl : v450 = 0 := ev450.trans (by decide +kernel)
                                                            intro v451 ev451; obtain rfl : v451 = 0 := ev451.trans (by decide +kernel)
                                                            intro v452 ev452; obtain rfl : v452 = 0 := ev452.trans (by decide +kernel)
                                                            intro v453 ev453; obtain rfl : v453 = 0 := ev453.trans (by decide +kernel)
                                                            intro v454 ev454; obtain rfl : v454 = 0 := ev454.trans (by decide +kernel)
                                                            intro v455 ev455; obtain rfl : v455 = 0 := ev455.trans (by decide +kernel)
                                                            intro v456 ev456; obtain rfl : v456 = 0 := ev456.trans (by decide +kernel)
                                                            intro v457 ev457; obtain rfl : v457 = 0 := ev457.trans (by decide +kernel)
                                                            exact h _ (((((if_neg (by decide +kernel)).trans (if_neg (by decide +kernel))).trans (if_neg (fun q0 => absurd ((fa_lt p2 0).mp q0) (by have l_0 : (0 : Int32).toInt = 0 := (by decide); have l_1 : (10 : Int32).toInt = 10 := (by decide); have g_hc3 := mt (fa_lt p2 0).mpr hc3; have g_hc4 := (fa_le p2 10).mp hc4; omega)))).trans (if_neg (fun q0 => absurd ((fa_lt 10 p2).mp q0) (by have l_0 : (0 : Int32).toInt = 0 := (by decide); have l_1 : (10 : Int32).toInt = 10 := (by decide); have g_hc3 := mt (fa_lt p2 0).mpr hc3; have g_hc4 := (fa_le p2 10).mp hc4; omega)))).symm) _ _
                                                          · skip
                                                            intro v458 ev458; obtain rfl : v458 = 0 := ev458.trans (by decide +kernel)
                                                            intro v459 ev459; obtain rfl : v459 = 26 := ev459.trans (by decide +kernel)
                                                            intro v460 ev460; obtain rfl : v460 = 9 := ev460.trans (by decide +kernel)
                                                            refine Exists.intro 40 ?_
                                                            refine br_t (by decide +kernel) ?_
                                                            intro v461 ev461; obtain rfl : v461 = 0 := ev461.trans (by decide +kernel)
                                                            refine Exists.intro 40 ?_
                                                            refine br_t (by decide +kernel) ?_
                                                            refine br_t (by decide +kernel) ?_
                                                            intro v462 ev462; obtain rfl : v462 = 27 := ev462.trans (by decide +kernel)
                                                            refine And.intro (fun hc463 => ?_) (fun hc463 => ?_)
                                                            · skip
                                                              obtain rfl : p1 = 26 := (fa_eq _ _).mpr (by have l_0 : (1 : Int32).toInt = 1 := (by decide); have l_1 : (10 : Int32).toInt = 10 := (by decide); have l_2 : (11 : Int32).toInt = 11 := (by decide); have l_3 : (12 : Int32).toInt = 12 := (by decide); have l_4 : (13 : Int32).toInt = 13 := (by decide); have l_5 : (14 : Int32).toInt = 14 := (by decide); have l_6 : (15 : Int32).toInt = 15 := (by decide); have l_7 : (16 : Int32).toInt = 16 := (by decide); have l_8 : (17 : Int32).toInt = 17 := (by decide); have l_9 : (18 : Int32).toInt = 18 := (by decide); have l_10 : (19 : Int32).toInt = 19 := (by decide); have l_11 : (2 : Int32).toInt = 2 := (by decide); have l_12 : (20 : Int32).toInt = 20 := (by decide); have l_13 : (21 : Int32).toInt = 21 := (by decide); have l_14 : (22 : Int32).toInt = 22 := (by decide); have l_15 : (23 : Int32).toInt = 23 := (by decide); have l_16 : (24 : Int32).toInt = 24 := (by decide); have l_17 : (25 : Int32).toInt = 25 := (by decide); have l_18 : (26 : Int32).toInt = 26 := (by decide); have l_19 : (27 : Int32).toInt = 27 := (by decide); have l_20 : (3 : Int32).toInt = 3 := (by decide); have l_21 : (30 : Int32).toInt = 30 := (by decide); have l_22 : (4 : Int32).toInt = 4 := (by decide); have l_23 : (5 : Int32).toInt = 5 := (by decide); have l_24 : (6 : Int32).toInt = 6 := (by decide); have l_25 : (7 : Int32).toInt = 7 := (by decide); have l_26 : (8 : Int32).toInt = 8 := (by decide); have l_27 : (9 : Int32).toInt = 9 := (by decide); have g_hc1 := mt (fa_lt p1 1).mpr hc1; have g_hc2 := mt (fa_lt 30 p1).mpr hc2; have g_hc13 := mt (fa_lt p1 2).mpr hc13; have g_hc31 := mt (fa_lt p1 3).mpr hc31; have g_hc49 := mt (fa_lt p1 4).mpr hc49; have g_hc67 := mt (fa_lt p1 5).mpr hc67; have g_hc85 := mt (fa_lt p1 6).mpr hc85; have g_hc103 := mt (fa_lt p1 7).mpr hc103; have g_hc121 := mt (fa_lt p1 8).mpr hc121; have g_hc139 := mt (fa_lt p1 9).mpr hc139; have g_hc157 := mt (fa_lt p1 10).mpr hc157; have g_hc175 := mt (fa_lt p1 11).mpr hc175; have g_hc193 := mt (fa_lt p1 12).mpr hc193; have g_hc211 := mt (fa_lt p1 13).mpr hc211; have g_hc229 := mt (fa_lt p1 14).mpr hc229; have g_hc247 := mt (fa_lt p1 15).mpr hc247; have g_hc265 := mt (fa_lt p1 16).mpr hc265; have g_hc283 := mt (fa_lt p1 17).mpr hc283; have g_hc301 := mt (fa_lt p1 18).mpr hc301; have g_hc319 := mt (fa_lt p1 19).mpr hc319; have g_hc337 := mt (fa_lt p1 20).mpr hc337; have g_hc355 := mt (fa_lt p1 21).mpr hc355; have g_hc373 := mt (fa_lt p1 22).mpr hc373; have g_hc391 := mt (fa_lt p1 23).mpr hc391; have g_hc409 := mt (fa_lt p1 24).mpr hc409; have g_hc427 := mt (fa_lt p1 25).mpr hc427; have g_hc445 := mt (fa_lt p1 26).mpr hc445; have g_hc463 := (fa_lt p1 27).mp hc463; omega)
                                                              refine Exists.intro 40 ?_
                                                              refine br_t (by decide +kernel) ?_
                                                              refine br_f (by decide +kernel) ?_
                                                              refine And.intro (g_in (by decide +kernel)) ?_
                                                              intro v464 ev464; obtain rfl : v464 = 1 := ev464.trans (by decide +kernel)
                                                              refine br_f (by decide +kernel) ?_
                                                              refine And.intro (g_in (by decide +kernel)) ?_
                                                              intro v465 ev465; obtain rfl : v465 = 2 := ev465.trans (by decide +kernel)
                                                              refine br_f (by decide +kernel) ?_
                                                              refine And.intro (g_in (by decide +kernel)) ?_
                                                              intro v466 ev466; obtain rfl : v466 = 3 := ev466.trans (by decide +kernel)
                                                              intro v467 ev467; obtain rfl : v467 = 0 := ev467.trans (by decide +kernel)
                                                              intro v468 ev468; obtain rfl : v468 = 0 := ev468.trans (by decide +kernel)
                                                              intro v469 ev469; obtain rfl : v469 = 0 := ev469.trans (by decide +kernel)
                                                              intro v470 ev470; obtain rfl : v470 = 0 := ev470.trans (by decide +kernel)
                                                              intro v471 ev471; obtain rfl : v471 = 0 := ev471.trans (by decide +kernel)
                                                              intro v472 ev472; obtain rfl : v472 = 0 := ev472.trans (by decide +kernel)
                                                              intro v473 ev473; obtain rfl : v473 = 0 := ev473.trans (by decide +kernel)
                                                              intro v474 ev474; obtain rfl : v474 = 0 := ev474.trans (by decide +kernel)
                                                              intro v475 ev475; obtain rfl : v475 = 0 := ev475.trans (by decide +kernel)
                                                              exact h _ (((((if_neg (by decide +kernel)).trans (if_neg (by decide +kernel))).trans (if_neg (fun q0 => absurd ((fa_lt p2 0).mp q0) (by have l_0 : (0 : Int32).toInt = 0 := (by decide); have l_1 : (10 : Int32).toInt = 10 := (by decide); have g_hc3 := mt (fa_lt p2 0).mpr hc3; have g_hc4 := (fa_le p2 10).mp hc4; omega)))).trans (if_neg (fun q0 => absurd ((fa_lt 10 p2).mp q0) (by have l_0 : (0 : Int32).toInt = 0 := (by decide); have l_1 : (10 : Int32).toInt = 10 := (by decide); have g_hc3 := mt (fa_lt p2 0).mpr hc3; have g_hc4 := (fa_le p2 10).mp hc4; omega)))).symm) _ _
                                                            · skip
                                                              intro v476 ev476; obtain rfl : v476 = 0 := ev476.trans (by decide +kernel)
                                                              intro v477 ev477; obtain rfl : v477 = 27 := ev477.trans (by decide +kernel)
                                                              intro v478 ev478; obtain rfl : v478 = 9 := ev478.trans (by decide +kernel)
                                                              refine Exists.intro 40 ?_
                                                              refine br_t (by decide +kernel) ?_
                                                              intro v479 ev479; obtain rfl : v479 = 0 := ev479.trans (by decide +kernel)
                                                              refine Exists.intro 40 ?_
                                                              refine br_t (by decide +kernel) ?_
                                                              refine br_t (by decide +kernel) ?_
                                                              intro v480 ev480; obtain rfl : v480 = 28 := ev480.trans (by decide +kernel)
                                                              refine And.intro (fun hc481 => ?_) (fun hc481 => ?_)
                                                              · skip
                                                                obtain rfl : p1 = 27 := (fa_eq _ _).mpr (by have l_0 : (1 : Int32).toInt = 1 := (by decide); have l_1 : (10 : Int32).toInt = 10 := (by decide); have l_2 : (11 : Int32).toInt = 11 := (by decide); have l_3 : (12 : Int32).toInt = 12 := (by decide); have l_4 : (13 : Int32).toInt = 13 := (by decide); have l_5 : (14 : Int32).toInt = 14 := (by decide); have l_6 : (15 : Int32).toInt = 15 := (by decide); have l_7 : (16 : Int32).toInt = 16 := (by decide); have l_8 : (17 : Int32).toInt = 17 := (by decide); have l_9 : (18 : Int32).toInt = 18 := (by decide); have l_10 : (19 : Int32).toInt = 19 := (by decide); have l_11 : (2 : Int32).toInt = 2 := (by decide); have l_12 : (20 : Int32).toInt = 20 := (by decide); have l_13 : (21 : Int32).toInt = 21 := (by decide); have l_14 : (22 : Int32).toInt = 22 := (by decide); have l_15 : (23 : Int32).toInt = 23 := (by decide); have l_16 : (24 : Int32).toInt = 24 := (by decide); have l_17 : (25 : Int32).toInt = 25 := (by decide); have l_18 : (26 : Int32).toInt = 26 := (by decide); have l_19 : (27 : Int32).toInt = 27 := (by decide); have l_20 : (28 : Int32).toInt = 28 := (by decide); have l_21 : (3 : Int32).toInt = 3 := (by decide); have l_22 : (30 : Int32).toInt = 30 := (by decide); have l_23 : (4 : Int32).toInt = 4 := (by decide); have l_24 : (5 : Int32).toInt = 5 := (by decide); have l_25 : (6 : Int32).toInt = 6 := (by decide); have l_26 : (7 : Int32).toInt = 7 := (by decide); have l_27 : (8 : Int32).toInt = 8 := (by decide); have l_28 : (9 : Int32).toInt = 9 := (by decide); have g_hc1 := mt (fa_lt p1 1).mpr hc1; have g_hc2 := mt (fa_lt 30 p1).mpr hc2; have g_hc13 := mt (fa_lt p1 2).mpr hc13; have g_hc31 := mt (fa_lt p1 3).mpr hc31; have g_hc49 := mt (fa_lt p1 4).mpr hc49; have g_hc67 := mt (fa_lt p1 5).mpr hc67; have g_hc85 := mt (fa_lt p1 6).mpr hc85; have g_hc103 := mt (fa_lt p1 7).mpr hc103; have g_hc121 := mt (fa_lt p1 8).mpr hc121; have g_hc139 := mt (fa_lt p1 9).mpr hc139; have g_hc157 := mt (fa_lt p1 10).mpr hc157; have g_hc175 := mt (fa_lt p1 11).mpr hc175; have g_hc193 := mt (fa_lt p1 12).mpr hc193; have g_hc211 := mt (fa_lt p1 13).mpr hc211; have g_hc229 := mt (fa_lt p1 14).mpr hc229; have g_hc247 := mt (fa_lt p1 15).mpr hc247; have g_hc265 := mt (fa_lt p1 16).mpr hc265; have g_hc283 := mt (fa_lt p1 17).mpr hc283; have g_hc301 := mt (fa_lt p1 18).mpr hc301; have g_hc319 := mt (fa_lt p1 19).mpr hc319; have g_hc337 := mt (fa_lt p1 20).mpr hc337; have g_hc355 := mt (fa_lt p1 21).mpr hc355; have g_hc373 := mt (fa_lt p1 22).mpr hc373; have g_hc391 := mt (fa_lt p1 23).mpr hc391; have g_hc409 := mt (fa_lt p1 24).mpr hc409; have g_hc427 := mt (fa_lt p1 25).mpr hc427; have g_hc445 := mt (fa_lt p1 26).mpr hc445; have g_hc463 := mt (fa_lt p1 27).mpr hc463; have g_hc481 := (fa_lt p1 28).mp hc481; omega)
                                                                refine Exists.intro 40 ?_
                                                                refine br_t (by decide +kernel) ?_
                                                                refine br_f (by decide +kernel) ?_
                                                                refine And.intro (g_in (by decide +kernel)) ?_
                                                                intro v482 ev482; obtain rfl : v482 = 1 := ev482.trans (by decide +kernel)
                                                                refine br_f (by decide +kernel) ?_
                                                                refine And.intro (g_in (by decide +kernel)) ?_
                                                                intro v483 ev483; obtain rfl : v483 = 2 := ev483.trans (by decide +kernel)
                                                                refine br_f (by decide +kernel) ?_
                                                                refine And.intro (g_in (by decide +kernel)) ?_
                                                                intro v484 ev484; obtain rfl : v484 = 3 := ev484.trans (by decide +kernel)
                                                                intro v485 ev485; obtain rfl : v485 = 0 := ev485.trans (by decide +kernel)
                                                                intro v486 ev486; obtain rfl : v486 = 0 := ev486.trans (by decide +kernel)
                                                                intro v487 ev487; obtain rfl : v487 = 0 := ev487.trans (by decide +kernel)
                                                                intro v488 ev488; obtain rfl : v488 = 0 := ev488.trans (by decide +kernel)
                                                                intro v489 ev489; obtain rfl : v489 = 0 := ev489.trans (by decide +kernel)
                                                                intro v490 ev490; obtain rfl : v490 = 0 := ev490.trans (by decide +kernel)
                                                                intro v491 ev491; obtain rfl : v491 = 0 := ev491.trans (by decide +kernel)
                                                                intro v492 ev492; obtain rfl : v492 = 0 := ev492.trans (by decide +kernel)
                                                                intro v493 ev493; obtain rfl : v493 = 0 := ev493.trans (by decide +kernel)
                                                                exact h _ (((((if_neg (by decide +kernel)).trans (if_neg (by decide +kernel))).trans (if_neg (fun q0 => absurd ((fa_lt p2 0).mp q0) (by have l_0 : (0 : Int32).toInt = 0 := (by decide); have l_1 : (10 : Int32).toInt = 10 := (by decide); have g_hc3 := mt (fa_lt p2 0).mpr hc3; have g_hc4 := (fa_le p2 10).mp hc4; omega)))).trans (if_neg (fun q0 => absurd ((fa_lt 10 p2).mp q0) (by have l_0 : (0 : Int32).toInt = 0 := (by decide); have l_1 : (10 : Int32).toInt = 10 := (by decide); have g_hc3 := mt (fa_lt p2 0).mpr hc3; have g_hc4 := (fa_le p2 10).mp hc4; omega)))).symm) _ _
                                                              · skip
                                                                intro v494 ev494; obtain rfl : v494 = 0 := ev494.trans (by decide +kernel)
                                                                intro v495 ev495; obtain rfl : v495 = 28 := ev495.trans (by decide +kernel)
                                                                intro v496 ev496; obtain rfl : v496 = 9 := ev496.trans (by decide +kernel)
                                                                refine Exists.intro 40 ?_
                                                                refine br_t (by decide +kernel) ?_
                                                                intro v497 ev497; obtain rfl : v497 = 0 := ev497.trans (by decide +kernel)
                                                                refine Exists.intro 40 ?_
                                                                refine br_t (by decide +kernel) ?_
                                                                refine br_t (by decide +kernel) ?_
                                                                intro v498 ev498; obtain rfl : v498 = 29 := ev498.trans (by decide +kernel)
                                                                refine And.intro (fun hc499 => ?_) (fun hc499 => ?_)
                                                                · skip
                                                                  obtain rfl : p1 = 28 := (fa_eq _ _).mpr (by have l_0 : (1 : Int32).toInt = 1 := (by decide); have l_1 : (10 : Int32).toInt = 10 := (by decide); have l_2 : (11 : Int32).toInt = 11 := (by decide); have l_3 : (12 : Int32).toInt = 12 := (by decide); have l_4 : (13 : Int32).toInt = 13 := (by decide); have l_5 : (14 : Int32).toInt = 14 := (by decide); have l_6 : (15 : Int32).toInt = 15 := (by decide); have l_7 : (16 : Int32).toInt = 16 := (by decide); have l_8 : (17 : Int32).toInt = 17 := (by decide); have l_9 : (18 : Int32).toInt = 18 := (by decide); have l_10 : (19 : Int32).toInt = 19 := (by decide); have l_11 : (2 : Int32).toInt = 2 := (by decide); have l_12 : (20 : Int32).toInt = 20 := (by decide); have l_13 : (21 : Int32).toInt = 21 := (by decide); have l_14 : (22 : Int32).toInt = 22 := (by decide); have l_15 : (23 : Int32).toInt = 23 := (by decide); have l_16 : (24 : Int32).toInt = 24 := (by decide); have l_17 : (25 : Int32).toInt = 25 := (by decide); have l_18 : (26 : Int32).toInt = 26 := (by decide); have l_19 : (27 : Int32).toInt = 27 := (by decide); have l_20 : (28 : Int32).toInt = 28 := (by decide); have l_21 : (29 : Int32).toInt = 29 := (by decide); have l_22 : (3 : Int32).toInt = 3 := (by decide); have l_23 : (30 : Int32).toInt = 30 := (by decide); have l_24 : (4 : Int32).toInt = 4 := (by decide); have l_25 : (5 : Int32).toInt = 5 := (by decide); have l_26 : (6 : Int32).toInt = 6 := (by decide); have l_27 : (7 : Int32).toInt = 7 := (by decide); have l_28 : (8 : Int32).toInt = 8 := (by decide); have l_29 : (9 : Int32).toInt = 9 := (by decide); have g_hc1 := mt (fa_lt p1 1).mpr hc1; have g_hc2 := mt (fa_lt 30 p1).mpr hc2; have g_hc13 := mt (fa_lt p1 2).mpr hc13; have g_hc31 := mt (fa_lt p1 3).mpr hc31; have g_hc49 := mt (fa_lt p1 4).mpr hc49; have g_hc67 := mt (fa_lt p1 5).mpr hc67; have g_hc85 := mt (fa_lt p1 6).mpr hc85; have g_hc103 := mt (fa_lt p1 7).mpr hc103; have g_hc121 := mt (fa_lt p1 8).mpr hc121; have g_hc139 := mt (fa_lt p1 9).mpr hc139; have g_hc157 := mt (fa_lt p1 10).mpr hc157; have g_hc175 := mt (fa_lt p1 11).mpr hc175; have g_hc193 := mt (fa_lt p1 12).mpr hc193; have g_hc211 := mt (fa_lt p1 13).mpr hc211; have g_hc229 := mt (fa_lt p1 14).mpr hc229; have g_hc247 := mt (fa_lt p1 15).mpr hc247; have g_hc265 := mt (fa_lt p1 16).mpr hc265; have g_hc283 := mt (fa_lt p1 17).mpr hc283; have g_hc301 := mt (fa_lt p1 18).mpr hc301; have g_hc319 := mt (fa_lt p1 19).mpr hc319; have g_hc337 := mt (fa_lt p1 20).mpr hc337; have g_hc355 := mt (fa_lt p1 21).mpr hc355; have g_hc373 := mt (fa_lt p1 22).mpr hc373; have g_hc391 := mt (fa_lt p1 23).mpr hc391; have g_hc409 := mt (fa_lt p1 24).mpr hc409; have g_hc427 := mt (fa_lt p1 25).mpr hc427; have g_hc445 := mt (fa_lt p1 26).mpr hc445; have g_hc463 := mt (fa_lt p1 27).mpr hc463; have g_hc481 := mt (fa_lt p1 28).mpr hc481; have g_hc499 := (fa_lt p1 29).mp hc499; omega)
                                                                  refine Exists.intro 40 ?_
                                                                  refine br_t (by decide +kernel) ?_
                                                                  refine br_f (by decide +kernel) ?_
                                                                  refine And.intro (g_in (by decide +kernel)) ?_
                                                                  intro v500 ev500; obtain rfl : v500 = 1 := ev500.trans (by decide +kernel)
                                                                  refine br_f (by decide +kernel) ?_
                                                                  refine And.intro (g_in (by decide +kernel)) ?_
                                                                  intro v501 ev501; obtain rfl : v501 = 2 := ev501.trans (by decide +kernel)
                                                                  refine br_f (by decide +kernel) ?_
                                                                  refine And.intro (g_in (by decide +kernel)) ?_
                                                                  intro v502 ev502; obtain rfl : v502 = 3 := ev502.trans (by decide +kernel)
                                                                  intro v503 ev503; obtain rfl : v503 = 0 := ev503.trans (by decide +kernel)
                                                                  intro v504 ev504; obtain rfl : v504 = 0 := ev504.trans (by decide +kernel)
                                                                  intro v505 ev505; obtain rfl : v505 = 0 := ev505.trans (by decide +kernel)
                                                                  intro v506 ev506; obtain rfl : v506 = 0 := ev506.trans (by decide +kernel)
                                                                  intro v507 ev507; obtain rfl : v507 = 0 := ev507.trans (by decide +kernel)
                                                                  intro v508 ev508; obtain rfl : v508 = 0 := ev508.trans (by decide +kernel)
                                                                  intro v509 ev509; obtain rfl : v509 = 0 := ev509.trans (by decide +kernel)
                                                                  intro v510 ev510; obtain rfl : v510 = 0 := ev510.trans (by decide +kernel)
                                                                  intro v511 ev511; obtain rfl : v511 = 0 := ev511.trans (by decide +kernel)
                                                                  exact h _ (((((if_neg (by decide +kernel)).trans (if_neg (by decide +kernel))).trans (if_neg (fun q0 => absurd ((fa_lt p2 0).mp q0) (by have l_0 : (0 : Int32).toInt = 0 := (by decide); have l_1 : (10 : Int32).toInt = 10 := (by decide); have g_hc3 := mt (fa_lt p2 0).mpr hc3; have g_hc4 := (fa_le p2 10).mp hc4; omega)))).trans (if_neg (fun q0 => absurd ((fa_lt 10 p2).mp q0) (by have l_0 : (0 : Int32).toInt = 0 := (by decide); have l_1 : (10 : Int32).toInt = 10 := (by decide); have g_hc3 := mt (fa_lt p2 0).mpr hc3; have g_hc4 := (fa_le p2 10).mp hc4; omega)))).symm) _ _
                                                                · skip
                                                                  intro v512 ev512; obtain rfl : v512 = 0 := ev512.trans (by decide +kernel)
                                                                  intro v513 ev513; obtain rfl : v513 = 29 := ev513.trans (by decide +kernel)
                                                                  intro v514 ev514; obtain rfl : v514 = 9 := ev514.trans (by decide +kernel)
                                                                  refine Exists.intro 40 ?_
                                                                  refine br_t (by decide +kernel) ?_
                                                                  intro v515 ev515; obtain rfl : v515 = 0 := ev515.trans (by decide +kernel)
                                                                  refine Exists.intro 40 ?_
                                                                  refine br_t (by decide +kernel) ?_
                                                                  refine br_t (by decide +kernel) ?_
                                                                  intro v516 ev516; obtain rfl : v516 = 30 := ev516.trans (by decide +kernel)
                                                                  refine And.intro (fun hc517 => ?_) (fun hc517 => ?_)
                                                                  · skip
                                                                    obtain rfl : p1 = 29 := (fa_eq _ _).mpr (by have l_0 : (1 : Int32).toInt = 1 := (by decide); have l_1 : (10 : Int32).toInt = 10 := (by decide); have l_2 : (11 : Int32).toInt = 11 := (by decide); have l_3 : (12 : Int32).toInt = 12 := (by decide); have l_4 : (13 : Int32).toInt = 13 := (by decide); have l_5 : (14 : Int32).toInt = 14 := (by decide); have l_6 : (15 : Int32).toInt = 15 := (by decide); have l_7 : (16 : Int32).toInt = 16 := (by decide); have l_8 : (17 : Int32).toInt = 17 := (by decide); have l_9 : (18 : Int32).toInt = 18 := (by decide); have l_10 : (19 : Int32).toInt = 19 := (by decide); have l_11 : (2 : Int32).toInt = 2 := (by decide); have l_12 : (20 : Int32).toInt = 20 := (by decide); have l_13 : (21 : Int32).toInt = 21 := (by decide); have l_14 : (22 : Int32).toInt = 22 := (by decide); have l_15 : (23 : Int32).toInt = 23 := (by decide); have l_16 : (24 : Int32).toInt = 24 := (by decide); have l_17 : (25 : Int32).toInt = 25 := (by decide); have l_18 : (26 : Int32).toInt = 26 := (by decide); have l_19 : (27 : Int32).toInt = 27 := (by decide); have l_20 : (28 : Int32).toInt = 28 := (by decide); have l_21 : (29 : Int32).toInt = 29 := (by decide); have l_22 : (3 : Int32).toInt = 3 := (by decide); have l_23 : (30 : Int32).toInt = 30 := (by decide); have l_24 : (4 : Int32).toInt = 4 := (by decide); have l_25 : (5 : Int32).toInt = 5 := (by decide); have l_26 : (6 : Int32).toInt = 6 := (by decide); have l_27 : (7 : Int32).toInt = 7 := (by decide); have l_28 : (8 : Int32).toInt = 8 := (by decide); have l_29 : (9 : Int32).toInt = 9 := (by decide); have g_hc1 := mt (fa_lt p1 1).mpr hc1; have g_hc2 := mt (fa_lt 30 p1).mpr hc2; have g_hc13 := mt (fa_lt p1 2).mpr hc13; have g_hc31 := mt (fa_lt p1 3).mpr hc31; have g_hc49 := mt (fa_lt p1 4).mpr hc49; have g_hc67 := mt (fa_lt p1 5).mpr hc67; have g_hc85 := mt (fa_lt p1 6).mpr hc85; have g_hc103 := mt (fa_lt p1 7).mpr hc103; have g_hc121 := mt (fa_lt p1 8).mpr hc121; have g_hc139 := mt (fa_lt p1 9).mpr hc139; have g_hc157 := mt (fa_lt p1 10).mpr hc157; have g_hc175 := mt (fa_lt p1 11).mpr hc175; have g_hc193 := mt (fa_lt p1 12).mpr hc193; have g_hc211 := mt (fa_lt p1 13).mpr hc211; have g_hc229 := mt (fa_lt p1 14).mpr hc229; have g_hc247 := mt (fa_lt p1 15).mpr hc247; have g_hc265 := mt (fa_lt p1 16).mpr hc265; have g_hc283 := mt (fa_lt p1 17).mpr hc283; have g_hc301 := mt (fa_lt p1 18).mpr hc301; have g_hc319 := mt (fa_lt p1 19).mpr hc319; have g_hc337 := mt (fa_lt p1 20).mpr hc337; have g_hc355 := mt (fa_lt p1 21).mpr hc355; have g_hc373 := mt (fa_lt p1 22).mpr hc373; have g_hc391 := mt (fa_lt p1 23).mpr hc391; have g_hc409 := mt (fa_lt p1 24).mpr hc409; have g_hc427 := mt (fa_lt p1 25).mpr hc427; have g_hc445 := mt (fa_lt p1 26).mpr hc445; have g_hc463 := mt (fa_lt p1 27).mpr hc463; have g_hc481 := mt (fa_lt p1 28).mpr hc481; have g_hc499 := mt (fa_lt p1 29).mpr hc499; have g_hc517 := (fa_lt p1 30).mp hc517; omega)
                                                                    refine Exists.intro 40 ?_
                                                                    refine br_t (by decide +kernel) ?_
                                                                    refine br_f (by decide +kernel) ?_
                                                                    refine And.intro (g_in (by decide +kernel)) ?_
                                                                    intro v518 ev518; obtain rfl : v518 = 1 := ev518.trans (by decide +kernel)
                                                                    refine br_f (by decide +kernel) ?_
                                                                    refine And.intro (g_in (by decide +kernel)) ?_
                                                                    intro v519 ev519; obtain rfl : v519 = 2 := ev519.trans (by decide +kernel)
                                                                    refine br_f (by decide +kernel) ?_
                                                                    refine And.intro (g_in (by decide +kernel)) ?_
                                                                    intro v520 ev520; obtain rfl : v520 = 3 := ev520.trans (by decide +kernel)
                                                                    intro v521 ev521; obtain rfl : v521 = 0 := ev521.trans (by decide +kernel)
                                                                    intro v522 ev522; obtain rfl : v522 = 0 := ev522.trans (by decide +kernel)
                                                                    intro v523 ev523; obtain rfl : v523 = 0 := ev523.trans (by decide +kernel)
                                                                    intro v524 ev524; obtain rfl : v524 = 0 := ev524.trans (by decide +kernel)
                                                                    intro v525 ev525; obtain rfl : v525 = 0 := ev525.trans (by decide +kernel)
                                                                    intro v526 ev526; obtain rfl : v526 = 0 := ev526.trans (by decide +kernel)
                                                                    intro v527 ev527; obtain rfl : v527 = 0 := ev527.trans (by decide +kernel)
                                                                    intro v528 ev528; obtain rfl : v528 = 0 := ev528.trans (by decide +kernel)
                                                                    intro v529 ev529; obtain rfl : v529 = 0 := ev529.trans (by decide +kernel)
                                                                    exact h _ (((((if_neg (by decide +kernel)).trans (if_neg (by decide +kernel))).trans (if_neg (fun q0 => absurd ((fa_lt p2 0).mp q0) (by have l_0 : (0 : Int32).toInt = 0 := (by decide); have l_1 : (10 : Int32).toInt = 10 := (by decide); have g_hc3 := mt (fa_lt p2 0).mpr hc3; have g_hc4 := (fa_le p2 10).mp hc4; omega)))).trans (if_neg (fun q0 => absurd ((fa_lt 10 p2).mp q0) (by have l_0 : (0 : Int32).toInt = 0 := (by decide); have l_1 : (10 : Int32).toInt = 10 := (by decide); have g_hc3 := mt (fa_lt p2 0).mpr hc3; have g_hc4 := (fa_le p2 10).mp hc4; omega)))).symm) _ _
                                                                  · skip
                                                                    obtain rfl : p1 = 30 := (fa_eq _ _).mpr (by have l_0 : (1 : Int32).toInt = 1 := (by decide); have l_1 : (10 : Int32).toInt = 10 := (by decide); have l_2 : (11 : Int32).toInt = 11 := (by decide); have l_3 : (12 : Int32).toInt = 12 := (by decide); have l_4 : (13 : Int32).toInt = 13 := (by decide); have l_5 : (14 : Int32).toInt = 14 := (by decide); have l_6 : (15 : Int32).toInt = 15 := (by decide); have l_7 : (16 : Int32).toInt = 16 := (by decide); have l_8 : (17 : Int32).toInt = 17 := (by decide); have l_9 : (18 : Int32).toInt = 18 := (by decide); have l_10 : (19 : Int32).toInt = 19 := (by decide); have l_11 : (2 : Int32).toInt = 2 := (by decide); have l_12 : (20 : Int32).toInt = 20 := (by decide); have l_13 : (21 : Int32).toInt = 21 := (by decide); have l_14 : (22 : Int32).toInt = 22 := (by decide); have l_15 : (23 : Int32).toInt = 23 := (by decide); have l_16 : (24 : Int32).toInt = 24 := (by decide); have l_17 : (25 : Int32).toInt = 25 := (by decide); have l_18 : (26 : Int32).toInt = 26 := (by decide); have l_19 : (27 : Int32).toInt = 27 := (by decide); have l_20 : (28 : Int32).toInt = 28 := (by decide); have l_21 : (29 : Int32).toInt = 29 := (by decide); have l_22 : (3 : Int32).toInt = 3 := (by decide); have l_23 : (30 : Int32).toInt = 30 := (by decide); have l_24 : (4 : Int32).toInt = 4 := (by decide); have l_25 : (5 : Int32).toInt = 5 := (by decide); have l_26 : (6 : Int32).toInt = 6 := (by decide); have l_27 : (7 : Int32).toInt = 7 := (by decide); have l_28 : (8 : Int32).toInt = 8 := (by decide); have l_29 : (9 : Int32).toInt = 9 := (by decide); have g_hc1 := mt (fa_lt p1 1).mpr hc1; have g_hc2 := mt (fa_lt 30 p1).mpr hc2; have g_hc13 := mt (fa_lt p1 2).mpr hc13; have g_hc31 := mt (fa_lt p1 3).mpr hc31; have g_hc49 := mt (fa_lt p1 4).mpr hc49; have g_hc67 := mt (fa_lt p1 5).mpr hc67; have g_hc85 := mt (fa_lt p1 6).mpr hc85; have g_hc103 := mt (fa_lt p1 7).mpr hc103; have g_hc121 := mt (fa_lt p1 8).mpr hc121; have g_hc139 := mt (fa_lt p1 9).mpr hc139; have g_hc157 := mt (fa_lt p1 10).mpr hc157; have g_hc175 := mt (fa_lt p1 11).mpr hc175; have g_hc193 := mt (fa_lt p1 12).mpr hc193; have g_hc211 := mt (fa_lt p1 13).mpr hc211; have g_hc229 := mt (fa_lt p1 14).mpr hc229; have g_hc247 := mt (fa_lt p1 15).mpr hc247; have g_hc265 := mt (fa_lt p1 16).mpr hc265; have g_hc283 := mt (fa_lt p1 17).mpr hc283; have g_hc301 := mt (fa_lt p1 18).mpr hc301; have g_hc319 := mt (fa_lt p1 19).mpr hc319; have g_hc337 := mt (fa_lt p1 20).mpr hc337; have g_hc355 := mt (fa_lt p1 21).mpr hc355; have g_hc373 := mt (fa_lt p1 22).mpr hc373; have g_hc391 := mt (fa_lt p1 23).mpr hc391; have g_hc409 := mt (fa_lt p1 24).mpr hc409; have g_hc427 := mt (fa_lt p1 25).mpr hc427; have g_hc445 := mt (fa_lt p1 26).mpr hc445; have g_hc463 := mt (fa_lt p1 27).mpr hc463; have g_hc481 := mt (fa_lt p1 28).mpr hc481; have g_hc499 := mt (fa_lt p1 29).mpr hc499; have g_hc517 := mt (fa_lt p1 30).mpr hc517; omega)
                                                                    intro v530 ev530; obtain rfl : v530 = 0 := ev530.trans (by decide +kernel)
                                                                    intro v531 ev531; obtain rfl : v531 = 30 := ev531.trans (by decide +kernel)
                                                                    intro v532 ev532; obtain rfl : v532 = 9 := ev532.trans (by decide +kernel)
                                                                    refine Exists.intro 40 ?_
                                                                    refine br_t (by decide +kernel) ?_
                                                                    intro v533 ev533; obtain rfl : v533 = 0 := ev533.trans (by decide +kernel)
                                                                    refine Exists.intro 40 ?_
                                                                    refine br_t (by decide +kernel) ?_
                                                                    refine br_t (by decide +kernel) ?_
                                                                    intro v534 ev534; obtain rfl : v534 = 31 := ev534.trans (by decide +kernel)
                                                                    refine br_t (by decide +kernel) ?_
                                                                    refine Exists.intro 40 ?_
                                                                    refine br_t (by decide +kernel) ?_
                                                                    refine br_f (by decide +kernel) ?_
                                                                    refine And.intro (g_in (by decide +kernel)) ?_
                                                                    intro v535 ev535; obtain rfl : v535 = 1 := ev535.trans (by decide +kernel)
                                                                    refine br_f (by decide +kernel) ?_
                                                                    refine And.intro (g_in (by decide +kernel)) ?_
                                                                    intro v536 ev536; obtain rfl : v536 = 2 := ev536.trans (by decide +kernel)
                                                                    refine br_f (by decide +kernel) ?_
                                                                    refine And.intro (g_in (by decide +kernel)) ?_
                                                                    intro v537 ev537; obtain rfl : v537 = 3 := ev537.trans (by decide +kernel)
                                                                    intro v538 ev538; obtain rfl : v538 = 0 := ev538.trans (by decide +kernel)
                                                                    intro v539 ev539; obtain rfl : v539 = 0 := ev539.trans (by decide +kernel)
                                                                    intro v540 ev540; obtain rfl : v540 = 0 := ev540.trans (by decide +kernel)
                                                                    intro v541 ev541; obtain rfl : v541 = 0 := ev541.trans (by decide +kernel)
                                                                    intro v542 ev542; obtain rfl : v542 = 0 := ev542.trans (by decide +kernel)
                                                                    intro v543 ev543; obtain rfl : v543 = 0 := ev543.trans (by decide +kernel)
                                                                    intro v544 ev544; obtain rfl : v544 = 0 := ev544.trans (by decide +kernel)
                                                                    intro v545 ev545; obtain rfl : v545 = 0 := ev545.trans (by decide +kernel)
                                                                    intro v546 ev546; obtain rfl : v546 = 0 := ev546.trans (by decide +kernel)
                                                                    exact h _ (((((if_neg (by decide +kernel)).trans (if_neg (by decide +kernel))).trans (if_neg (fun q0 => absurd ((fa_lt p2 0).mp q0) (by have l_0 : (0 : Int32).toInt = 0 := (by decide); have l_1 : (10 : Int32).toInt = 10 := (by decide); have g_hc3 := mt (fa_lt p2 0).mpr hc3; have g_hc4 := (fa_le p2 10).mp hc4; omega)))).trans (if_neg (fun q0 => absurd ((fa_lt 10 p2).mp q0) (by have l_0 : (0 : Int32).toInt = 0 := (by decide); have l_1 : (10 : Int32).toInt = 10 := (by decide); have g_hc3 := mt (fa_lt p2 0).mpr hc3; have g_hc4 := (fa_le p2 10).mp hc4; omega)))).symm) _ _
        · skip
          exact h _ (((((if_neg (fun q0 => absurd ((fa_lt p1 1).mp q0) (by have l_0 : (1 : Int32).toInt = 1 := (by decide); have l_1 : (30 : Int32).toInt = 30 := (by decide); have g_hc1 := mt (fa_lt p1 1).mpr hc1; have g_hc2 := mt (fa_lt 30 p1).mpr hc2; omega))).trans (if_neg (fun q0 => absurd ((fa_lt 30 p1).mp q0) (by have l_0 : (1 : Int32).toInt = 1 := (by decide); have l_1 : (30 : Int32).toInt = 30 := (by decide); have g_hc1 := mt (fa_lt p1 1).mpr hc1; have g_hc2 := mt (fa_lt 30 p1).mpr hc2; omega)))).trans (if_neg (fun q0 => absurd ((fa_lt p2 0).mp q0) (by have l_0 : (0 : Int32).toInt = 0 := (by decide); have l_1 : (10 : Int32).toInt = 10 := (by decide); have g_hc3 := mt (fa_lt p2 0).mpr hc3; have g_hc4 := mt (fa_le p2 10).mpr hc4; omega)))).trans (if_pos ((fa_lt 10 p2).mpr (by have l_0 : (0 : Int32).toInt = 0 := (by decide); have l_1 : (10 : Int32).toInt = 10 := (by decide); have g_hc3 := mt (fa_lt p2 0).mpr hc3; have g_hc4 := mt (fa_le p2 10).mpr hc4; omega)))).symm) _ _
