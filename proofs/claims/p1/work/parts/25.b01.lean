set_option maxHeartbeats 8000000 in
set_option maxRecDepth 200000 in
theorem fx_keep (post : Int32 → (Nat → Int32) → (Nat → Int32) → Prop) (p0 : Int32) (h : ∀ r : Int32, r = (if p0 < 0 then 0 else (if 1 < p0 then 0 else 1)) → ∀ o0 : (Nat → Int32), ∀ o1 : (Nat → Int32), post r o0 o1) : wp_X9_keep post p0 0 0 0 0 (-1) 0 0 0 (fun _ => 0) (fun _ => 0) := by
  by_cases hc1 : p0 = 0
  · skip
    obtain rfl : p0 = 0 := (fa_eq _ _).mpr (by have l_0 : (0 : Int32).toInt = 0 := (by decide); have g_hc1 := (fa_eq p0 0).mp hc1; omega)
    refine br_f (by decide +kernel) ?_
    refine br_t (by decide +kernel) ?_
    intro v2 ev2; obtain rfl : v2 = 0 := ev2.trans (by decide +kernel)
    refine br_f (by decide +kernel) ?_
    refine br_t (by decide +kernel) ?_
    refine And.intro (g_in (by decide +kernel)) ?_
    intro v3 ev3; obtain rfl : v3 = 1 := ev3.trans (by decide +kernel)
    refine And.intro (g_in (by decide +kernel)) ?_
    intro v4 ev4; obtain rfl : v4 = 2 := ev4.trans (by decide +kernel)
    refine And.intro (g_in (by decide +kernel)) ?_
    intro v5 ev5; obtain rfl : v5 = 3 := ev5.trans (by decide +kernel)
    refine And.intro (g_in (by decide +kernel)) ?_
    intro v6 ev6; obtain rfl : v6 = 4 := ev6.trans (by decide +kernel)
    refine And.intro (g_in (by decide +kernel)) ?_
    intro v7 ev7; obtain rfl : v7 = 5 := ev7.trans (by decide +kernel)
    refine And.intro (g_in (by decide +kernel)) ?_
    intro v8 ev8; obtain rfl : v8 = 6 := ev8.trans (by decide +kernel)
    refine And.intro (g_in (by decide +kernel)) ?_
    intro v9 ev9; obtain rfl : v9 = 7 := ev9.trans (by decide +kernel)
    refine And.intro (g_in (by decide +kernel)) ?_
    refine And.intro (g_in (by decide +kernel)) ?_
    refine And.intro rfl ?_
    exact h _ (((if_neg (by decide +kernel)).trans (if_neg (by decide +kernel))).symm) _ _
  by_cases hc10 : p0 = 1
  · skip
    obtain rfl : p0 = 1 := (fa_eq _ _).mpr (by have l_0 : (0 : Int32).toInt = 0 := (by decide); have l_1 : (1 : Int32).toInt = 1 := (by decide); have g_hc1 := mt (fa_eq p0 0).mpr hc1; have g_hc10 := (fa_eq p0 1).mp hc10; omega)
    refine br_f (by decide +kernel) ?_
    refine br_t (by decide +kernel) ?_
    intro v11 ev11; obtain rfl : v11 = 8 := ev11.trans (by decide +kernel)
    refine br_f (by decide +kernel) ?_
    refine br_t (by decide +kernel) ?_
    refine And.intro (g_in (by decide +kernel)) ?_
    intro v12 ev12; obtain rfl : v12 = 9 := ev12.trans (by decide +kernel)
    refine And.intro (g_in (by decide +kernel)) ?_
    intro v13 ev13; obtain rfl : v13 = 10 := ev13.trans (by decide +kernel)
    refine And.intro (g_in (by decide +kernel)) ?_
    intro v14 ev14; obtain rfl : v14 = 11 := ev14.trans (by decide +kernel)
    refine And.intro (g_in (by decide +kernel)) ?_
    intro v15 ev15; obtain rfl : v15 = 12 := ev15.trans (by decide +kernel)
    refine And.intro (g_in (by decide +kernel)) ?_
    intro v16 ev16; obtain rfl : v16 = 13 := ev16.trans (by decide +kernel)
    refine And.intro (g_in (by decide +kernel)) ?_
    intro v17 ev17; obtain rfl : v17 = 14 := ev17.trans (by decide +kernel)
    refine And.intro (g_in (by decide +kernel)) ?_
    intro v18 ev18; obtain rfl : v18 = 15 := ev18.trans (by decide +kernel)
    refine And.intro (g_in (by decide +kernel)) ?_
    refine And.intro (g_in (by decide +kernel)) ?_
    refine And.intro rfl ?_
    exact h _ (((if_neg (by decide +kernel)).trans (if_neg (by decide +kernel))).symm) _ _
  refine And.intro (fun hc19 => ?_) (fun hc19 => ?_)
  · skip
    refine And.intro rfl ?_
    exact h _ ((if_pos ((fa_lt p0 0).mpr (by have l_0 : (0 : Int32).toInt = 0 := (by decide); have l_1 : (1 : Int32).toInt = 1 := (by decide); have g_hc1 := mt (fa_eq p0 0).mpr hc1; have g_hc10 := mt (fa_eq p0 1).mpr hc10; have g_hc19 := (fa_lt p0 0).mp hc19; omega))).symm) _ _
  · skip
    refine br_f (fun q0 => absurd ((fa_lt p0 2).mp q0) (by have l_0 : (0 : Int32).toInt = 0 := (by decide); have l_1 : (1 : Int32).toInt = 1 := (by decide); have l_2 : (2 : Int32).toInt = 2 := (by decide); have g_hc1 := mt (fa_eq p0 0).mpr hc1; have g_hc10 := mt (fa_eq p0 1).mpr hc10; have g_hc19 := mt (fa_lt p0 0).mpr hc19; omega)) ?_
    refine And.intro rfl ?_
    exact h _ (((if_neg (fun q0 => absurd ((fa_lt p0 0).mp q0) (by have l_0 : (0 : Int32).toInt = 0 := (by decide); have l_1 : (1 : Int32).toInt = 1 := (by decide); have g_hc1 := mt (fa_eq p0 0).mpr hc1; have g_hc10 := mt (fa_eq p0 1).mpr hc10; have g_hc19 := mt (fa_lt p0 0).mpr hc19; omega))).trans (if_pos ((fa_lt 1 p0).mpr (by have l_0 : (0 : Int32).toInt = 0 := (by decide); have l_1 : (1 : Int32).toInt = 1 := (by decide); have g_hc1 := mt (fa_eq p0 0).mpr hc1; have g_hc10 := mt (fa_eq p0 1).mpr hc10; have g_hc19 := mt (fa_lt p0 0).mpr hc19; omega)))).symm) _ _
set_option maxHeartbeats 8000000 in
set_option maxRecDepth 200000 in
theorem fx_again (post : Int32 → Int32 → Int32 → Int32 → Int32 → Int32 → Int32 → Int32 → Int32 → Int32 → Prop) (p0 : Int32) (h : ∀ r : Int32, r = 0 → ∀ o0 : Int32, ∀ o1 : Int32, ∀ o2 : Int32, ∀ o3 : Int32, ∀ o4 : Int32, ∀ o5 : Int32, ∀ o6 : Int32, ∀ o7 : Int32, ∀ o8 : Int32, post r o0 o1 o2 o3 o4 o5 o6 o7 o8) : wp_X9_again post p0 0 0 0 0 (-1) 0 0 0 0 (fun _ => 0) (fun _ => 0) := by
  by_cases hc1 : p0 = 0
  · skip
    obtain rfl : p0 = 0 := (fa_eq _ _).mpr (by have l_0 : (0 : Int32).toInt = 0 := (by decide); have g_hc1 := (fa_eq p0 0).mp hc1; omega)
    refine br_f (by decide +kernel) ?_
    refine br_f (by decide +kernel) ?_
    refine And.intro (g_in (by decide +kernel)) ?_
    refine And.intro (fun h9 => absurd rfl h9) (fun _ => ?_)
    refine And.intro rfl ?_
    exact h _ (by decide +kernel) _ _ _ _ _ _ _ _ _
  by_cases hc2 : p0 = 1
  · skip
    obtain rfl : p0 = 1 := (fa_eq _ _).mpr (by have l_0 : (0 : Int32).toInt = 0 := (by decide); have l_1 : (1 : Int32).toInt = 1 := (by decide); have g_hc1 := mt (fa_eq p0 0).mpr hc1; have g_hc2 := (fa_eq p0 1).mp hc2; omega)
    refine br_f (by decide +kernel) ?_
    refine br_f (by decide +kernel) ?_
    refine And.intro (g_in (by decide +kernel)) ?_
    refine And.intro (fun h9 => absurd rfl h9) (fun _ => ?_)
    refine And.intro rfl ?_
    exact h _ (by decide +kernel) _ _ _ _ _ _ _ _ _
  refine And.intro (fun hc3 => ?_) (fun hc3 => ?_)
  · skip
    refine And.intro rfl ?_
    exact h _ (by decide +kernel) _ _ _ _ _ _ _ _ _
  · skip
    refine br_t ((fa_le 2 p0).mpr (by have l_0 : (0 : Int32).toInt = 0 := (by decide); have l_1 : (1 : Int32).toInt = 1 := (by decide); have l_2 : (2 : Int32).toInt = 2 := (by decide); have g_hc1 := mt (fa_eq p0 0).mpr hc1; have g_hc2 := mt (fa_eq p0 1).mpr hc2; have g_hc3 := mt (fa_lt p0 0).mpr hc3; omega)) ?_
    refine And.intro rfl ?_
    exact h _ (by decide +kernel) _ _ _ _ _ _ _ _ _
set_option maxHeartbeats 8000000 in
set_option maxRecDepth 200000 in
theorem fx_count (post : Int32 → Prop) (p0 : Int32) (h : ∀ r : Int32, r = (if p0 = 2 then (-1) else (if p0 = 0 then 0 else (if p0 = 1 then 0 else (if p0 = 3 then 0 else (if p0 = 4 then 0 else (if p0 = 5 then 0 else (if p0 = 6 then 0 else (if p0 = 7 then 0 else (if p0 = 8 then 0 else (if p0 = 9 then 0 else (if p0 = 10 then 0 else (if p0 = 11 then 0 else (if p0 = 12 then 0 else (if p0 = 13 then 0 else (-100))))))))))))))) → post r) : wp_X9_count post p0 0 0 0 (fun _ => 0) 0 0 0 0 (-1) 0 0 0 0 := by
  refine And.intro (fun hc1 => ?_) ?_
  · skip
    obtain rfl : p0 = 0 := (fa_eq _ _).mpr (by have l_0 : (0 : Int32).toInt = 0 := (by decide); have g_hc1 := (fa_eq p0 0).mp hc1; omega)
    exact h _ (((if_neg (by decide +kernel)).trans (if_pos (by decide +kernel))).symm)
  refine And.intro (fun hc2 => ?_) ?_
  · skip
    obtain rfl : p0 = 1 := (fa_eq _ _).mpr (by have l_0 : (1 : Int32).toInt = 1 := (by decide); have g_hc2 := (fa_eq p0 1).mp hc2; omega)
    exact h _ ((((if_neg (by decide +kernel)).trans (if_neg (by decide +kernel))).trans (if_pos (by decide +kernel))).symm)
  refine And.intro (fun hc3 => ?_) ?_
  · skip
    obtain rfl : p0 = 2 := (fa_eq _ _).mpr (by have l_0 : (2 : Int32).toInt = 2 := (by decide); have g_hc3 := (fa_eq p0 2).mp hc3; omega)
    exact h _ ((if_pos (by decide +kernel)).symm)
  refine And.intro (fun hc4 => ?_) ?_
  · skip
    obtain rfl : p0 = 3 := (fa_eq _ _).mpr (by have l_0 : (3 : Int32).toInt = 3 := (by decide); have g_hc4 := (fa_eq p0 3).mp hc4; omega)
    exact h _ (((((if_neg (by decide +kernel)).trans (if_neg (by decide +kernel))).trans (if_neg (by decide +kernel))).trans (if_pos (by decide +kernel))).symm)
  refine And.intro (fun hc5 => ?_) ?_
  · skip
    obtain rfl : p0 = 4 := (fa_eq _ _).mpr (by have l_0 : (4 : Int32).toInt = 4 := (by decide); have g_hc5 := (fa_eq p0 4).mp hc5; omega)
    exact h _ ((((((if_neg (by decide +kernel)).trans (if_neg (by decide +kernel))).trans (if_neg (by decide +kernel))).trans (if_neg (by decide +kernel))).trans (if_pos (by decide +kernel))).symm)
  refine And.intro (fun hc6 => ?_) ?_
  · skip
    obtain rfl : p0 = 5 := (fa_eq _ _).mpr (by have l_0 : (5 : Int32).toInt = 5 := (by decide); have g_hc6 := (fa_eq p0 5).mp hc6; omega)
    intro v7 ev7; obtain rfl : v7 = 1 := ev7.trans (by decide +kernel)
    intro v8 ev8; obtain rfl : v8 = 0 := ev8.trans (by decide +kernel)
    intro v9 ev9; obtain rfl : v9 = 0 := ev9.trans (by decide +kernel)
    exact h _ (((((((if_neg (by decide +kernel)).trans (if_neg (by decide +kernel))).trans (if_neg (by decide +kernel))).trans (if_neg (by decide +kernel))).trans (if_neg (by decide +kernel))).trans (if_pos (by decide +kernel))).symm)
  refine And.intro (fun hc10 => ?_) ?_
  · skip
    obtain rfl : p0 = 6 := (fa_eq _ _).mpr (by have l_0 : (6 : Int32).toInt = 6 := (by decide); have g_hc10 := (fa_eq p0 6).mp hc10; omega)
    exact h _ ((((((((if_neg (by decide +kernel)).trans (if_neg (by decide +kernel))).trans (if_neg (by decide +kernel))).trans (if_neg (by decide +kernel))).trans (if_neg (by decide +kernel))).trans (if_neg (by decide +kernel))).trans (if_pos (by decide +kernel))).symm)
  refine And.intro (fun hc11 => ?_) ?_
  · skip
    obtain rfl : p0 = 7 := (fa_eq _ _).mpr (by have l_0 : (7 : Int32).toInt = 7 := (by decide); have g_hc11 := (fa_eq p0 7).mp hc11; omega)
    exact h _ (((((((((if_neg (by decide +kernel)).trans (if_neg (by decide +kernel))).trans (if_neg (by decide +kernel))).trans (if_neg (by decide +kernel))).trans (if_neg (by decide +kernel))).trans (if_neg (by decide +kernel))).trans (if_neg (by decide +kernel))).trans (if_pos (by decide +kernel))).symm)
  refine And.intro (fun hc12 => ?_) ?_
  · skip
    obtain rfl : p0 = 8 := (fa_eq _ _).mpr (by have l_0 : (8 : Int32).toInt = 8 := (by decide); have g_hc12 := (fa_eq p0 8).mp hc12; omega)
    exact h _ ((((((((((if_neg (by decide +kernel)).trans (if_neg (by decide +kernel))).trans (if_neg (by decide +kernel))).trans (if_neg (by decide +kernel))).trans (if_neg (by decide +kernel))).trans (if_neg (by decide +kernel))).trans (if_neg (by decide +kernel))).trans (if_neg (by decide +kernel))).trans (if_pos (by decide +kernel))).symm)
  refine And.intro (fun hc13 => ?_) ?_
  · skip
    obtain rfl : p0 = 9 := (fa_eq _ _).mpr (by have l_0 : (9 : Int32).toInt = 9 := (by decide); have g_hc13 := (fa_eq p0 9).mp hc13; omega)
    exact h _ (((((((((((if_neg (by decide +kernel)).trans (if_neg (by decide +kernel))).trans (if_neg (by decide +kernel))).trans (if_neg (by decide +kernel))).trans (if_neg (by decide +kernel))).trans (if_neg (by decide +kernel))).trans (if_neg (by decide +kernel))).trans (if_neg (by decide +kernel))).trans (if_neg (by decide +kernel))).trans (if_pos (by decide +kernel))).symm)
  refine And.intro (fun hc14 => ?_) ?_
  · skip
    obtain rfl : p0 = 10 := (fa_eq _ _).mpr (by have l_0 : (10 : Int32).toInt = 10 := (by decide); have g_hc14 := (fa_eq p0 10).mp hc14; omega)
    refine Exists.intro 40 ?_
    refine br_t (by decide +kernel) ?_
    exact h _ ((((((((((((if_neg (by decide +kernel)).trans (if_neg (by decide +kernel))).trans (if_neg (by decide +kernel))).trans (if_neg (by decide +kernel))).trans (if_neg (by decide +kernel))).trans (if_neg (by decide +kernel))).trans (if_neg (by decide +kernel))).trans (if_neg (by decide +kernel))).trans (if_neg (by decide +kernel))).trans (if_neg (by decide +kernel))).trans (if_pos (by decide +kernel))).symm)
  refine And.intro (fun hc15 => ?_) ?_
  · skip
    obtain rfl : p0 = 11 := (fa_eq _ _).mpr (by have l_0 : (11 : Int32).toInt = 11 := (by decide); have g_hc15 := (fa_eq p0 11).mp hc15; omega)
    exact h _ (((((((((((((if_neg (by decide +kernel)).trans (if_neg (by decide +kernel))).trans (if_neg (by decide +kernel))).trans (if_neg (by decide +kernel))).trans (if_neg (by decide +kernel))).trans (if_neg (by decide +kernel))).trans (if_neg (by decide +kernel))).trans (if_neg (by decide +kernel))).trans (if_neg (by decide +kernel))).trans (if_neg (by decide +kernel))).trans (if_neg (by decide +kernel))).trans (if_pos (by decide +kernel))).symm)
  refine And.intro (fun hc16 => ?_) ?_
  · skip
    obtain rfl : p0 = 12 := (fa_eq _ _).mpr (by have l_0 : (12 : Int32).toInt = 12 := (by decide); have g_hc16 := (fa_eq p0 12).mp hc16; omega)
    exact h _ ((((((((((((((if_neg (by decide +kernel)).trans (if_neg (by decide +kernel))).trans (if_neg (by decide +kernel))).trans (if_neg (by decide +kernel))).trans (if_neg (by decide +kernel))).trans (if_neg (by decide +kernel))).trans (if_neg (by decide +kernel))).trans (if_neg (by decide +kernel))).trans (if_neg (by decide +kernel))).trans (if_neg (by decide +kernel))).trans (if_neg (by decide +kernel))).trans (if_neg (by decide +kernel))).trans (if_pos (by decide +kernel))).symm)
  refine And.intro (fun hc17 => ?_) ?_
  · skip
    obtain rfl : p0 = 13 := (fa_eq _ _).mpr (by have l_0 : (13 : Int32).toInt = 13 := (by decide); have g_hc17 := (fa_eq p0 13).mp hc17; omega)
    exact h _ (((((((((((((((if_neg (by decide +kernel)).trans (if_neg (by decide +kernel))).trans (if_neg (by decide +kernel))).trans (if_neg (by decide +kernel))).trans (if_neg (by decide +kernel))).trans (if_neg (by decide +kernel))).trans (if_neg (by decide +kernel))).trans (if_neg (by decide +kernel))).trans (if_neg (by decide +kernel))).trans (if_neg (by decide +kernel))).trans (if_neg (by decide +kernel))).trans (if_neg (by decide +kernel))).trans (if_neg (by decide +kernel))).trans (if_pos (by decide +kernel))).symm)
  intro hc18 hc19 hc20 hc21 hc22 hc23 hc24 hc25 hc26 hc27 hc28 hc29 hc30 hc31
  exact h _ (((((((((((((((if_neg (fun q0 => absurd ((fa_eq p0 2).mp q0) (by have l_0 : (0 : Int32).toInt = 0 := (by decide); have l_1 : (1 : Int32).toInt = 1 := (by decide); have l_2 : (10 : Int32).toInt = 10 := (by decide); have l_3 : (11 : Int32).toInt = 11 := (by decide); have l_4 : (12 : Int32).toInt = 12 := (by decide); have l_5 : (13 : Int32).toInt = 13 := (by decide); have l_6 : (2 : Int32).toInt = 2 := (by decide); have l_7 : (3 : Int32).toInt = 3 := (by decide); have l_8 : (4 : Int32).toInt = 4 := (by decide); have l_9 : (5 : Int32).toInt = 5 := (by decide); have l_10 : (6 : Int32).toInt = 6 := (by decide); have l_11 : (7 : Int32).toInt = 7 := (by decide); have l_12 : (8 : Int32).toInt = 8 := (by decide); have l_13 : (9 : Int32).toInt = 9 := (by decide); have g_hc18 := mt (fa_eq p0 0).mpr hc18; have g_hc19 := mt (fa_eq p0 1).mpr hc19; have g_hc20 := mt (fa_eq p0 2).mpr hc20; have g_hc21 := mt (fa_eq p0 3).mpr hc21; have g_hc22 := mt (fa_eq p0 4).mpr hc22; have g_hc23 := mt (fa_eq p0 5).mpr hc23; have g_hc24 := mt (fa_eq p0 6).mpr hc24; have g_hc25 := mt (fa_eq p0 7).mpr hc25; have g_hc26 := mt (fa_eq p0 8).mpr hc26; have g_hc27 := mt (fa_eq p0 9).mpr hc27; have g_hc28 := mt (fa_eq p0 10).mpr hc28; have g_hc29 := mt (fa_eq p0 11).mpr hc29; have g_hc30 := mt (fa_eq p0 12).mpr hc30; have g_hc31 := mt (fa_eq p0 13).mpr hc31; omega))).trans (if_neg (fun q0 => absurd ((fa_eq p0 0).mp q0) (by have l_0 : (0 : Int32).toInt = 0 := (by decide); have l_1 : (1 : Int32).toInt = 1 := (by decide); have l_2 : (10 : Int32).toInt = 10 := (by decide); have l_3 : (11 : Int32).toInt = 11 := (by decide); have l_4 : (12 : Int32).toInt = 12 := (by decide); have l_5 : (13 : Int32).toInt = 13 := (by decide); have l_6 : (2 : Int32).toInt = 2 := (by decide); have l_7 : (3 : Int32).toInt = 3 := (by decide); have l_8 : (4 : Int32).toInt = 4 := (by decide); have l_9 : (5 : Int32).toInt = 5 := (by decide); have l_10 : (6 : Int32).toInt = 6 := (by decide); have l_11 : (7 : Int32).toInt = 7 := (by decide); have l_12 : (8 : Int32).toInt = 8 := (by decide); have l_13 : (9 : Int32).toInt = 9 := (by decide); have g_hc18 := mt (fa_eq p0 0).mpr hc18; have g_hc19 := mt (fa_eq p0 1).mpr hc19; have g_hc20 := mt (fa_eq p0 2).mpr hc20; have g_hc21 := mt (fa_eq p0 3).mpr hc21; have g_hc22 := mt (fa_eq p0 4).mpr hc22; have g_hc23 := mt (fa_eq p0 5).mpr hc23; have g_hc24 := mt (fa_eq p0 6).mpr hc24; have g_hc25 := mt (fa_eq p0 7).mpr hc25; have g_hc26 := mt (fa_eq p0 8).mpr hc26; have g_hc27 := mt (fa_eq p0 9).mpr hc27; have g_hc28 := mt (fa_eq p0 10).mpr hc28; have g_hc29 := mt (fa_eq p0 11).mpr hc29; have g_hc30 := mt (fa_eq p0 12).mpr hc30; have g_hc31 := mt (fa_eq p0 13).mpr hc31; omega)))).trans (if_neg (fun q0 => absurd ((fa_eq p0 1).mp q0) (by have l_0 : (0 : Int32).toInt = 0 := (by decide); have l_1 : (1 : Int32).toInt = 1 := (by decide); have l_2 : (10 : Int32).toInt = 10 := (by decide); have l_3 : (11 : Int32).toInt = 11 := (by decide); have l_4 : (12 : Int32).toInt = 12 := (by decide); have l_5 : (13 : Int32).toInt = 13 := (by decide); have l_6 : (2 : Int32).toInt = 2 := (by decide); have l_7 : (3 : Int32).toInt = 3 := (by decide); have l_8 : (4 : Int32).toInt = 4 := (by decide); have l_9 : (5 : Int32).toInt = 5 := (by decide); have l_10 : (6 : Int32).toInt = 6 := (by decide); have l_11 : (7 : Int32).toInt = 7 := (by decide); have l_12 : (8 : Int32).toInt = 8 := (by decide); have l_13 : (9 : Int32).toInt = 9 := (by decide); have g_hc18 := mt (fa_eq p0 0).mpr hc18; have g_hc19 := mt (fa_eq p0 1).mpr hc19; have g_hc20 := mt (fa_eq p0 2).mpr hc20; have g_hc21 := mt (fa_eq p0 3).mpr hc21; have g_hc22 := mt (fa_eq p0 4).mpr hc22; have g_hc23 := mt (fa_eq p0 5).mpr hc23; have g_hc24 := mt (fa_eq p0 6).mpr hc24; have g_hc25 := mt (fa_eq p0 7).mpr hc25; have g_hc26 := mt (fa_eq p0 8).mpr hc26; have g_hc27 := mt (fa_eq p0 9).mpr hc27; have g_hc28 := mt (fa_eq p0 10).mpr hc28; have g_hc29 := mt (fa_eq p0 11).mpr hc29; have g_hc30 := mt (fa_eq p0 12).mpr hc30; have g_hc31 := mt (fa_eq p0 13).mpr hc31; omega)))).trans (if_neg (fun q0 => absurd ((fa_eq p0 3).mp q0) (by have l_0 : (0 : Int32).toInt = 0 := (by decide); have l_1 : (1 : Int32).toInt = 1 := (by decide); have l_2 : (10 : Int32).toInt = 10 := (by decide); have l_3 : (11 : Int32).toInt = 11 := (by decide); have l_4 : (12 : Int32).toInt = 12 := (by decide); have l_5 : (13 : Int32).toInt = 13 := (by decide); have l_6 : (2 : Int32).toInt = 2 := (by decide); have l_7 : (3 : Int32).toInt = 3 := (by decide); have l_8 : (4 : Int32).toInt = 4 := (by decide); have l_9 : (5 : Int32).toInt = 5 := (by decide); have l_10 : (6 : Int32).toInt = 6 := (by decide); have l_11 : (7 : Int32).toInt = 7 := (by decide); have l_12 : (8 : Int32).toInt = 8 := (by decide); have l_13 : (9 : Int32).toInt = 9 := (by decide); have g_hc18 := mt (fa_eq p0 0).mpr hc18; have g_hc19 := mt (fa_eq p0 1).mpr hc19; have g_hc20 := mt (fa_eq p0 2).mpr hc20; have g_hc21 := mt (fa_eq p0 3).mpr hc21; have g_hc22 := mt (fa_eq p0 4).mpr hc22; have g_hc23 := mt (fa_eq p0 5).mpr hc23; have g_hc24 := mt (fa_eq p0 6).mpr hc24; have g_hc25 := mt (fa_eq p0 7).mpr hc25; have g_hc26 := mt (fa_eq p0 8).mpr hc26; have g_hc27 := mt (fa_eq p0 9).mpr hc27; have g_hc28 := mt (fa_eq p0 10).mpr hc28; have g_hc29 := mt (fa_eq p0 11).mpr hc29; have g_hc30 := mt (fa_eq p0 12).mpr hc30; have g_hc31 := mt (fa_eq p0 13).mpr hc31; omega)))).trans (if_neg (fun q0 => absurd ((fa_eq p0 4).mp q0) (by have l_0 : (0 : Int32).toInt = 0 := (by decide); have l_1 : (1 : Int32).toInt = 1 := (by decide); have l_2 : (10 : Int32).toInt = 10 := (by decide); have l_3 : (11 : Int32).toInt = 11 := (by decide); have l_4 : (12 : Int32).toInt = 12 := (by decide); have l_5 : (13 : Int32).toInt = 13 := (by decide); have l_6 : (2 : Int32).toInt = 2 := (by decide); have l_7 : (3 : Int32).toInt = 3 := (by decide); have l_8 : (4 : Int32).toInt = 4 := (by decide); have l_9 : (5 : Int32).toInt = 5 := (by decide); have l_10 : (6 : Int32).toInt = 6 := (by decide); have l_11 : (7 : Int32).toInt = 7 := (by decide); have l_12 : (8 : Int32).toInt = 8 := (by decide); have l_13 : (9 : Int32).toInt = 9 := (by decide); have g_hc18 := mt (fa_eq p0 0).mpr hc18; have g_hc19 := mt (fa_eq p0 1).mpr hc19; have g_hc20 := mt (fa_eq p0 2).mpr hc20; have g_hc21 := mt (fa_eq p0 3).mpr hc21; have g_hc22 := mt (fa_eq p0 4).mpr hc22; have g_hc23 := mt (fa_eq p0 5).mpr hc23; have g_hc24 := mt (fa_eq p0 6).mpr hc24; have g_hc25 := mt (fa_eq p0 7).mpr hc25; have g_hc26 := mt (fa_eq p0 8).mpr hc26; have g_hc27 := mt (fa_eq p0 9).mpr hc27; have g_hc28 := mt (fa_eq p0 10).mpr hc28; have g_hc29 := mt (fa_eq p0 11).mpr hc29; have g_hc30 := mt (fa_eq p0 12).mpr hc30; have g_hc31 := mt (fa_eq p0 13).mpr hc31; omega)))).trans (if_neg (fun q0 => absurd ((fa_eq p0 5).mp q0) (by have l_0 : (0 : Int32).toInt = 0 := (by decide); have l_1 : (1 : Int32).toInt = 1 := (by decide); have l_2 : (10 : Int32).toInt = 10 := (by decide); have l_3 : (11 : Int32).toInt = 11 := (by decide); have l_4 : (12 : Int32).toInt = 12 := (by decide); have l_5 : (13 : Int32).toInt = 13 := (by decide); have l_6 : (2 : Int32).toInt = 2 := (by decide); have l_7 : (3 : Int32).toInt = 3 := (by decide); have l_8 : (4 : Int32).toInt = 4 := (by decide); have l_9 : (5 : Int32).toInt = 5 := (by decide); have l_10 : (6 : Int32).toInt = 6 := (by decide); have l_11 : (7 : Int32).toInt = 7 := (by decide); have l_12 : (8 : Int32).toInt = 8 := (by decide); have l_13 : (9 : Int32).toInt = 9 := (by decide); have g_hc18 := mt (fa_eq p0 0).mpr hc18; have g_hc19 := mt (fa_eq p0 1).mpr hc19; have g_hc20 := mt (fa_eq p0 2).mpr hc20; have g_hc21 := mt (fa_eq p0 3).mpr hc21; have g_hc22 := mt (fa_eq p0 4).mpr hc22; have g_hc23 := mt (fa_eq p0 5).mpr hc23; have g_hc24 := mt (fa_eq p0 6).mpr hc24; have g_hc25 := mt (fa_eq p0 7).mpr hc25; have g_hc26 := mt (fa_eq p0 8).mpr hc26; have g_hc27 := mt (fa_eq p0 9).mpr hc27; have g_hc28 := mt (fa_eq p0 10).mpr hc28; have g_hc29 := mt (fa_eq p0 11).mpr hc29; have g_hc30 := mt (fa_eq p0 12).mpr hc30; have g_hc31 := mt (fa_eq p0 13).mpr hc31; omega)))).trans (if_neg (fun q0 => absurd ((fa_eq p0 6).mp q0) (by have l_0 : (0 : Int32).toInt = 0 := (by decide); have l_1 : (1 : Int32).toInt = 1 := (by decide); have l_2 : (10 : Int32).toInt = 10 := (by decide); have l_3 : (11 : Int32).toInt = 11 := (by decide); have l_4 : (12 : Int32).toInt = 12 := (by decide); have l_5 : (13 : Int32).toInt = 13 := (by decide); have l_6 : (2 : Int32).toInt = 2 := (by decide); have l_7 : (3 : Int32).toInt = 3 := (by decide); have l_8 : (4 : Int32).toInt = 4 := (by decide); have l_9 : (5 : Int32).toInt = 5 := (by decide); have l_10 : (6 : Int32).toInt = 6 := (by decide); have l_11 : (7 : Int32).toInt = 7 := (by decide); have l_12 : (8 : Int32).toInt = 8 := (by decide); have l_13 : (9 : Int32).toInt = 9 := (by decide); have g_hc18 := mt (fa_eq p0 0).mpr hc18; have g_hc19 := mt (fa_eq p0 1).mpr hc19; have g_hc20 := mt (fa_eq p0 2).mpr hc20; have g_hc21 := mt (fa_eq p0 3).mpr hc21; have g_hc22 := mt (fa_eq p0 4).mpr hc22; have g_hc23 := mt (fa_eq p0 5).mpr hc23; have g_hc24 := mt (fa_eq p0 6).mpr hc24; have g_hc25 := mt (fa_eq p0 7).mpr hc25; have g_hc26 := mt (fa_eq p0 8).mpr hc26; have g_hc27 := mt (fa_eq p0 9).mpr hc27; have g_hc28 := mt (fa_eq p0 10).mpr hc28; have g_hc29 := mt (fa_eq p0 11).mpr hc29; have g_hc30 := mt (fa_eq p0 12).mpr hc30; have g_hc31 := mt (fa_eq p0 13).mpr hc31; omega)))).trans (if_neg (fun q0 => absurd ((fa_eq p0 7).mp q0) (by have l_0 : (0 : Int32).toInt = 0 := (by decide); have l_1 : (1 : Int32).toInt = 1 := (by decide); have l_2 : (10 : Int32).toInt = 10 := (by decide); have l_3 : (11 : Int32).toInt = 11 := (by decide); have l_4 : (12 : Int32).toInt = 12 := (by decide); have l_5 : (13 : Int32).toInt = 13 := (by decide); have l_6 : (2 : Int32).toInt = 2 := (by decide); have l_7 : (3 : Int32).toInt = 3 := (by decide); have l_8 : (4 : Int32).toInt = 4 := (by decide); have l_9 : (5 : Int32).toInt = 5 := (by decide); have l_10 : (6 : Int32).toInt = 6 := (by decide); have l_11 : (7 : Int32).toInt = 7 := (by decide); have l_12 : (8 : Int32).toInt = 8 := (by decide); have l_13 : (9 : Int32).toInt = 9 := (by decide); have g_hc18 := mt (fa_eq p0 0).mpr hc18; have g_hc19 := mt (fa_eq p0 1).mpr hc19; have g_hc20 := mt (fa_eq p0 2).mpr hc20; have g_hc21 := mt (fa_eq p0 3).mpr hc21; have g_hc22 := mt (fa_eq p0 4).mpr hc22; have g_hc23 := mt (fa_eq p0 5).mpr hc23; have g_hc24 := mt (fa_eq p0 6).mpr hc24; have g_hc25 := mt (fa_eq p0 7).mpr hc25; have g_hc26 := mt (fa_eq p0 8).mpr hc26; have g_hc27 := mt (fa_eq p0 9).mpr hc27; have g_hc28 := mt (fa_eq p0 10).mpr hc28; have g_hc29 := mt (fa_eq p0 11).mpr hc29; have g_hc30 := mt (fa_eq p0 12).mpr hc30; have g_hc31 := mt (fa_eq p0 13).mpr hc31; omega)))).trans (if_neg (fun q0 => absurd ((fa_eq p0 8).mp q0) (by have l_0 : (0 : Int32).toInt = 0 := (by decide); have l_1 : (1 : Int32).toInt = 1 := (by decide); have l_2 : (10 : Int32).toInt = 10 := (by decide); have l_3 : (11 : Int32).toInt = 11 := (by decide); have l_4 : (12 : Int32).toInt = 12 := (by decide); have l_5 : (13 : Int32).toInt = 13 := (by decide); have l_6 : (2 : Int32).toInt = 2 := (by decide); have l_7 : (3 : Int32).toInt = 3 := (by decide); have l_8 : (4 : Int32).toInt = 4 := (by decide); have l_9 : (5 : Int32).toInt = 5 := (by decide); have l_10 : (6 : Int32).toInt = 6 := (by decide); have l_11 : (7 : Int32).toInt = 7 := (by decide); have l_12 : (8 : Int32).toInt = 8 := (by decide); have l_13 : (9 : Int32).toInt = 9 := (by decide); have g_hc18 := mt (fa_eq p0 0).mpr hc18; have g_hc19 := mt (fa_eq p0 1).mpr hc19; have g_hc20 := mt (fa_eq p0 2).mpr hc20; have g_hc21 := mt (fa_eq p0 3).mpr hc21; have g_hc22 := mt (fa_eq p0 4).mpr hc22; have g_hc23 := mt (fa_eq p0 5).mpr hc23; have g_hc24 := mt (fa_eq p0 6).mpr hc24; have g_hc25 := mt (fa_eq p0 7).mpr hc25; have g_hc26 := mt (fa_eq p0 8).mpr hc26; have g_hc27 := mt (fa_eq p0 9).mpr hc27; have g_hc28 := mt (fa_eq p0 10).mpr hc28; have g_hc29 := mt (fa_eq p0 11).mpr hc29; have g_hc30 := mt (fa_eq p0 12).mpr hc30; have g_hc31 := mt (fa_eq p0 13).mpr hc31; omega)))).trans (if_neg (fun q0 => absurd ((fa_eq p0 9).mp q0) (by have l_0 : (0 : Int32).toInt = 0 := (by decide); have l_1 : (1 : Int32).toInt = 1 := (by decide); have l_2 : (10 : Int32).toInt = 10 := (by decide); have l_3 : (11 : Int32).toInt = 11 := (by decide); have l_4 : (12 : Int32).toInt = 12 := (by decide); have l_5 : (13 : Int32).toInt = 13 := (by decide); have l_6 : (2 : Int32).toInt = 2 := (by decide); have l_7 : (3 : Int32).toInt = 3 := (by decide); have l_8 : (4 : Int32).toInt = 4 := (by decide); have l_9 : (5 : Int32).toInt = 5 := (by decide); have l_10 : (6 : Int32).toInt = 6 := (by decide); have l_11 : (7 : Int32).toInt = 7 := (by decide); have l_12 : (8 : Int32).toInt = 8 := (by decide); have l_13 : (9 : Int32).toInt = 9 := (by decide); have g_hc18 := mt (fa_eq p0 0).mpr hc18; have g_hc19 := mt (fa_eq p0 1).mpr hc19; have g_hc20 := mt (fa_eq p0 2).mpr hc20; have g_hc21 := mt (fa_eq p0 3).mpr hc21; have g_hc22 := mt (fa_eq p0 4).mpr hc22; have g_hc23 := mt (fa_eq p0 5).mpr hc23; have g_hc24 := mt (fa_eq p0 6).mpr hc24; have g_hc25 := mt (fa_eq p0 7).mpr hc25; have g_hc26 := mt (fa_eq p0 8).mpr hc26; have g_hc27 := mt (fa_eq p0 9).mpr hc27; have g_hc28 := mt (fa_eq p0 10).mpr hc28; have g_hc29 := mt (fa_eq p0 11).mpr hc29; have g_hc30 := mt (fa_eq p0 12).mpr hc30; have g_hc31 := mt (fa_eq p0 13).mpr hc31; omega)))).trans (if_neg (fun q0 => absurd ((fa_eq p0 10).mp q0) (by have l_0 : (0 : Int32).toInt = 0 := (by decide); have l_1 : (1 : Int32).toInt = 1 := (by decide); have l_2 : (10 : Int32).toInt = 10 := (by decide); have l_3 : (11 : Int32).toInt = 11 := (by decide); have l_4 : (12 : Int32).toInt = 12 := (by decide); have l_5 : (13 : Int32).toInt = 13 := (by decide); have l_6 : (2 : Int32).toInt = 2 := (by decide); have l_7 : (3 : Int32).toInt = 3 := (by decide); have l_8 : (4 : Int32).toInt = 4 := (by decide); have l_9 : (5 : Int32).toInt = 5 := (by decide); have l_10 : (6 : Int32).toInt = 6 := (by decide); have l_11 : (7 : Int32).toInt = 7 := (by decide); have l_12 : (8 : Int32).toInt = 8 := (by decide); have l_13 : (9 : Int32).toInt = 9 := (by decide); have g_hc18 := mt (fa_eq p0 0).mpr hc18; have g_hc19 := mt (fa_eq p0 1).mpr hc19; have g_hc20 := mt (fa_eq p0 2).mpr hc20; have g_hc21 := mt (fa_eq p0 3).mpr hc21; have g_hc22 := mt (fa_eq p0 4).mpr hc22; have g_hc23 := mt (fa_eq p0 5).mpr hc23; have g_hc24 := mt (fa_eq p0 6).mpr hc24; have g_hc25 := mt (fa_eq p0 7).mpr hc25; have g_hc26 := mt (fa_eq p0 8).mpr hc26; have g_hc27 := mt (fa_eq p0 9).mpr hc27; have g_hc28 := mt (fa_eq p0 10).mpr hc28; have g_hc29 := mt (fa_eq p0 11).mpr hc29; have g_hc30 := mt (fa_eq p0 12).mpr hc30; have g_hc31 := mt (fa_eq p0 13).mpr hc31; omega)))).trans (if_neg (fun q0 => absurd ((fa_eq p0 11).mp q0) (by have l_0 : (0 : Int32).toInt = 0 := (by decide); have l_1 : (1 : Int32).toInt = 1 := (by decide); have l_2 : (10 : Int32).toInt = 10 := (by decide); have l_3 : (11 : Int32).toInt = 11 := (by decide); have l_4 : (12 : Int32).toInt = 12 := (by decide); have l_5 : (13 : Int32).toInt = 13 := (by decide); have l_6 : (2 : Int32).toInt = 2 := (by decide); have l_7 : (3 : Int32).toInt = 3 := (by decide); have l_8 : (4 : Int32).toInt = 4 := (by decide); have l_9 : (5 : Int32).toInt = 5 := (by decide); have l_10 : (6 : Int32).toInt = 6 := (by decide); have l_11 : (7 : Int32).toInt = 7 := (by decide); have l_12 : (8 : Int32).toInt = 8 := (by decide); have l_13 : (9 : Int32).toInt = 9 := (by decide); have g_hc18 := mt (fa_eq p0 0).mpr hc18; have g_hc19 := mt (fa_eq p0 1).mpr hc19; have g_hc20 := mt (fa_eq p0 2).mpr hc20; have g_hc21 := mt (fa_eq p0 3).mpr hc21; have g_hc22 := mt (fa_eq p0 4).mpr hc22; have g_hc23 := mt (fa_eq p0 5).mpr hc23; have g_hc24 := mt (fa_eq p0 6).mpr hc24; have g_hc25 := mt (fa_eq p0 7).mpr hc25; have g_hc26 := mt (fa_eq p0 8).mpr hc26; have g_hc27 := mt (fa_eq p0 9).mpr hc27; have g_hc28 := mt (fa_eq p0 10).mpr hc28; have g_hc29 := mt (fa_eq p0 11).mpr hc29; have g_hc30 := mt (fa_eq p0 12).mpr hc30; have g_hc31 := mt (fa_eq p0 13).mpr hc31; omega)))).trans (if_neg (fun q0 => absurd ((fa_eq p0 12).mp q0) (by have l_0 : (0 : Int32).toInt = 0 := (by decide); have l_1 : (1 : Int32).toInt = 1 := (by decide); have l_2 : (10 : Int32).toInt = 10 := (by decide); have l_3 : (11 : Int32).toInt = 11 := (by decide); have l_4 : (12 : Int32).toInt = 12 := (by decide); have l_5 : (13 : Int32).toInt = 13 := (by decide); have l_6 : (2 : Int32).toInt = 2 := (by decide); have l_7 : (3 : Int32).toInt = 3 := (by decide); have l_8 : (4 : Int32).toInt = 4 := (by decide); have l_9 : (5 : Int32).toInt = 5 := (by decide); have l_10 : (6 : Int32).toInt = 6 := (by decide); have l_11 : (7 : Int32).toInt = 7 := (by decide); have l_12 : (8 : Int32).toInt = 8 := (by decide); have l_13 : (9 : Int32).toInt = 9 := (by decide); have g_hc18 := mt (fa_eq p0 0).mpr hc18; have g_hc19 := mt (fa_eq p0 1).mpr hc19; have g_hc20 := mt (fa_eq p0 2).mpr hc20; have g_hc21 := mt (fa_eq p0 3).mpr hc21; have g_hc22 := mt (fa_eq p0 4).mpr hc22; have g_hc23 := mt (fa_eq p0 5).mpr hc23; have g_hc24 := mt (fa_eq p0 6).mpr hc24; have g_hc25 := mt (fa_eq p0 7).mpr hc25; have g_hc26 := mt (fa_eq p0 8).mpr hc26; have g_hc27 := mt (fa_eq p0 9).mpr hc27; have g_hc28 := mt (fa_eq p0 10).mpr hc28; have g_hc29 := mt (fa_eq p0 11).mpr hc29; have g_hc30 := mt (fa_eq p0 12).mpr hc30; have g_hc31 := mt (fa_eq p0 13).mpr hc31; omega)))).trans (if_neg (fun q0 => absurd ((fa_eq p0 13).mp q0) (by have l_0 : (0 : Int32).toInt = 0 := (by decide); have l_1 : (1 : Int32).toInt = 1 := (by decide); have l_2 : (10 : Int32).toInt = 10 := (by decide); have l_3 : (11 : Int32).toInt = 11 := (by decide); have l_4 : (12 : Int32).toInt = 12 := (by decide); have l_5 : (13 : Int32).toInt = 13 := (by decide); have l_6 : (2 : Int32).toInt = 2 := (by decide); have l_7 : (3 : Int32).toInt = 3 := (by decide); have l_8 : (4 : Int32).toInt = 4 := (by decide); have l_9 : (5 : Int32).toInt = 5 := (by decide); have l_10 : (6 : Int32).toInt = 6 := (by decide); have l_11 : (7 : Int32).toInt = 7 := (by decide); have l_12 : (8 : Int32).toInt = 8 := (by decide); have l_13 : (9 : Int32).toInt = 9 := (by decide); have g_hc18 := mt (fa_eq p0 0).mpr hc18; have g_hc19 := mt (fa_eq p0 1).mpr hc19; have g_hc20 := mt (fa_eq p0 2).mpr hc20; have g_hc21 := mt (fa_eq p0 3).mpr hc21; have g_hc22 := mt (fa_eq p0 4).mpr hc22; have g_hc23 := mt (fa_eq p0 5).mpr hc23; have g_hc24 := mt (fa_eq p0 6).mpr hc24; have g_hc25 := mt (fa_eq p0 7).mpr hc25; have g_hc26 := mt (fa_eq p0 8).mpr hc26; have g_hc27 := mt (fa_eq p0 9).mpr hc27; have g_hc28 := mt (fa_eq p0 10).mpr hc28; have g_hc29 := mt (fa_eq p0 11).mpr hc29; have g_hc30 := mt (fa_eq p0 12).mpr hc30; have g_hc31 := mt (fa_eq p0 13).mpr hc31; omega)))).symm)
set_option maxHeartbeats 8000000 in
set_option maxRecDepth 200000 in
theorem fxt_fruit (post : Int32 → Prop) (postx : Prop) (p0 : Int32) (p1 : Int32) (h : postx) : wp_X9_fruit post postx p0 p1 0 (fun _ => 0) (fun _ => 0) (fun _ => 0) (fun _ => 0) 0 0 0 0 := by
  refine And.intro (fun hc1 => ?_) (fun hc1 => ?_)
  · skip
    refine And.intro (fun h9 => absurd rfl h9) (fun _ => ?_)
    exact h
  · skip
    refine br_t ((fa_le 0 p0).mpr (by have l_0 : (0 : Int32).toInt = 0 := (by decide); have g_hc1 := mt (fa_lt p0 0).mpr hc1; omega)) ?_
    refine And.intro (fun h9 => absurd rfl h9) (fun _ => ?_)
    exact h
set_option maxHeartbeats 8000000 in
set_option maxRecDepth 200000 in
theorem fxt_standing (post : Int32 → Prop) (postx : Prop) (p0 : Int32) (p1 : Int32) (h : postx) : wp_X9_standing post postx p0 p1 0 (fun _ => 0) (fun _ => 0) := by
  refine And.intro (fun hc1 => ?_) (fun hc1 => ?_)
  · skip
    refine And.intro (fun h9 => absurd rfl h9) (fun _ => ?_)
    exact h
  · skip
    refine br_t ((fa_le 0 p0).mpr (by have l_0 : (0 : Int32).toInt = 0 := (by decide); have g_hc1 := mt (fa_lt p0 0).mpr hc1; omega)) ?_
    refine And.intro (fun h9 => absurd rfl h9) (fun _ => ?_)
    exact h
set_option maxHeartbeats 8000000 in
set_option maxRecDepth 200000 in
theorem fxt_row (post : Int32 → Prop) (postx : Prop) (p0 : Int32) (h : postx) : wp_X9_row post postx p0 0 (fun _ => 0) := by
  refine And.intro (fun hc1 => ?_) (fun hc1 => ?_)
  · skip
    exact h
  · skip
    refine br_f (fun q0 => absurd ((fa_lt p0 0).mp q0) (by have l_0 : (0 : Int32).toInt = 0 := (by decide); have g_hc1 := mt (fa_lt p0 0).mpr hc1; omega)) ?_
    exact h
set_option maxHeartbeats 8000000 in
set_option maxRecDepth 200000 in
theorem fm_sign (post : Int32 → Int32 → Int32 → (Nat → Int32) → Prop) (p0 : Int32) (h : ∀ r : Int32, r = 4 → ∀ o0 : Int32, ∀ o1 : Int32, ∀ o2 : (Nat → Int32), post r o0 o1 o2) : wp_X10_sign post p0 0 0 (fun _ => 0) := by
  intro v1 ev1; obtain rfl : v1 = 4 := ev1.trans (by decide +kernel)
  refine br_t (by decide +kernel) ?_
  refine Exists.intro 40 ?_
  refine br_f (by decide +kernel) ?_
  intro v2 ev2; obtain rfl : v2 = 1 := ev2.trans (by decide +kernel)
  intro v3 ev3; subst ev3
  refine And.intro (g_in (by decide +kernel)) ?_
  intro v4 ev4; obtain rfl : v4 = 2 := ev4.trans (by decide +kernel)
  refine br_f (by decide +kernel) ?_
  intro v5 ev5; obtain rfl : v5 = 2 := ev5.trans (by decide +kernel)
  intro v6 ev6; subst ev6
  refine And.intro (g_in (by decide +kernel)) ?_
  intro v7 ev7; obtain rfl : v7 = 1 := ev7.trans (by decide +kernel)
  refine br_f (by decide +kernel) ?_
  intro v8 ev8; obtain rfl : v8 = 3 := ev8.trans (by decide +kernel)
  intro v9 ev9; subst ev9
  refine And.intro (g_in (by decide +kernel)) ?_
  intro v10 ev10; obtain rfl : v10 = 0 := ev10.trans (by decide +kernel)
  refine br_f (by decide +kernel) ?_
  intro v11 ev11; obtain rfl : v11 = 4 := ev11.trans (by decide +kernel)
  intro v12 ev12; subst ev12
  refine And.intro (g_in (by decide +kernel)) ?_
  intro v13 ev13; obtain rfl : v13 = (-1) := ev13.trans (by decide +kernel)
  refine br_t (by decide +kernel) ?_
  exact h _ (by decide +kernel) _ _ _
set_option maxHeartbeats 8000000 in
set_option maxRecDepth 200000 in
theorem fm_end (post : Int32 → Int32 → Int32 → Prop) (p0 : Int32) (h : ∀ r : Int32, r = (if p0 = 0 then 1 else 0) → ∀ o0 : Int32, ∀ o1 : Int32, post r o0 o1) : wp_X10_end post p0 0 0 := by
  refine And.intro (fun hc1 => ?_) (fun hc1 => ?_)
  · skip
    refine And.intro (fun h9 => absurd rfl h9) (fun _ => ?_)
    exact h _ ((if_neg (fun q0 => absurd ((fa_eq p0 0).mp q0) (by have l_0 : (0 : Int32).toInt = 0 := (by decide); have g_hc1 := (fa_lt p0 0).mp hc1; omega))).symm) _ _
  · skip
    refine And.intro (fun hc2 => ?_) (fun hc2 => ?_)
    · skip
      refine And.intro (fun h9 => absurd rfl h9) (fun _ => ?_)
      exact h _ ((if_neg (fun q0 => absurd ((fa_eq p0 0).mp q0) (by have l_0 : (0 : Int32).toInt = 0 := (by decide); have g_hc1 := mt (fa_lt p0 0).mpr hc1; have g_hc2 := (fa_lt 0 p0).mp hc2; omega))).symm) _ _
    · skip
      obtain rfl : p0 = 0 := (fa_eq _ _).mpr (by have l_0 : (0 : Int32).toInt = 0 := (by decide); have g_hc1 := mt (fa_lt p0 0).mpr hc1; have g_hc2 := mt (fa_lt 0 p0).mpr hc2; omega)
      refine And.intro (fun _ => ?_) (fun h9 => absurd h9 (by decide +kernel))
      exact h _ ((if_pos (by decide +kernel)).symm) _ _
set_option maxHeartbeats 8000000 in
set_option maxRecDepth 200000 in
theorem fm_orchard (post : Int32 → Int32 → Int32 → Int32 → Int32 → Nat → Int32 → Int32 → Int32 → Int32 → Int32 → Int32 → Int32 → Int32 → (Nat → Int32) → (Nat → Int32) → (Nat → Int32) → (Nat → Int32) → (Nat → Int32) → (Nat → Int32) → (Nat → Int32) → (Nat → Int32) → (Nat → Int32) → Prop) (h : ∀ r : Int32, r = 0 → ∀ o0 : Int32, ∀ o1 : Int32, ∀ o2 : Int32, ∀ o3 : Int32, ∀ o4 : Nat, ∀ o5 : Int32, ∀ o6 : Int32, ∀ o7 : Int32, ∀ o8 : Int32, ∀ o9 : Int32, ∀ o10 : Int32, ∀ o11 : Int32, ∀ o12 : Int32, ∀ o13 : (Nat → Int32), ∀ o14 : (Nat → Int32), ∀ o15 : (Nat → Int32), ∀ o16 : (Nat → Int32), ∀ o17 : (Nat → Int32), ∀ o18 : (Nat → Int32), ∀ o19 : (Nat → Int32), ∀ o20 : (Nat → Int32), ∀ o21 : (Nat → Int32), post r o0 o1 o2 o3 o4 o5 o6 o7 o8 o9 o10 o11 o12 o13 o14 o15 o16 o17 o18 o19 o20 o21) : wp_X10_orchard post 0 0 0 0 0 0 0 0 0 0 0 0 0 (upd (fun _ => 0) (17 : Int32).toNatClampNeg (-1)) (fun _ => 0) (fun _ => 0) (fun _ => 0) (fun _ => 0) (fun _ => 0) (fun _ => 0) (fun _ => 0) (fun _ => 0) (fun _ => 0) (fun _ => 0) := by
  refine And.intro (fun h9 => absurd rfl h9) (fun _ => ?_)
  exact h _ (by decide +kernel) _ _ _ _ _ _ _ _ _ _ _ _ _ _ _ _ _ _ _ _ _ _
set_option maxHeartbeats 8000000 in
set_option maxRecDepth 200000 in
theorem fm_rule (post : Int32 → Int32 → Int32 → Nat → Int32 → Int32 → Int32 → Int32 → Int32 → Int32 → (Nat → Int32) → Prop) (h : ∀ r : Int32, r = 0 → ∀ o0 : Int32, ∀ o1 : Int32, ∀ o2 : Nat, ∀ o3 : Int32, ∀ o4 : Int32, ∀ o5 : Int32, ∀ o6 : Int32, ∀ o7 : Int32, ∀ o8 : Int32, ∀ o9 : (Nat → Int32), post r o0 o1 o2 o3 o4 o5 o6 o7 o8 o9) : wp_X10_rule post 0 0 0 0 0 0 0 0 0 0 0 0 0 (fun _ => 0) (fun _ => 0) (fun _ => 0) (fun _ => 0) (fun _ => 0) (fun _ => 0) (fun _ => 0) := by
  refine br_t (by decide +kernel) ?_
  refine Exists.intro 40 ?_
  refine br_t (by decide +kernel) ?_
  exact h _ (by decide +kernel) _ _ _ _ _ _ _ _ _ _
set_option maxHeartbeats 8000000 in
set_option maxRecDepth 200000 in
theorem fm_sheet (post : Int32 → Int32 → (Nat → Int32) → Prop) (p0 : Int32) (p1 : Int32) (p2 : Int32) (p3 : Int32) (h : ∀ r : Int32, r = (if p0 < 0 then (-1) else (if 3 < p0 then (-1) else (if 16 < p1 then (-1) else (if p0 = 3 then (-3) else (if p1 < 0 then (-2) else 0))))) → ∀ o0 : Int32, ∀ o1 : (Nat → Int32), post r o0 o1) : wp_X10_sheet post p0 p1 p2 p3 0 0 (fun _ => 0) := by
  refine And.intro (fun hc1 => ?_) (fun hc1 => ?_)
  · skip
    refine br_t (by decide +kernel) ?_
    exact h _ ((if_pos ((fa_lt p0 0).mpr (by have l_0 : (0 : Int32).toInt = 0 := (by decide); have g_hc1 := (fa_lt p0 0).mp hc1; omega))).symm) _ _
  · skip
    refine And.intro (fun hc2 => ?_) (fun hc2 => ?_)
    · skip
      refine br_t (by decide +kernel) ?_
      exact h _ (((if_neg (fun q0 => absurd ((fa_lt p0 0).mp q0) (by have l_0 : (0 : Int32).toInt = 0 := (by decide); have l_1 : (3 : Int32).toInt = 3 := (by decide); have g_hc1 := mt (fa_lt p0 0).mpr hc1; have g_hc2 := (fa_lt 3 p0).mp hc2; omega))).trans (if_pos ((fa_lt 3 p0).mpr (by have l_0 : (0 : Int32).toInt = 0 := (by decide); have l_1 : (3 : Int32).toInt = 3 := (by decide); have g_hc1 := mt (fa_lt p0 0).mpr hc1; have g_hc2 := (fa_lt 3 p0).mp hc2; omega)))).symm) _ _
    · skip
      refine br_f (by decide +kernel) ?_
      refine And.intro (fun hc3 => ?_) (fun hc3 => ?_)
      · skip
        refine And.intro (fun hc4 => ?_) (fun hc4 => ?_)
        · skip
          obtain rfl : p0 = 3 := (fa_eq _ _).mpr (by have l_0 : (0 : Int32).toInt = 0 := (by decide); have l_1 : (3 : Int32).toInt = 3 := (by decide); have g_hc1 := mt (fa_lt p0 0).mpr hc1; have g_hc2 := mt (fa_lt 3 p0).mpr hc2; have g_hc4 := (fa_le 3 p0).mp hc4; omega)
          refine Exists.intro 40 ?_
          refine br_t (by decide +kernel) ?_
          refine And.intro (fun h9 => absurd rfl h9) (fun _ => ?_)
          exact h _ (((((if_neg (by decide +kernel)).trans (if_neg (by decide +kernel))).trans (if_neg (fun q0 => absurd ((fa_lt 16 p1).mp q0) (by have l_0 : (16 : Int32).toInt = 16 := (by decide); have g_hc3 := (fa_le p1 16).mp hc3; omega)))).trans (if_pos (by decide +kernel))).symm) _ _
        · skip
          refine And.intro (fun hc5 => ?_) (fun hc5 => ?_)
          · skip
            refine Exists.intro 40 ?_
            refine br_t (by decide +kernel) ?_
            refine And.intro (fun _ => ?_) (fun h9 => absurd h9 (fun q0 => absurd ((fa_eq p0 3).mp q0) (by have l_0 : (0 : Int32).toInt = 0 := (by decide); have l_1 : (3 : Int32).toInt = 3 := (by decide); have g_hc1 := mt (fa_lt p0 0).mpr hc1; have g_hc2 := mt (fa_lt 3 p0).mpr hc2; have g_hc4 := mt (fa_le 3 p0).mpr hc4; omega)))
            exact h _ ((((((if_neg (fun q0 => absurd ((fa_lt p0 0).mp q0) (by have l_0 : (0 : Int32).toInt = 0 := (by decide); have l_1 : (3 : Int32).toInt = 3 := (by decide); have g_hc1 := mt (fa_lt p0 0).mpr hc1; have g_hc2 := mt (fa_lt 3 p0).mpr hc2; have g_hc4 := mt (fa_le 3 p0).mpr hc4; omega))).trans (if_neg (fun q0 => absurd ((fa_lt 3 p0).mp q0) (by have l_0 : (0 : Int32).toInt = 0 := (by decide); have l_1 : (3 : Int32).toInt = 3 := (by decide); have g_hc1 := mt (fa_lt p0 0).mpr hc1; have g_hc2 := mt (fa_lt 3 p0).mpr hc2; have g_hc4 := mt (fa_le 3 p0).mpr hc4; omega)))).trans (if_neg (fun q0 => absurd ((fa_lt 16 p1).mp q0) (by have l_0 : (0 : Int32).toInt = 0 := (by decide); have l_1 : (16 : Int32).toInt = 16 := (by decide); have g_hc3 := (fa_le p1 16).mp hc3; have g_hc5 := (fa_le 0 p1).mp hc5; omega)))).trans (if_neg (fun q0 => absurd ((fa_eq p0 3).mp q0) (by have l_0 : (0 : Int32).toInt = 0 := (by decide); have l_1 : (3 : Int32).toInt = 3 := (by decide); have g_hc1 := mt (fa_lt p0 0).mpr hc1; have g_hc2 := mt (fa_lt 3 p0).mpr hc2; have g_hc4 := mt (fa_le 3 p0).mpr hc4; omega)))).trans (if_neg (fun q0 => absurd ((fa_lt p1 0).mp q0) (by have l_0 : (0 : Int32).toInt = 0 := (by decide); have l_1 : (16 : Int32).toInt = 16 := (by decide); have g_hc3 := (fa_le p1 16).mp hc3; have g_hc5 := (fa_le 0 p1).mp hc5; omega)))).symm) _ _
          · skip
            exact h _ ((((((if_neg (fun q0 => absurd ((fa_lt p0 0).mp q0) (by have l_0 : (0 : Int32).toInt = 0 := (by decide); have l_1 : (3 : Int32).toInt = 3 := (by decide); have g_hc1 := mt (fa_lt p0 0).mpr hc1; have g_hc2 := mt (fa_lt 3 p0).mpr hc2; have g_hc4 := mt (fa_le 3 p0).mpr hc4; omega))).trans (if_neg (fun q0 => absurd ((fa_lt 3 p0).mp q0) (by have l_0 : (0 : Int32).toInt = 0 := (by decide); have l_1 : (3 : Int32).toInt = 3 := (by decide); have g_hc1 := mt (fa_lt p0 0).mpr hc1; have g_hc2 := mt (fa_lt 3 p0).mpr hc2; have g_hc4 := mt (fa_le 3 p0).mpr hc4; omega)))).trans (if_neg (fun q0 => absurd ((fa_lt 16 p1).mp q0) (by have l_0 : (0 : Int32).toInt = 0 := (by decide); have l_1 : (16 : Int32).toInt = 16 := (by decide); have g_hc3 := (fa_le p1 16).mp hc3; have g_hc5 := mt (fa_le 0 p1).mpr hc5; omega)))).trans (if_neg (fun q0 => absurd ((fa_eq p0 3).mp q0) (by have l_0 : (0 : Int32).toInt = 0 := (by decide); have l_1 : (3 : Int32).toInt = 3 := (by decide); have g_hc1 := mt (fa_lt p0 0).mpr hc1; have g_hc2 := mt (fa_lt 3 p0).mpr hc2; have g_hc4 := mt (fa_le 3 p0).mpr hc4; omega)))).trans (if_pos ((fa_lt p1 0).mpr (by have l_0 : (0 : Int32).toInt = 0 := (by decide); have l_1 : (16 : Int32).toInt = 16 := (by decide); have g_hc3 := (fa_le p1 16).mp hc3; have g_hc5 := mt (fa_le 0 p1).mpr hc5; omega)))).symm) _ _
      · skip
        exact h _ ((((if_neg (fun q0 => absurd ((fa_lt p0 0).mp q0) (by have l_0 : (0 : Int32).toInt = 0 := (by decide); have l_1 : (3 : Int32).toInt = 3 := (by decide); have g_hc1 := mt (fa_lt p0 0).mpr hc1; have g_hc2 := mt (fa_lt 3 p0).mpr hc2; omega))).trans (if_neg (fun q0 => absurd ((fa_lt 3 p0).mp q0) (by have l_0 : (0 : Int32).toInt = 0 := (by decide); have l_1 : (3 : Int32).toInt = 3 := (by decide); have g_hc1 := mt (fa_lt p0 0).mpr hc1; have g_hc2 := mt (fa_lt 3 p0).mpr hc2; omega)))).trans (if_pos ((fa_lt 16 p1).mpr (by have l_0 : (16 : Int32).toInt = 16 := (by decide); have g_hc3 := mt (fa_le p1 16).mpr hc3; omega)))).symm) _ _
set_option maxHeartbeats 8000000 in
set_option maxRecDepth 200000 in
theorem fm_set (post : Int32 → Int32 → (Nat → Int32) → Prop) (p0 : Int32) (p1 : Int32) (h : ∀ r : Int32, r = (if p0 = 0 then (if p1 < 0 then (-1) else (if 30 < p1 then (-1) else 8)) else (if p0 = 1 then (if p1 < 0 then (-1) else (if 30 < p1 then (-1) else 3)) else (if p0 = 2 then (if p1 < 0 then (-1) else (if 30 < p1 then (-1) else 5)) else (if p0 = 3 then (if p1 < 0 then (-1) else (if 9 < p1 then (-1) else 1)) else (if p0 = 4 then (if p1 < 1 then (-1) else (if 16 < p1 then (-1) else 6)) else (-1)))))) → ∀ o0 : Int32, ∀ o1 : (Nat → Int32), post r o0 o1) : wp_X10_set post p0 p1 0 (upd (upd (upd (upd (upd (fun _ => 0) (0 : Int32).toNatClampNeg 8) (1 : Int32).toNatClampNeg 3) (2 : Int32).toNatClampNeg 5) (3 : Int32).toNatClampNeg 1) (4 : Int32).toNatClampNeg 6) := by
  by_cases hc1 : p0 = 0
  · skip
    obtain rfl : p0 = 0 := (fa_eq _ _).mpr (by have l_0 : (0 : Int32).toInt = 0 := (by decide); have g_hc1 := (fa_eq p0 0).mp hc1; omega)
    refine br_f (by decide +kernel) ?_
    refine br_f (by decide +kernel) ?_
    refine br_f (by decide +kernel) ?_
    refine And.intro (fun _ => ?_) (fun h9 => absurd h9 (by decide +kernel))
    refine And.intro (fun _ => ?_) (fun h9 => absurd h9 (by decide +kernel))
    refine And.intro (fun _ => ?_) (fun h9 => absurd h9 (by decide +kernel))
    refine And.intro (fun hc2 => ?_) (fun hc2 => ?_)
    · skip
      refine And.intro (fun h9 => absurd rfl h9) (fun _ => ?_)
      exact h _ (((if_pos (by decide +kernel)).trans (if_pos ((fa_lt p1 0).mpr (by have l_0 : (0 : Int32).toInt = 0 := (by decide); have g_hc2 := (fa_lt p1 0).mp hc2; omega)))).symm) _ _
    · skip
      refine And.intro (fun hc3 => ?_) (fun hc3 => ?_)
      · skip
        refine And.intro (fun h9 => absurd rfl h9) (fun _ => ?_)
        exact h _ ((((if_pos (by decide +kernel)).trans (if_neg (fun q0 => absurd ((fa_lt p1 0).mp q0) (by have l_0 : (0 : Int32).toInt = 0 := (by decide); have l_1 : (30 : Int32).toInt = 30 := (by decide); have g_hc2 := mt (fa_lt p1 0).mpr hc2; have g_hc3 := (fa_lt 30 p1).mp hc3; omega)))).trans (if_pos ((fa_lt 30 p1).mpr (by have l_0 : (0 : Int32).toInt = 0 := (by decide); have l_1 : (30 : Int32).toInt = 30 := (by decide); have g_hc2 := mt (fa_lt p1 0).mpr hc2; have g_hc3 := (fa_lt 30 p1).mp hc3; omega)))).symm) _ _
      · skip
        refine And.intro (fun _ => ?_) (fun h9 => absurd h9 (by decide +kernel))
        refine And.intro (g_in (by decide +kernel)) ?_
        intro v4 ev4; obtain rfl : v4 = 8 := ev4.trans (by decide +kernel)
        refine And.intro (g_in (by decide +kernel)) ?_
        exact h _ ((((if_pos (by decide +kernel)).trans (if_neg (fun q0 => absurd ((fa_lt p1 0).mp q0) (by have l_0 : (0 : Int32).toInt = 0 := (by decide); have l_1 : (30 : Int32).toInt = 30 := (by decide); have g_hc2 := mt (fa_lt p1 0).mpr hc2; have g_hc3 := mt (fa_lt 30 p1).mpr hc3; omega)))).trans (if_neg (fun q0 => absurd ((fa_lt 30 p1).mp q0) (by have l_0 : (0 : Int32).toInt = 0 := (by decide); have l_1 : (30 : Int32).toInt = 30 := (by decide); have g_hc2 := mt (fa_lt p1 0).mpr hc2; have g_hc3 := mt (fa_lt 30 p1).mpr hc3; omega)))).symm) _ _
  by_cases hc5 : p0 = 1
  · skip
    obtain rfl : p0 = 1 := (fa_eq _ _).mpr (by have l_0 : (0 : Int32).toInt = 0 := (by decide); have l_1 : (1 : Int32).toInt = 1 := (by decide); have g_hc1 := mt (fa_eq p0 0).mpr hc1; have g_hc5 := (fa_eq p0 1).mp hc5; omega)
    refine br_f (by decide +kernel) ?_
    refine br_f (by decide +kernel) ?_
    refine br_f (by decide +kernel) ?_
    refine And.intro (fun _ => ?_) (fun h9 => absurd h9 (by decide +kernel))
    refine And.intro (fun _ => ?_) (fun h9 => absurd h9 (by decide +kernel))
    refine And.intro (fun _ => ?_) (fun h9 => absurd h9 (by decide +kernel))
    refine And.intro (fun hc6 => ?_) (fun hc6 => ?_)
    · skip
      refine And.intro (fun h9 => absurd rfl h9) (fun _ => ?_)
      exact h _ ((((if_neg (by decide +kernel)).trans (if_pos (by decide +kernel))).trans (if_pos ((fa_lt p1 0).mpr (by have l_0 : (0 : Int32).toInt = 0 := (by decide); have g_hc6 := (fa_lt p1 0).mp hc6; omega)))).symm) _ _
    · skip
      refine And.intro (fun hc7 => ?_) (fun hc7 => ?_)
      · skip
        refine And.intro (fun h9 => absurd rfl h9) (fun _ => ?_)
        exact h _ (((((if_neg (by decide +kernel)).trans (if_pos (by decide +kernel))).trans (if_neg (fun q0 => absurd ((fa_lt p1 0).mp q0) (by have l_0 : (0 : Int32).toInt = 0 := (by decide); have l_1 : (30 : Int32).toInt = 30 := (by decide); have g_hc6 := mt (fa_lt p1 0).mpr hc6; have g_hc7 := (fa_lt 30 p1).mp hc7; omega)))).trans (if_pos ((fa_lt 30 p1).mpr (by have l_0 : (0 : Int32).toInt = 0 := (by decide); have l_1 : (30 : Int32).toInt = 30 := (by decide); have g_hc6 := mt (fa_lt p1 0).mpr hc6; have g_hc7 := (fa_lt 30 p1).mp hc7; omega)))).symm) _ _
      · skip
        refine And.intro (fun _ => ?_) (fun h9 => absurd h9 (by decide +kernel))
        refine And.intro (g_in (by decide +kernel)) ?_
        intro v8 ev8; obtain rfl : v8 = 3 := ev8.trans (by decide +kernel)
        refine And.intro (g_in (by decide +kernel)) ?_
        exact h _ (((((if_neg (by decide +kernel)).trans (if_pos (by decide +kernel))).trans (if_neg (fun q0 => absurd ((fa_lt p1 0).mp q0) (by have l_0 : (0 : Int32).toInt = 0 := (by decide); have l_1 : (30 : Int32).toInt = 30 := (by decide); have g_hc6 := mt (fa_lt p1 0).mpr hc6; have g_hc7 := mt (fa_lt 30 p1).mpr hc7; omega)))).trans (if_neg (fun q0 => absurd ((fa_lt 30 p1).mp q0) (by have l_0 : (0 : Int32).toInt = 0 := (by decide); have l_1 : (30 : Int32).toInt = 30 := (by decide); have g_hc6 := mt (fa_lt p1 0).mpr hc6; have g_hc7 := mt (fa_lt 30 p1).mpr hc7; omega)))).symm) _ _
  by_cases hc9 : p0 = 2
  · skip
    obtain rfl : p0 = 2 := (fa_eq _ _).mpr (by have l_0 : (0 : Int32).toInt = 0 := (by decide); have l_1 : (1 : Int32).toInt = 1 := (by decide); have l_2 : (2 : Int32).toInt = 2 := (by decide); have g_hc1 := mt (fa_eq p0 0).mpr hc1; have g_hc5 := mt (fa_eq p0 1).mpr hc5; have g_hc9 := (fa_eq p0 2).mp hc9; omega)
    refine br_f (by decide +kernel) ?_
    refine br_f (by decide +kernel) ?_
    refine br_f (by decide +kernel) ?_
    refine And.intro (fun _ => ?_) (fun h9 => absurd h9 (by decide +kernel))
    refine And.intro (fun _ => ?_) (fun h9 => absurd h9 (by decide +kernel))
    refine And.intro (fun _ => ?_) (fun h9 => absurd h9 (by decide +kernel))
    refine And.intro (fun hc10 => ?_) (fun hc10 => ?_)
    · skip
      refine And.intro (fun h9 => absurd rfl h9) (fun _ => ?_)
      exact h _ (((((if_neg (by decide +kernel)).trans (if_neg (by decide +kernel))).trans (if_pos (by decide +kernel))).trans (if_pos ((fa_lt p1 0).mpr (by have l_0 : (0 : Int32).toInt = 0 := (by decide); have g_hc10 := (fa_lt p1 0).mp hc10; omega)))).symm) _ _
    · skip
      refine And.intro (fun hc11 => ?_) (fun hc11 => ?_)
      · skip
        refine And.intro (fun h9 => absurd rfl h9) (fun _ => ?_)
        exact h _ ((((((if_neg (by decide +kernel)).trans (if_neg (by decide +kernel))).trans (if_pos (by decide +kernel))).trans (if_neg (fun q0 => absurd ((fa_lt p1 0).mp q0) (by have l_0 : (0 : Int32).toInt = 0 := (by decide); have l_1 : (30 : Int32).toInt = 30 := (by decide); have g_hc10 := mt (fa_lt p1 0).mpr hc10; have g_hc11 := (fa_lt 30 p1).mp hc11; omega)))).trans (if_pos ((fa_lt 30 p1).mpr (by have l_0 : (0 : Int32).toInt = 0 := (by decide); have l_1 : (30 : Int32).toInt = 30 := (by decide); have g_hc10 := mt (fa_lt p1 0).mpr hc10; have g_hc11 := (fa_lt 30 p1).mp hc11; omega)))).symm) _ _
      · skip
        refine And.intro (fun _ => ?_) (fun h9 => absurd h9 (by decide +kernel))
        refine And.intro (g_in (by decide +kernel)) ?_
        intro v12 ev12; obtain rfl : v12 = 5 := ev12.trans (by decide +kernel)
        refine And.intro (g_in (by decide +kernel)) ?_
        exact h _ ((((((if_neg (by decide +kernel)).trans (if_neg (by decide +kernel))).trans (if_pos (by decide +kernel))).trans (if_neg (fun q0 => absurd ((fa_lt p1 0).mp q0) (by have l_0 : (0 : Int32).toInt = 0 := (by decide); have l_1 : (30 : Int32).toInt = 30 := (by decide); have g_hc10 := mt (fa_lt p1 0).mpr hc10; have g_hc11 := mt (fa_lt 30 p1).mpr hc11; omega)))).trans (if_neg (fun q0 => absurd ((fa_lt 30 p1).mp q0) (by have l_0 : (0 : Int32).toInt = 0 := (by decide); have l_1 : (30 : Int32).toInt = 30 := (by decide); have g_hc10 := mt (fa_lt p1 0).mpr hc10; have g_hc11 := mt (fa_lt 30 p1).mpr hc11; omega)))).symm) _ _
  by_cases hc13 : p0 = 3
  · skip
    obtain rfl : p0 = 3 := (fa_eq _ _).mpr (by have l_0 : (0 : Int32).toInt = 0 := (by decide); have l_1 : (1 : Int32).toInt = 1 := (by decide); have l_2 : (2 : Int32).toInt = 2 := (by decide); have l_3 : (3 : Int32).toInt = 3 := (by decide); have g_hc1 := mt (fa_eq p0 0).mpr hc1; have g_hc5 := mt (fa_eq p0 1).mpr hc5; have g_hc9 := mt (fa_eq p0 2).mpr hc9; have g_hc13 := (fa_eq p0 3).mp hc13; omega)
    refine br_f (by decide +kernel) ?_
    refine br_f (by decide +kernel) ?_
    refine br_f (by decide +kernel) ?_
    refine And.intro (fun _ => ?_) (fun h9 => absurd h9 (by decide +kernel))
    refine And.intro (fun _ => ?_) (fun h9 => absurd h9 (by decide +kernel))
    refine And.intro (fun h9 => absurd rfl h9) (fun _ => ?_)
    refine And.intro (fun hc14 => ?_) (fun hc14 => ?_)
    · skip
      refine And.intro (fun h9 => absurd rfl h9) (fun _ => ?_)
      exact h _ ((((((if_neg (by decide +kernel)).trans (if_neg (by decide +kernel))).trans (if_neg (by decide +kernel))).trans (if_pos (by decide +kernel))).trans (if_pos ((fa_lt p1 0).mpr (by have l_0 : (0 : Int32).toInt = 0 := (by decide); have g_hc14 := (fa_lt p1 0).mp hc14; omega)))).symm) _ _
    · skip
      refine And.intro (fun hc15 => ?_) (fun hc15 => ?_)
      · skip
        refine And.intro (fun h9 => absurd rfl h9) (fun _ => ?_)
        exact h _ (((((((if_neg (by decide +kernel)).trans (if_neg (by decide +kernel))).trans (if_neg (by decide +kernel))).trans (if_pos (by decide +kernel))).trans (if_neg (fun q0 => absurd ((fa_lt p1 0).mp q0) (by have l_0 : (0 : Int32).toInt = 0 := (by decide); have l_1 : (9 : Int32).toInt = 9 := (by decide); have g_hc14 := mt (fa_lt p1 0).mpr hc14; have g_hc15 := (fa_lt 9 p1).mp hc15; omega)))).trans (if_pos ((fa_lt 9 p1).mpr (by have l_0 : (0 : Int32).toInt = 0 := (by decide); have l_1 : (9 : Int32).toInt = 9 := (by decide); have g_hc14 := mt (fa_lt p1 0).mpr hc14; have g_hc15 := (fa_lt 9 p1).mp hc15; omega)))).symm) _ _
      · skip
        refine And.intro (fun _ => ?_) (fun h9 => absurd h9 (by decide +kernel))
        refine And.intro (g_in (by decide +kernel)) ?_
        intro v16 ev16; obtain rfl : v16 = 1 := ev16.trans (by decide +kernel)
        refine And.intro (g_in (by decide +kernel)) ?_
        exact h _ (((((((if_neg (by decide +kernel)).trans (if_neg (by decide +kernel))).trans (if_neg (by decide +kernel))).trans (if_pos (by decide +kernel))).trans (if_neg (fun q0 => absurd ((fa_lt p1 0).mp q0) (by have l_0 : (0 : Int32).toInt = 0 := (by decide); have l_1 : (9 : Int32).toInt = 9 := (by decide); have g_hc14 := mt (fa_lt p1 0).mpr hc14; have g_hc15 := mt (fa_lt 9 p1).mpr hc15; omega)))).trans (if_neg (fun q0 => absurd ((fa_lt 9 p1).mp q0) (by have l_0 : (0 : Int32).toInt = 0 := (by decide); have l_1 : (9 : Int32).toInt = 9 := (by decide); have g_hc14 := mt (fa_lt p1 0).mpr hc14; have g_hc15 := mt (fa_lt 9 p1).mpr hc15; omega)))).symm) _ _
  by_cases hc17 : p0 = 4
  · skip
    obtain rfl : p0 = 4 := (fa_eq _ _).mpr (by have l_0 : (0 : Int32).toInt = 0 := (by decide); have l_1 : (1 : Int32).toInt = 1 := (by decide); have l_2 : (2 : Int32).toInt = 2 := (by decide); have l_3 : (3 : Int32).toInt = 3 := (by decide); have l_4 : (4 : Int32).toInt = 4 := (by decide); have g_hc1 := mt (fa_eq p0 0).mpr hc1; have g_hc5 := mt (fa_eq p0 1).mpr hc5; have g_hc9 := mt (fa_eq p0 2).mpr hc9; have g_hc13 := mt (fa_eq p0 3).mpr hc13; have g_hc17 := (fa_eq p0 4).mp hc17; omega)
    refine br_f (by decide +kernel) ?_
    refine br_f (by decide +kernel) ?_
    refine br_f (by decide +kernel) ?_
    refine And.intro (fun h9 => absurd rfl h9) (fun _ => ?_)
    refine And.intro (fun h9 => absurd rfl h9) (fun _ => ?_)
    refine And.intro (fun hc18 => ?_) (fun hc18 => ?_)
    · skip
      refine And.intro (fun h9 => absurd rfl h9) (fun _ => ?_)
      exact h _ (((((((if_neg (by decide +kernel)).trans (if_neg (by decide +kernel))).trans (if_neg (by decide +kernel))).trans (if_neg (by decide +kernel))).trans (if_pos (by decide +kernel))).trans (if_pos ((fa_lt p1 1).mpr (by have l_0 : (1 : Int32).toInt = 1 := (by decide); have g_hc18 := (fa_lt p1 1).mp hc18; omega)))).symm) _ _
    · skip
      refine And.intro (fun hc19 => ?_) (fun hc19 => ?_)
      · skip
        refine And.intro (fun h9 => absurd rfl h9) (fun _ => ?_)
        exact h _ ((((((((if_neg (by decide +kernel)).trans (if_neg (by decide +kernel))).trans (if_neg (by decide +kernel))).trans (if_neg (by decide +kernel))).trans (if_pos (by decide +kernel))).trans (if_neg (fun q0 => absurd ((fa_lt p1 1).mp q0) (by have l_0 : (1 : Int32).toInt = 1 := (by decide); have l_1 : (16 : Int32).toInt = 16 := (by decide); have g_hc18 := mt (fa_lt p1 1).mpr hc18; have g_hc19 := (fa_lt 16 p1).mp hc19; omega)))).trans (if_pos ((fa_lt 16 p1).mpr (by have l_0 : (1 : Int32).toInt = 1 := (by decide); have l_1 : (16 : Int32).toInt = 16 := (by decide); have g_hc18 := mt (fa_lt p1 1).mpr hc18; have g_hc19 := (fa_lt 16 p1).mp hc19; omega)))).symm) _ _
      · skip
        refine And.intro (fun _ => ?_) (fun h9 => absurd h9 (by decide +kernel))
        refine And.intro (g_in (by decide +kernel)) ?_
        intro v20 ev20; obtain rfl : v20 = 6 := ev20.trans (by decide +kernel)
        refine And.intro (g_in (by decide +kernel)) ?_
        exact h _ ((((((((if_neg (by decide +kernel)).trans (if_neg (by decide +kernel))).trans (if_neg (by decide +kernel))).trans (if_neg (by decide +kernel))).trans (if_pos (by decide +kernel))).trans (if_neg (fun q0 => absurd ((fa_lt p1 1).mp q0) (by have l_0 : (1 : Int32).toInt = 1 := (by decide); have l_1 : (16 : Int32).toInt = 16 := (by decide); have g_hc18 := mt (fa_lt p1 1).mpr hc18; have g_hc19 := mt (fa_lt 16 p1).mpr hc19; omega)))).trans (if_neg (fun q0 => absurd ((fa_lt 16 p1).mp q0) (by have l_0 : (1 : Int32).toInt = 1 := (by decide); have l_1 : (16 : Int32).toInt = 16 := (by decide); have g_hc18 := mt (fa_lt p1 1).mpr hc18; have g_hc19 := mt (fa_lt 16 p1).mpr hc19; omega)))).symm) _ _
  refine And.intro (fun hc21 => ?_) (fun hc21 => ?_)
  · skip
    refine br_t (by decide +kernel) ?_
    exact h _ ((((((if_neg (fun q0 => absurd ((fa_eq p0 0).mp q0) (by have l_0 : (0 : Int32).toInt = 0 := (by decide); have l_1 : (1 : Int32).toInt = 1 := (by decide); have l_2 : (2 : Int32).toInt = 2 := (by decide); have l_3 : (3 : Int32).toInt = 3 := (by decide); have l_4 : (4 : Int32).toInt = 4 := (by decide); have g_hc1 := mt (fa_eq p0 0).mpr hc1; have g_hc5 := mt (fa_eq p0 1).mpr hc5; have g_hc9 := mt (fa_eq p0 2).mpr hc9; have g_hc13 := mt (fa_eq p0 3).mpr hc13; have g_hc17 := mt (fa_eq p0 4).mpr hc17; have g_hc21 := (fa_lt p0 0).mp hc21; omega))).trans (if_neg (fun q0 => absurd ((fa_eq p0 1).mp q0) (by have l_0 : (0 : Int32).toInt = 0 := (by decide); have l_1 : (1 : Int32).toInt = 1 := (by decide); have l_2 : (2 : Int32).toInt = 2 := (by decide); have l_3 : (3 : Int32).toInt = 3 := (by decide); have l_4 : (4 : Int32).toInt = 4 := (by decide); have g_hc1 := mt (fa_eq p0 0).mpr hc1; have g_hc5 := mt (fa_eq p0 1).mpr hc5; have g_hc9 := mt (fa_eq p0 2).mpr hc9; have g_hc13 := mt (fa_eq p0 3).mpr hc13; have g_hc17 := mt (fa_eq p0 4).mpr hc17; have g_hc21 := (fa_lt p0 0).mp hc21; omega)))).trans (if_neg (fun q0 => absurd ((fa_eq p0 2).mp q0) (by have l_0 : (0 : Int32).toInt = 0 := (by decide); have l_1 : (1 : Int32).toInt = 1 := (by decide); have l_2 : (2 : Int32).toInt = 2 := (by decide); have l_3 : (3 : Int32).toInt = 3 := (by decide); have l_4 : (4 : Int32).toInt = 4 := (by decide); have g_hc1 := mt (fa_eq p0 0).mpr hc1; have g_hc5 := mt (fa_eq p0 1).mpr hc5; have g_hc9 := mt (fa_eq p0 2).mpr hc9; have g_hc13 := mt (fa_eq p0 3).mpr hc13; have g_hc17 := mt (fa_eq p0 4).mpr hc17; have g_hc21 := (fa_lt p0 0).mp hc21; omega)))).trans (if_neg (fun q0 => absurd ((fa_eq p0 3).mp q0) (by have l_0 : (0 : Int32).toInt = 0 := (by decide); have l_1 : (1 : Int32).toInt = 1 := (by decide); have l_2 : (2 : Int32).toInt = 2 := (by decide); have l_3 : (3 : Int32).toInt = 3 := (by decide); have l_4 : (4 : Int32).toInt = 4 := (by decide); have g_hc1 := mt (fa_eq p0 0).mpr hc1; have g_hc5 := mt (fa_eq p0 1).mpr hc5; have g_hc9 := mt (fa_eq p0 2).mpr hc9; have g_hc13 := mt (fa_eq p0 3).mpr hc13; have g_hc17 := mt (fa_eq p0 4).mpr hc17; have g_hc21 := (fa_lt p0 0).mp hc21; omega)))).trans (if_neg (fun q0 => absurd ((fa_eq p0 4).mp q0) (by have l_0 : (0 : Int32).toInt = 0 := (by decide); have l_1 : (1 : Int32).toInt = 1 := (by decide); have l_2 : (2 : Int32).toInt = 2 := (by decide); have l_3 : (3 : Int32).toInt = 3 := (by decide); have l_4 : (4 : Int32).toInt = 4 := (by decide); have g_hc1 := mt (fa_eq p0 0).mpr hc1; have g_hc5 := mt (fa_eq p0 1).mpr hc5; have g_hc9 := mt (fa_eq p0 2).mpr hc9; have g_hc13 := mt (fa_eq p0 3).mpr hc13; have g_hc17 := mt (fa_eq p0 4).mpr hc17; have g_hc21 := (fa_lt p0 0).mp hc21; omega)))).symm) _ _
  · skip
    refine br_t ((fa_lt 4 p0).mpr (by have l_0 : (0 : Int32).toInt = 0 := (by decide); have l_1 : (1 : Int32).toInt = 1 := (by decide); have l_2 : (2 : Int32).toInt = 2 := (by decide); have l_3 : (3 : Int32).toInt = 3 := (by decide); have l_4 : (4 : Int32).toInt = 4 := (by decide); have g_hc1 := mt (fa_eq p0 0).mpr hc1; have g_hc5 := mt (fa_eq p0 1).mpr hc5; have g_hc9 := mt (fa_eq p0 2).mpr hc9; have g_hc13 := mt (fa_eq p0 3).mpr hc13; have g_hc17 := mt (fa_eq p0 4).mpr hc17; have g_hc21 := mt (fa_lt p0 0).mpr hc21; omega)) ?_
    refine br_t (by decide +kernel) ?_
    exact h _ ((((((if_neg (fun q0 => absurd ((fa_eq p0 0).mp q0) (by have l_0 : (0 : Int32).toInt = 0 := (by decide); have l_1 : (1 : Int32).toInt = 1 := (by decide); have l_2 : (2 : Int32).toInt = 2 := (by decide); have l_3 : (3 : Int32).toInt = 3 := (by decide); have l_4 : (4 : Int32).toInt = 4 := (by decide); have g_hc1 := mt (fa_eq p0 0).mpr hc1; have g_hc5 := mt (fa_eq p0 1).mpr hc5; have g_hc9 := mt (fa_eq p0 2).mpr hc9; have g_hc13 := mt (fa_eq p0 3).mpr hc13; have g_hc17 := mt (fa_eq p0 4).mpr hc17; have g_hc21 := mt (fa_lt p0 0).mpr hc21; omega))).trans (if_neg (fun q0 => absurd ((fa_eq p0 1).mp q0) (by have l_0 : (0 : Int32).toInt = 0 := (by decide); have l_1 : (1 : Int32).toInt = 1 := (by decide); have l_2 : (2 : Int32).toInt = 2 := (by decide); have l_3 : (3 : Int32).toInt = 3 := (by decide); have l_4 : (4 : Int32).toInt = 4 := (by decide); have g_hc1 := mt (fa_eq p0 0).mpr hc1; have g_hc5 := mt (fa_eq p0 1).mpr hc5; have g_hc9 := mt (fa_eq p0 2).mpr hc9; have g_hc13 := mt (fa_eq p0 3).mpr hc13; have g_hc17 := mt (fa_eq p0 4).mpr hc17; have g_hc21 := mt (fa_lt p0 0).mpr hc21; omega)))).trans (if_neg (fun q0 => absurd ((fa_eq p0 2).mp q0) (by have l_0 : (0 : Int32).toInt = 0 := (by decide); have l_1 : (1 : Int32).toInt = 1 := (by decide); have l_2 : (2 : Int32).toInt = 2 := (by decide); have l_3 : (3 : Int32).toInt = 3 := (by decide); have l_4 : (4 : Int32).toInt = 4 := (by decide); have g_hc1 := mt (fa_eq p0 0).mpr hc1; have g_hc5 := mt (fa_eq p0 1).mpr hc5; have g_hc9 := mt (fa_eq p0 2).mpr hc9; have g_hc13 := mt (fa_eq p0 3).mpr hc13; have g_hc17 := mt (fa_eq p0 4).mpr hc17; have g_hc21 := mt (fa_lt p0 0).mpr hc21; omega)))).trans (if_neg (fun q0 => absurd ((fa_eq p0 3).mp q0) (by have l_0 : (0 : Int32).toInt = 0 := (by decide); have l_1 : (1 : Int32).toInt = 1 := (by decide); have l_2 : (2 : Int32).toInt = 2 := (by decide); have l_3 : (3 : Int32).toInt = 3 := (by decide); have l_4 : (4 : Int32).toInt = 4 := (by decide); have g_hc1 := mt (fa_eq p0 0).mpr hc1; have g_hc5 := mt (fa_eq p0 1).mpr hc5; have g_hc9 := mt (fa_eq p0 2).mpr hc9; have g_hc13 := mt (fa_eq p0 3).mpr hc13; have g_hc17 := mt (fa_eq p0 4).mpr hc17; have g_hc21 := mt (fa_lt p0 0).mpr hc21; omega)))).trans (if_neg (fun q0 => absurd ((fa_eq p0 4).mp q0) (by have l_0 : (0 : Int32).toInt = 0 := (by decide); have l_1 : (1 : Int32).toInt = 1 := (by decide); have l_2 : (2 : Int32).toInt = 2 := (by decide); have l_3 : (3 : Int32).toInt = 3 := (by decide); have l_4 : (4 : Int32).toInt = 4 := (by decide); have g_hc1 := mt (fa_eq p0 0).mpr hc1; have g_hc5 := mt (fa_eq p0 1).mpr hc5; have g_hc9 := mt (fa_eq p0 2).mpr hc9; have g_hc13 := mt (fa_eq p0 3).mpr hc13; have g_hc17 := mt (fa_eq p0 4).mpr hc17; have g_hc21 := mt (fa_lt p0 0).mpr hc21; omega)))).symm) _ _
set_option maxHeartbeats 8000000 in
set_option maxRecDepth 200000 in
theorem fm_move (post : Int32 → Int32 → Int32 → (Nat → Int32) → (Nat → Int32) → Prop) (p0 : Int32) (h : ∀ r : Int32, r = (-1) → ∀ o0 : Int32, ∀ o1 : Int32, ∀ o2 : (Nat → Int32), ∀ o3 : (Nat → Int32), post r o0 o1 o2 o3) : wp_X10_move post p0 0 0 0 0 (upd (fun _ => 0) (17 : Int32).toNatClampNeg (-1)) (fun _ => 0) (fun _ => 0) (upd (upd (upd (upd (upd (fun _ => 0) (0 : Int32).toNatClampNeg 8) (1 : Int32).toNatClampNeg 3) (2 : Int32).toNatClampNeg 5) (3 : Int32).toNatClampNeg 1) (4 : Int32).toNatClampNeg 6) (fun _ => 0) := by
  intro v1 ev1; obtain rfl : v1 = (-1) := ev1.trans (by decide +kernel)
  refine And.intro (fun hc2 => ?_) (fun hc2 => ?_)
  · skip
    refine And.intro rfl ?_
    refine And.intro (fun h9 => absurd rfl h9) (fun _ => ?_)
    refine br_f (by decide +kernel) ?_
    exact h _ (by decide +kernel) _ _ _ _
  · skip
    refine br_t ((fa_lt (-1) p0).mpr (by have l_0 : ((-1) : Int32).toInt = (-1) := (by decide); have l_1 : (0 : Int32).toInt = 0 := (by decide); have g_hc2 := mt (fa_lt p0 0).mpr hc2; omega)) ?_
    refine And.intro rfl ?_
    refine And.intro (fun h9 => absurd rfl h9) (fun _ => ?_)
    refine br_f (by decide +kernel) ?_
    exact h _ (by decide +kernel) _ _ _ _
set_option maxHeartbeats 8000000 in
set_option maxRecDepth 200000 in
theorem fm_foot (post : Int32 → Int32 → Int32 → (Nat → Int32) → (Nat → Int32) → Prop) (p0 : Int32) (h : ∀ r : Int32, r = (if p0 < 0 then (-1) else (if 1 < p0 then (-1) else 0)) → ∀ o0 : Int32, ∀ o1 : Int32, ∀ o2 : (Nat → Int32), ∀ o3 : (Nat → Int32), post r o0 o1 o2 o3) : wp_X10_foot post p0 0 0 (upd (fun _ => 0) (17 : Int32).toNatClampNeg (-1)) (fun _ => 0) := by
  refine And.intro (fun hc1 => ?_) (fun hc1 => ?_)
  · skip
    refine And.intro (fun h9 => absurd rfl h9) (fun _ => ?_)
    exact h _ ((if_pos ((fa_lt p0 0).mpr (by have l_0 : (0 : Int32).toInt = 0 := (by decide); have g_hc1 := (fa_lt p0 0).mp hc1; omega))).symm) _ _ _ _
  · skip
    refine And.intro (fun hc2 => ?_) (fun hc2 => ?_)
    · skip
      refine And.intro (fun h9 => absurd rfl h9) (fun _ => ?_)
      exact h _ (((if_neg (fun q0 => absurd ((fa_lt p0 0).mp q0) (by have l_0 : (0 : Int32).toInt = 0 := (by decide); have l_1 : (1 : Int32).toInt = 1 := (by decide); have g_hc1 := mt (fa_lt p0 0).mpr hc1; have g_hc2 := (fa_lt 1 p0).mp hc2; omega))).trans (if_pos ((fa_lt 1 p0).mpr (by have l_0 : (0 : Int32).toInt = 0 := (by decide); have l_1 : (1 : Int32).toInt = 1 := (by decide); have g_hc1 := mt (fa_lt p0 0).mpr hc1; have g_hc2 := (fa_lt 1 p0).mp hc2; omega)))).symm) _ _ _ _
    · skip
      refine And.intro (fun _ => ?_) (fun h9 => absurd h9 (by decide +kernel))
      refine And.intro (fun _ => ?_) (fun h9 => absurd h9 (by decide +kernel))
      intro v3 ev3; obtain rfl : v3 = 0 := ev3.trans (by decide +kernel)
      refine Exists.intro 40 ?_
      refine br_f (by decide +kernel) ?_
      intro v4 ev4; obtain rfl : v4 = 0 := ev4.trans (by decide +kernel)
      refine And.intro (g_in (by decide +kernel)) ?_
      intro v5 ev5; obtain rfl : v5 = 0 := ev5.trans (by decide +kernel)
      refine And.intro (g_in (by decide +kernel)) ?_
      intro v6 ev6; obtain rfl : v6 = 1 := ev6.trans (by decide +kernel)
      refine br_f (by decide +kernel) ?_
      intro v7 ev7; obtain rfl : v7 = 1 := ev7.trans (by decide +kernel)
      refine And.intro (g_in (by decide +kernel)) ?_
      intro v8 ev8; obtain rfl : v8 = 0 := ev8.trans (by decide +kernel)
      refine And.intro (g_in (by decide +kernel)) ?_
      intro v9 ev9; obtain rfl : v9 = 2 := ev9.trans (by decide +kernel)
      refine br_f (by decide +kernel) ?_
      intro v10 ev10; obtain rfl : v10 = 2 := ev10.trans (by decide +kernel)
      refine And.intro (g_in (by decide +kernel)) ?_
      intro v11 ev11; obtain rfl : v11 = 0 := ev11.trans (by decide +kernel)
      refine And.intro (g_in (by decide +kernel)) ?_
      intro v12 ev12; obtain rfl : v12 = 3 := ev12.trans (by decide +kernel)
      refine br_f (by decide +kernel) ?_
      intro v13 ev13; obtain rfl : v13 = 3 := ev13.trans (by decide +kernel)
      refine And.intro (g_in (by decide +kernel)) ?_
      intro v14 ev14; obtain rfl : v14 = 0 := ev14.trans (by decide +kernel)
      refine And.intro (g_in (by decide +kernel)) ?_
      intro v15 ev15; obtain rfl : v15 = 4 := ev15.trans (by decide +kernel)
      refine br_f (by decide +kernel) ?_
      intro v16 ev16; obtain rfl : v16 = 4 := ev16.trans (by decide +kernel)
      refine And.intro (g_in (by decide +kernel)) ?_
      intro v17 ev17; obtain rfl : v17 = 0 := ev17.trans (by decide +kernel)
      refine And.intro (g_in (by decide +kernel)) ?_
      intro v18 ev18; obtain rfl : v18 = 5 := ev18.trans (by decide +kernel)
      refine br_f (by decide +kernel) ?_
      intro v19 ev19; obtain rfl : v19 = 5 := ev19.trans (by decide +kernel)
      refine And.intro (g_in (by decide +kernel)) ?_
      intro v20 ev20; obtain rfl : v20 = 0 := ev20.trans (by decide +kernel)
      refine And.intro (g_in (by decide +kernel)) ?_
      intro v21 ev21; obtain rfl : v21 = 6 := ev21.trans (by decide +kernel)
      refine br_f (by decide +kernel) ?_
      intro v22 ev22; obtain rfl : v22 = 6 := ev22.trans (by decide +kernel)
      refine And.intro (g_in (by decide +kernel)) ?_
      intro v23 ev23; obtain rfl : v23 = 0 := ev23.trans (by decide +kernel)
      refine And.intro (g_in (by decide +kernel)) ?_
      intro v24 ev24; obtain rfl : v24 = 7 := ev24.trans (by decide +kernel)
      refine br_f (by decide +kernel) ?_
      intro v25 ev25; obtain rfl : v25 = 7 := ev25.trans (by decide +kernel)
      refine And.intro (g_in (by decide +kernel)) ?_
      intro v26 ev26; obtain rfl : v26 = 0 := ev26.trans (by decide +kernel)
      refine And.intro (g_in (by decide +kernel)) ?_
      intro v27 ev27; obtain rfl : v27 = 8 := ev27.trans (by decide +kernel)
      refine br_f (by decide +kernel) ?_
      intro v28 ev28; obtain rfl : v28 = 8 := ev28.trans (by decide +kernel)
      refine And.intro (g_in (by decide +kernel)) ?_
      intro v29 ev29; obtain rfl : v29 = 0 := ev29.trans (by decide +kernel)
      refine And.intro (g_in (by decide +kernel)) ?_
      intro v30 ev30; obtain rfl : v30 = 9 := ev30.trans (by decide +kernel)
      refine br_f (by decide +kernel) ?_
      intro v31 ev31; obtain rfl : v31 = 9 := ev31.trans (by decide +kernel)
      refine And.intro (g_in (by decide +kernel)) ?_
      intro v32 ev32; obtain rfl : v32 = 0 := ev32.trans (by decide +kernel)
      refine And.intro (g_in (by decide +kernel)) ?_
      intro v33 ev33; obtain rfl : v33 = 10 := ev33.trans (by decide +kernel)
      refine br_f (by decide +kernel) ?_
      intro v34 ev34; obtain rfl : v34 = 10 := ev34.trans (by decide +kernel)
      refine And.intro (g_in (by decide +kernel)) ?_
      intro v35 ev35; obtain rfl : v35 = 0 := ev35.trans (by decide +kernel)
      refine And.intro (g_in (by decide +kernel)) ?_
      intro v36 ev36; obtain rfl : v36 = 11 := ev36.trans (by decide +kernel)
      refine br_f (by decide +kernel) ?_
      intro v37 ev37; obtain rfl : v37 = 11 := ev37.trans (by decide +kernel)
      refine And.intro (g_in (by decide +kernel)) ?_
      intro v38 ev38; obtain rfl : v38 = 0 := ev38.trans (by decide +kernel)
      refine And.intro (g_in (by decide +kernel)) ?_
      intro v39 ev39; obtain rfl : v39 = 12 := ev39.trans (by decide +kernel)
      refine br_f (by decide +kernel) ?_
      intro v40 ev40; obtain rfl : v40 = 12 := ev40.trans (by decide +kernel)
      refine And.intro (g_in (by decide +kernel)) ?_
      intro v41 ev41; obtain rfl : v41 = 0 := ev41.trans (by decide +kernel)
      refine And.intro (g_in (by decide +kernel)) ?_
      intro v42 ev42; obtain rfl : v42 = 13 := ev42.trans (by decide +kernel)
      refine br_f (by decide +kernel) ?_
      intro v43 ev43; obtain rfl : v43 = 13 := ev43.trans (by decide +kernel)
      refine And.intro (g_in (by decide +kernel)) ?_
      intro v44 ev44; obtain rfl : v44 = 0 := ev44.trans (by decide +kernel)
      refine And.intro (g_in (by decide +kernel)) ?_
      intro v45 ev45; obtain rfl : v45 = 14 := ev45.trans (by decide +kernel)
      refine br_f (by decide +kernel) ?_
      intro v46 ev46; obtain rfl : v46 = 14 := ev46.trans (by decide +kernel)
      refine And.intro (g_in (by decide +kernel)) ?_
      intro v47 ev47; obtain rfl : v47 = 0 := ev47.trans (by decide +kernel)
      refine And.intro (g_in (by decide +kernel)) ?_
      intro v48 ev48; obtain rfl : v48 = 15 := ev48.trans (by decide +kernel)
      refine br_f (by decide +kernel) ?_
      intro v49 ev49; obtain rfl : v49 = 15 := ev49.trans (by decide +kernel)
      refine And.intro (g_in (by decide +kernel)) ?_
      intro v50 ev50; obtain rfl : v50 = 0 := ev50.trans (by decide +kernel)
      refine And.intro (g_in (by decide +kernel)) ?_
      intro v51 ev51; obtain rfl : v51 = 16 := ev51.trans (by decide +kernel)
      refine br_f (by decide +kernel) ?_
      intro v52 ev52; obtain rfl : v52 = 16 := ev52.trans (by decide +kernel)
      refine And.intro (g_in (by decide +kernel)) ?_
      intro v53 ev53; obtain rfl : v53 = 0 := ev53.trans (by decide +kernel)
      refine And.intro (g_in (by decide +kernel)) ?_
      intro v54 ev54; obtain rfl : v54 = 17 := ev54.trans (by decide +kernel)
      refine br_f (by decide +kernel) ?_
      intro v55 ev55; obtain rfl : v55 = 17 := ev55.trans (by decide +kernel)
      refine And.intro (g_in (by decide +kernel)) ?_
      intro v56 ev56; obtain rfl : v56 = (-1) := ev56.trans (by decide +kernel)
      refine And.intro (g_in (by decide +kernel)) ?_
      intro v57 ev57; obtain rfl : v57 = 18 := ev57.trans (by decide +kernel)
      refine br_f (by decide +kernel) ?_
      intro v58 ev58; obtain rfl : v58 = 18 := ev58.trans (by decide +kernel)
      refine And.intro (g_in (by decide +kernel)) ?_
      intro v59 ev59; obtain rfl : v59 = 0 := ev59.trans (by decide +kernel)
      refine And.intro (g_in (by decide +kernel)) ?_
      intro v60 ev60; obtain rfl : v60 = 19 := ev60.trans (by decide +kernel)
      refine br_f (by decide +kernel) ?_
      intro v61 ev61; obtain rfl : v61 = 19 := ev61.trans (by decide +kernel)
      refine And.intro (g_in (by decide +kernel)) ?_
      intro v62 ev62; obtain rfl : v62 = 0 := ev62.trans (by decide +kernel)
      refine And.intro (g_in (by decide +kernel)) ?_
      intro v63 ev63; obtain rfl : v63 = 20 := ev63.trans (by decide +kernel)
      refine br_f (by decide +kernel) ?_
      intro v64 ev64; obtain rfl : v64 = 20 := ev64.trans (by decide +kernel)
      refine And.intro (g_in (by decide +kernel)) ?_
      intro v65 ev65; obtain rfl : v65 = 0 := ev65.trans (by decide +kernel)
      refine And.intro (g_in (by decide +kernel)) ?_
      intro v66 ev66; obtain rfl : v66 = 21 := ev66.trans (by decide +kernel)
      refine br_t (by decide +kernel) ?_
      intro v67 ev67; obtain rfl : v67 = 1 := ev67.trans (by decide +kernel)
      intro v68 ev68; obtain rfl : v68 = 0 := ev68.trans (by decide +kernel)
      exact h _ (((if_neg (fun q0 => absurd ((fa_lt p0 0).mp q0) (by have l_0 : (0 : Int32).toInt = 0 := (by decide); have l_1 : (1 : Int32).toInt = 1 := (by decide); have g_hc1 := mt (fa_lt p0 0).mpr hc1; have g_hc2 := mt (fa_lt 1 p0).mpr hc2; omega))).trans (if_neg (fun q0 => absurd ((fa_lt 1 p0).mp q0) (by have l_0 : (0 : Int32).toInt = 0 := (by decide); have l_1 : (1 : Int32).toInt = 1 := (by decide); have g_hc1 := mt (fa_lt p0 0).mpr hc1; have g_hc2 := mt (fa_lt 1 p0).mpr hc2; omega)))).symm) _ _ _ _
set_option maxHeartbeats 8000000 in
set_option maxRecDepth 200000 in
theorem fm_pick (post : Int32 → Int32 → Nat → Int32 → Int32 → Int32 → Int32 → Int32 → Int32 → Int32 → Int32 → Int32 → Int32 → (Nat → Int32) → (Nat → Int32) → Prop) (p0 : Int32) (p1 : Int32) (h : ∀ r : Int32, r = (-1) → ∀ o0 : Int32, ∀ o1 : Nat, ∀ o2 : Int32, ∀ o3 : Int32, ∀ o4 : Int32, ∀ o5 : Int32, ∀ o6 : Int32, ∀ o7 : Int32, ∀ o8 : Int32, ∀ o9 : Int32, ∀ o10 : Int32, ∀ o11 : Int32, ∀ o12 : (Nat → Int32), ∀ o13 : (Nat → Int32), post r o0 o1 o2 o3 o4 o5 o6 o7 o8 o9 o10 o11 o12 o13) : wp_X10_pick post p0 p1 0 0 0 0 0 0 0 0 0 0 0 0 0 0 (upd (fun _ => 0) (17 : Int32).toNatClampNeg (-1)) (fun _ => 0) (fun _ => 0) (fun _ => 0) (fun _ => 0) (fun _ => 0) (fun _ => 0) (upd (upd (upd (upd (upd (fun _ => 0) (0 : Int32).toNatClampNeg 8) (1 : Int32).toNatClampNeg 3) (2 : Int32).toNatClampNeg 5) (3 : Int32).toNatClampNeg 1) (4 : Int32).toNatClampNeg 6) (fun _ => 0) (fun _ => 0) (fun _ => 0) := by
  intro v1 ev1; obtain rfl : v1 = (-1) := ev1.trans (by decide +kernel)
  refine And.intro (fun hc2 => ?_) (fun hc2 => ?_)
  · skip
    refine And.intro rfl ?_
    refine br_t (by decide +kernel) ?_
    refine br_f (by decide +kernel) ?_
    exact h _ (by decide +kernel) _ _ _ _ _ _ _ _ _ _ _ _ _ _
  · skip
    refine br_t ((fa_lt (-1) p0).mpr (by have l_0 : ((-1) : Int32).toInt = (-1) := (by decide); have l_1 : (0 : Int32).toInt = 0 := (by decide); have g_hc2 := mt (fa_lt p0 0).mpr hc2; omega)) ?_
    refine And.intro rfl ?_
    refine br_t (by decide +kernel) ?_
    refine br_f (by decide +kernel) ?_
    exact h _ (by decide +kernel) _ _ _ _ _ _ _ _ _ _ _ _ _ _
set_option maxHeartbeats 8000000 in
set_option maxRecDepth 200000 in
theorem fm_down (post : Int32 → Int32 → Int32 → (Nat → Int32) → (Nat → Int32) → Prop) (h : ∀ r : Int32, r = (-2) → ∀ o0 : Int32, ∀ o1 : Int32, ∀ o2 : (Nat → Int32), ∀ o3 : (Nat → Int32), post r o0 o1 o2 o3) : wp_X10_down post 0 0 0 (upd (fun _ => 0) (17 : Int32).toNatClampNeg (-1)) (fun _ => 0) (fun _ => 0) := by
  intro v1 ev1; obtain rfl : v1 = (-1) := ev1.trans (by decide +kernel)
  refine br_t (by decide +kernel) ?_
  refine And.intro (fun h9 => absurd rfl h9) (fun _ => ?_)
  exact h _ (by decide +kernel) _ _ _ _
set_option maxHeartbeats 8000000 in
set_option maxRecDepth 200000 in
theorem fm_shake (post : Int32 → Int32 → Int32 → (Nat → Int32) → (Nat → Int32) → Prop) (h : ∀ r : Int32, r = (-2) → ∀ o0 : Int32, ∀ o1 : Int32, ∀ o2 : (Nat → Int32), ∀ o3 : (Nat → Int32), post r o0 o1 o2 o3) : wp_X10_shake post 0 0 0 (upd (fun _ => 0) (17 : Int32).toNatClampNeg (-1)) (fun _ => 0) (fun _ => 0) (fun _ => 0) (fun _ => 0) (fun _ => 0) (upd (upd (upd (upd (upd (fun _ => 0) (0 : Int32).toNatClampNeg 8) (1 : Int32).toNatClampNeg 3) (2 : Int32).toNatClampNeg 5) (3 : Int32).toNatClampNeg 1) (4 : Int32).toNatClampNeg 6) (fun _ => 0) := by
  intro v1 ev1; obtain rfl : v1 = (-1) := ev1.trans (by decide +kernel)
  refine And.intro (fun h9 => absurd rfl h9) (fun _ => ?_)
  exact h _ (by decide +kernel) _ _ _ _
set_option maxHeartbeats 8000000 in
set_option maxRecDepth 200000 in
theorem fm_sleep (post : Int32 → Int32 → Int32 → (Nat → Int32) → (Nat → Int32) → Prop) (h : ∀ r : Int32, r = 1 → ∀ o0 : Int32, ∀ o1 : Int32, ∀ o2 : (Nat → Int32), ∀ o3 : (Nat → Int32), post r o0 o1 o2 o3) : wp_X10_sleep post 0 0 0 (upd (fun _ => 0) (17 : Int32).toNatClampNeg (-1)) (fun _ => 0) := by
  intro v1 ev1; obtain rfl : v1 = 0 := ev1.trans (by decide +kernel)
  refine And.intro (fun _ => ?_) (fun h9 => absurd h9 (by decide +kernel))
  refine And.intro (fun _ => ?_) (fun h9 => absurd h9 (by decide +kernel))
  intro v2 ev2; obtain rfl : v2 = 0 := ev2.trans (by decide +kernel)
  refine Exists.intro 40 ?_
  refine br_f (by decide +kernel) ?_
  intro v3 ev3; obtain rfl : v3 = 0 := ev3.trans (by decide +kernel)
  refine And.intro (g_in (by decide +kernel)) ?_
  intro v4 ev4; obtain rfl : v4 = 0 := ev4.trans (by decide +kernel)
  refine And.intro (g_in (by decide +kernel)) ?_
  intro v5 ev5; obtain rfl : v5 = 1 := ev5.trans (by decide +kernel)
  refine br_f (by decide +kernel) ?_
  intro v6 ev6; obtain rfl : v6 = 1 := ev6.trans (by decide +kernel)
  refine And.intro (g_in (by decide +kernel)) ?_
  intro v7 ev7; obtain rfl : v7 = 0 := ev7.trans (by decide +kernel)
  refine And.intro (g_in (by decide +kernel)) ?_
  intro v8 ev8; obtain rfl : v8 = 2 := ev8.trans (by decide +kernel)
  refine br_f (by decide +kernel) ?_
  intro v9 ev9; obtain rfl : v9 = 2 := ev9.trans (by decide +kernel)
  refine And.intro (g_in (by decide +kernel)) ?_
  intro v10 ev10; obtain rfl : v10 = 0 := ev10.trans (by decide +kernel)
  refine And.intro (g_in (by decide +kernel)) ?_
  intro v11 ev11; obtain rfl : v11 = 3 := ev11.trans (by decide +kernel)
  refine br_f (by decide +kernel) ?_
  intro v12 ev12; obtain rfl : v12 = 3 := ev12.trans (by decide +kernel)
  refine And.intro (g_in (by decide +kernel)) ?_
  intro v13 ev13; obtain rfl : v13 = 0 := ev13.trans (by decide +kernel)
  refine And.intro (g_in (by decide +kernel)) ?_
  intro v14 ev14; obtain rfl : v14 = 4 := ev14.trans (by decide +kernel)
  refine br_f (by decide +kernel) ?_
  intro v15 ev15; obtain rfl : v15 = 4 := ev15.trans (by decide +kernel)
  refine And.intro (g_in (by decide +kernel)) ?_
  intro v16 ev16; obtain rfl : v16 = 0 := ev16.trans (by decide +kernel)
  refine And.intro (g_in (by decide +kernel)) ?_
  intro v17 ev17; obtain rfl : v17 = 5 := ev17.trans (by decide +kernel)
  refine br_f (by decide +kernel) ?_
  intro v18 ev18; obtain rfl : v18 = 5 := ev18.trans (by decide +kernel)
  refine And.intro (g_in (by decide +kernel)) ?_
  intro v19 ev19; obtain rfl : v19 = 0 := ev19.trans (by decide +kernel)
  refine And.intro (g_in (by decide +kernel)) ?_
  intro v20 ev20; obtain rfl : v20 = 6 := ev20.trans (by decide +kernel)
  refine br_f (by decide +kernel) ?_
  intro v21 ev21; obtain rfl : v21 = 6 := ev21.trans (by decide +kernel)
  refine And.intro (g_in (by decide +kernel)) ?_
  intro v22 ev22; obtain rfl : v22 = 0 := ev22.trans (by decide +kernel)
  refine And.intro (g_in (by decide +kernel)) ?_
  intro v23 ev23; obtain rfl : v23 = 7 := ev23.trans (by decide +kernel)
  refine br_f (by decide +kernel) ?_
  intro v24 ev24; obtain rfl : v24 = 7 := ev24.trans (by decide +kernel)
  refine And.intro (g_in (by decide +kernel)) ?_
  intro v25 ev25; obtain rfl : v25 = 0 := ev25.trans (by decide +kernel)
  refine And.intro (g_in (by decide +kernel)) ?_
  intro v26 ev26; obtain rfl : v26 = 8 := ev26.trans (by decide +kernel)
  refine br_f (by decide +kernel) ?_
  intro v27 ev27; obtain rfl : v27 = 8 := ev27.trans (by decide +kernel)
  refine And.intro (g_in (by decide +kernel)) ?_
  intro v28 ev28; obtain rfl : v28 = 0 := ev28.trans (by decide +kernel)
  refine And.intro (g_in (by decide +kernel)) ?_
  intro v29 ev29; obtain rfl : v29 = 9 := ev29.trans (by decide +kernel)
  refine br_f (by decide +kernel) ?_
  intro v30 ev30; obtain rfl : v30 = 9 := ev30.trans (by decide +kernel)
  refine And.intro (g_in (by decide +kernel)) ?_
  intro v31 ev31; obtain rfl : v31 = 0 := ev31.trans (by decide +kernel)
  refine And.intro (g_in (by decide +kernel)) ?_
  intro v32 ev32; obtain rfl : v32 = 10 := ev32.trans (by decide +kernel)
  refine br_f (by decide +kernel) ?_
  intro v33 ev33; obtain rfl : v33 = 10 := ev33.trans (by decide +kernel)
  refine And.intro (g_in (by decide +kernel)) ?_
  intro v34 ev34; obtain rfl : v34 = 0 := ev34.trans (by decide +kernel)
  refine And.intro (g_in (by decide +kernel)) ?_
  intro v35 ev35; obtain rfl : v35 = 11 := ev35.trans (by decide +kernel)
  refine br_f (by decide +kernel) ?_
  intro v36 ev36; obtain rfl : v36 = 11 := ev36.trans (by decide +kernel)
  refine And.intro (g_in (by decide +kernel)) ?_
  intro v37 ev37; obtain rfl : v37 = 0 := ev37.trans (by decide +kernel)
  refine And.intro (g_in (by decide +kernel)) ?_
  intro v38 ev38; obtain rfl : v38 = 12 := ev38.trans (by decide +kernel)
  refine br_f (by decide +kernel) ?_
  intro v39 ev39; obtain rfl : v39 = 12 := ev39.trans (by decide +kernel)
  refine And.intro (g_in (by decide +kernel)) ?_
  intro v40 ev40; obtain rfl : v40 = 0 := ev40.trans (by decide +kernel)
  refine And.intro (g_in (by decide +kernel)) ?_
  intro v41 ev41; obtain rfl : v41 = 13 := ev41.trans (by decide +kernel)
  refine br_f (by decide +kernel) ?_
  intro v42 ev42; obtain rfl : v42 = 13 := ev42.trans (by decide +kernel)
  refine And.intro (g_in (by decide +kernel)) ?_
  intro v43 ev43; obtain rfl : v43 = 0 := ev43.trans (by decide +kernel)
  refine And.intro (g_in (by decide +kernel)) ?_
  intro v44 ev44; obtain rfl : v44 = 14 := ev44.trans (by decide +kernel)
  refine br_f (by decide +kernel) ?_
  intro v45 ev45; obtain rfl : v45 = 14 := ev45.trans (by decide +kernel)
  refine And.intro (g_in (by decide +kernel)) ?_
  intro v46 ev46; obtain rfl : v46 = 0 := ev46.trans (by decide +kernel)
  refine And.intro (g_in (by decide +kernel)) ?_
  intro v47 ev47; obtain rfl : v47 = 15 := ev47.trans (by decide +kernel)
  refine br_f (by decide +kernel) ?_
  intro v48 ev48; obtain rfl : v48 = 15 := ev48.trans (by decide +kernel)
  refine And.intro (g_in (by decide +kernel)) ?_
  intro v49 ev49; obtain rfl : v49 = 0 := ev49.trans (by decide +kernel)
  refine And.intro (g_in (by decide +kernel)) ?_
  intro v50 ev50; obtain rfl : v50 = 16 := ev50.trans (by decide +kernel)
  refine br_f (by decide +kernel) ?_
  intro v51 ev51; obtain rfl : v51 = 16 := ev51.trans (by decide +kernel)
  refine And.intro (g_in (by decide +kernel)) ?_
  intro v52 ev52; obtain rfl : v52 = 0 := ev52.trans (by decide +kernel)
  refine And.intro (g_in (by decide +kernel)) ?_
  intro v53 ev53; obtain rfl : v53 = 17 := ev53.trans (by decide +kernel)
  refine br_f (by decide +kernel) ?_
  intro v54 ev54; obtain rfl : v54 = 17 := ev54.trans (by decide +kernel)
  refine And.intro (g_in (by decide +kernel)) ?_
  intro v55 ev55; obtain rfl : v55 = (-1) := ev55.trans (by decide +kernel)
  refine And.intro (g_in (by decide +kernel)) ?_
  intro v56 ev56; obtain rfl : v56 = 18 := ev56.trans (by decide +kernel)
  refine br_f (by decide +kernel) ?_
  intro v57 ev57; obtain rfl : v57 = 18 := ev57.trans (by decide +kernel)
  refine And.intro (g_in (by decide +kernel)) ?_
  intro v58 ev58; obtain rfl : v58 = 0 := ev58.trans (by decide +kernel)
  refine And.intro (g_in (by decide +kernel)) ?_
  intro v59 ev59; obtain rfl : v59 = 19 := ev59.trans (by decide +kernel)
  refine br_f (by decide +kernel) ?_
  intro v60 ev60; obtain rfl : v60 = 19 := ev60.trans (by decide +kernel)
  refine And.intro (g_in (by decide +kernel)) ?_
  intro v61 ev61; obtain rfl : v61 = 0 := ev61.trans (by decide +kernel)
  refine And.intro (g_in (by decide +kernel)) ?_
  intro v62 ev62; obtain rfl : v62 = 20 := ev62.trans (by decide +kernel)
  refine br_f (by decide +kernel) ?_
  intro v63 ev63; obtain rfl : v63 = 20 := ev63.trans (by decide +kernel)
  refine And.intro (g_in (by decide +kernel)) ?_
  intro v64 ev64; obtain rfl : v64 = 0 := ev64.trans (by decide +kernel)
  refine And.intro (g_in (by decide +kernel)) ?_
  intro v65 ev65; obtain rfl : v65 = 21 := ev65.trans (by decide +kernel)
  refine br_t (by decide +kernel) ?_
  intro v66 ev66; obtain rfl : v66 = 1 := ev66.trans (by decide +kernel)
  refine Exists.intro 40 ?_
  refine br_t (by decide +kernel) ?_
  intro v67 ev67; obtain rfl : v67 = 0 := ev67.trans (by decide +kernel)
  intro v68 ev68; obtain rfl : v68 = 1 := ev68.trans (by decide +kernel)
  intro v69 ev69; obtain rfl : v69 = 1 := ev69.trans (by decide +kernel)
  exact h _ (by decide +kernel) _ _ _ _
set_option maxHeartbeats 8000000 in
set_option maxRecDepth 200000 in
theorem fm_day (post : Int32 → Int32 → Int32 → Int32 → Nat → Int32 → Int32 → Int32 → Int32 → Int32 → Int32 → Int32 → Int32 → Int32 → Int32 → Int32 → (Nat → Int32) → (Nat → Int32) → (Nat → Int32) → (Nat → Int32) → (Nat → Int32) → Prop) (h : ∀ r : Int32, r = 0 → ∀ o0 : Int32, ∀ o1 : Int32, ∀ o2 : Int32, ∀ o3 : Nat, ∀ o4 : Int32, ∀ o5 : Int32, ∀ o6 : Int32, ∀ o7 : Int32, ∀ o8 : Int32, ∀ o9 : Int32, ∀ o10 : Int32, ∀ o11 : Int32, ∀ o12 : Int32, ∀ o13 : Int32, ∀ o14 : Int32, ∀ o15 : (Nat → Int32), ∀ o16 : (Nat → Int32), ∀ o17 : (Nat → Int32), ∀ o18 : (Nat → Int32), ∀ o19 : (Nat → Int32), post r o0 o1 o2 o3 o4 o5 o6 o7 o8 o9 o10 o11 o12 o13 o14 o15 o16 o17 o18 o19) : wp_X10_day post 0 0 0 0 0 0 0 0 0 0 0 0 0 0 0 0 0 0 (upd (fun _ => 0) (17 : Int32).toNatClampNeg (-1)) (fun _ => 0) (fun _ => 0) (fun _ => 0) (fun _ => 0) (fun _ => 0) (fun _ => 0) (upd (upd (upd (upd (upd (fun _ => 0) (0 : Int32).toNatClampNeg 8) (1 : Int32).toNatClampNeg 3) (2 : Int32).toNatClampNeg 5) (3 : Int32).toNatClampNeg 1) (4 : Int32).toNatClampNeg 6) (fun _ => 0) (fun _ => 0) (fun _ => 0) (fun _ => 0) (fun _ => 0) (fun _ => 0) := by
  refine br_t (by decide +kernel) ?_
  refine Exists.intro 40 ?_
  refine br_t (by decide +kernel) ?_
  refine br_t (by decide +kernel) ?_
  refine And.intro (fun h9 => absurd rfl h9) (fun _ => ?_)
  refine And.intro (fun _ => ?_) (fun h9 => absurd h9 (by decide +kernel))
  refine Exists.intro 40 ?_
  refine br_f (by decide +kernel) ?_
  intro v1 ev1; obtain rfl : v1 = 0 := ev1.trans (by decide +kernel)
  refine And.intro (g_in (by decide +kernel)) ?_
  intro v2 ev2; obtain rfl : v2 = 0 := ev2.trans (by decide +kernel)
  refine And.intro (g_in (by decide +kernel)) ?_
  intro v3 ev3; obtain rfl : v3 = 1 := ev3.trans (by decide +kernel)
  refine br_f (by decide +kernel) ?_
  intro v4 ev4; obtain rfl : v4 = 1 := ev4.trans (by decide +kernel)
  refine And.intro (g_in (by decide +kernel)) ?_
  intro v5 ev5; obtain rfl : v5 = 0 := ev5.trans (by decide +kernel)
  refine And.intro (g_in (by decide +kernel)) ?_
  intro v6 ev6; obtain rfl : v6 = 2 := ev6.trans (by decide +kernel)
  refine br_f (by decide +kernel) ?_
  intro v7 ev7; obtain rfl : v7 = 2 := ev7.trans (by decide +kernel)
  refine And.intro (g_in (by decide +kernel)) ?_
  intro v8 ev8; obtain rfl : v8 = 0 := ev8.trans (by decide +kernel)
  refine And.intro (g_in (by decide +kernel)) ?_
  intro v9 ev9; obtain rfl : v9 = 3 := ev9.trans (by decide +kernel)
  refine br_f (by decide +kernel) ?_
  intro v10 ev10; obtain rfl : v10 = 3 := ev10.trans (by decide +kernel)
  refine And.intro (g_in (by decide +kernel)) ?_
  intro v11 ev11; obtain rfl : v11 = 0 := ev11.trans (by decide +kernel)
  refine And.intro (g_in (by decide +kernel)) ?_
  intro v12 ev12; obtain rfl : v12 = 4 := ev12.trans (by decide +kernel)
  refine br_f (by decide +kernel) ?_
  intro v13 ev13; obtain rfl : v13 = 4 := ev13.trans (by decide +kernel)
  refine And.intro (g_in (by decide +kernel)) ?_
  intro v14 ev14; obtain rfl : v14 = 0 := ev14.trans (by decide +kernel)
  refine And.intro (g_in (by decide +kernel)) ?_
  intro v15 ev15; obtain rfl : v15 = 5 := ev15.trans (by decide +kernel)
  refine br_f (by decide +kernel) ?_
  intro v16 ev16; obtain rfl : v16 = 5 := ev16.trans (by decide +kernel)
  refine And.intro (g_in (by decide +kernel)) ?_
  intro v17 ev17; obtain rfl : v17 = 0 := ev17.trans (by decide +kernel)
  refine And.intro (g_in (by decide +kernel)) ?_
  intro v18 ev18; obtain rfl : v18 = 6 := ev18.trans (by decide +kernel)
  refine br_f (by decide +kernel) ?_
  intro v19 ev19; obtain rfl : v19 = 6 := ev19.trans (by decide +kernel)
  refine And.intro (g_in (by decide +kernel)) ?_
  intro v20 ev20; obtain rfl : v20 = 0 := ev20.trans (by decide +kernel)
  refine And.intro (g_in (by decide +kernel)) ?_
  intro v21 ev21; obtain rfl : v21 = 7 := ev21.trans (by decide +kernel)
  refine br_f (by decide +kernel) ?_
  intro v22 ev22; obtain rfl : v22 = 7 := ev22.trans (by decide +kernel)
  refine And.intro (g_in (by decide +kernel)) ?_
  intro v23 ev23; obtain rfl : v23 = 0 := ev23.trans (by decide +kernel)
  refine And.intro (g_in (by decide +kernel)) ?_
  intro v24 ev24; obtain rfl : v24 = 8 := ev24.trans (by decide +kernel)
  refine br_f (by decide +kernel) ?_
  intro v25 ev25; obtain rfl : v25 = 8 := ev25.trans (by decide +kernel)
  refine And.intro (g_in (by decide +kernel)) ?_
  intro v26 ev26; obtain rfl : v26 = 0 := ev26.trans (by decide +kernel)
  refine And.intro (g_in (by decide +kernel)) ?_
  intro v27 ev27; obtain rfl : v27 = 9 := ev27.trans (by decide +kernel)
  refine br_f (by decide +kernel) ?_
  intro v28 ev28; obtain rfl : v28 = 9 := ev28.trans (by decide +kernel)
  refine And.intro (g_in (by decide +kernel)) ?_
  intro v29 ev29; obtain rfl : v29 = 0 := ev29.trans (by decide +kernel)
  refine And.intro (g_in (by decide +kernel)) ?_
  intro v30 ev30; obtain rfl : v30 = 10 := ev30.trans (by decide +kernel)
  refine br_f (by decide +kernel) ?_
  intro v31 ev31; obtain rfl : v31 = 10 := ev31.trans (by decide +kernel)
  refine And.intro (g_in (by decide +kernel)) ?_
  intro v32 ev32; obtain rfl : v32 = 0 := ev32.trans (by decide +kernel)
  refine And.intro (g_in (by decide +kernel)) ?_
  intro v33 ev33; obtain rfl : v33 = 11 := ev33.trans (by decide +kernel)
  refine br_f (by decide +kernel) ?_
  intro v34 ev34; obtain rfl : v34 = 11 := ev34.trans (by decide +kernel)
  refine And.intro (g_in (by decide +kernel)) ?_
  intro v35 ev35; obtain rfl : v35 = 0 := ev35.trans (by decide +kernel)
  refine And.intro (g_in (by decide +kernel)) ?_
  intro v36 ev36; obtain rfl : v36 = 12 := ev36.trans (by decide +kernel)
  refine br_f (by decide +kernel) ?_
  intro v37 ev37; obtain rfl : v37 = 12 := ev37.trans (by decide +kernel)
  refine And.intro (g_in (by decide +kernel)) ?_
  intro v38 ev38; obtain rfl : v38 = 0 := ev38.trans (by decide +kernel)
  refine And.intro (g_in (by decide +kernel)) ?_
  intro v39 ev39; obtain rfl : v39 = 13 := ev39.trans (by decide +kernel)
  refine br_f (by decide +kernel) ?_
  intro v40 ev40; obtain rfl : v40 = 13 := ev40.trans (by decide +kernel)
  refine And.intro (g_in (by decide +kernel)) ?_
  intro v41 ev41; obtain rfl : v41 = 0 := ev41.trans (by decide +kernel)
  refine And.intro (g_in (by decide +kernel)) ?_
  intro v42 ev42; obtain rfl : v42 = 14 := ev42.trans (by decide +kernel)
  refine br_f (by decide +kernel) ?_
  intro v43 ev43; obtain rfl : v43 = 14 := ev43.trans (by decide +kernel)
  refine And.intro (g_in (by decide +kernel)) ?_
  intro v44 ev44; obtain rfl : v44 = 0 := ev44.trans (by decide +kernel)
  refine And.intro (g_in (by decide +kernel)) ?_
  intro v45 ev45; obtain rfl : v45 = 15 := ev45.trans (by decide +kernel)
  refine br_f (by decide +kernel) ?_
  intro v46 ev46; obtain rfl : v46 = 15 := ev46.trans (by decide +kernel)
  refine And.intro (g_in (by decide +kernel)) ?_
  intro v47 ev47; obtain rfl : v47 = 0 := ev47.trans (by decide +kernel)
  refine And.intro (g_in (by decide +kernel)) ?_
  intro v48 ev48; obtain rfl : v48 = 16 := ev48.trans (by decide +kernel)
  refine br_f (by decide +kernel) ?_
  intro v49 ev49; obtain rfl : v49 = 16 := ev49.trans (by decide +kernel)
  refine And.intro (g_in (by decide +kernel)) ?_
  intro v50 ev50; obtain rfl : v50 = 0 := ev50.trans (by decide +kernel)
  refine And.intro (g_in (by decide +kernel)) ?_
  intro v51 ev51; obtain rfl : v51 = 17 := ev51.trans (by decide +kernel)
  refine br_f (by decide +kernel) ?_
  intro v52 ev52; obtain rfl : v52 = 17 := ev52.trans (by decide +kernel)
  refine And.intro (g_in (by decide +kernel)) ?_
  intro v53 ev53; obtain rfl : v53 = (-1) := ev53.trans (by decide +kernel)
  refine And.intro (g_in (by decide +kernel)) ?_
  intro v54 ev54; obtain rfl : v54 = 18 := ev54.trans (by decide +kernel)
  refine br_f (by decide +kernel) ?_
  intro v55 ev55; obtain rfl : v55 = 18 := ev55.trans (by decide +kernel)
  refine And.intro (g_in (by decide +kernel)) ?_
  intro v56 ev56; obtain rfl : v56 = 0 := ev56.trans (by decide +kernel)
  refine And.intro (g_in (by decide +kernel)) ?_
  intro v57 ev57; obtain rfl : v57 = 19 := ev57.trans (by decide +kernel)
  refine br_f (by decide +kernel) ?_
  intro v58 ev58; obtain rfl : v58 = 19 := ev58.trans (by decide +kernel)
  refine And.intro (g_in (by decide +kernel)) ?_
  intro v59 ev59; obtain rfl : v59 = 0 := ev59.trans (by decide +kernel)
  refine And.intro (g_in (by decide +kernel)) ?_
  intro v60 ev60; obtain rfl : v60 = 20 := ev60.trans (by decide +kernel)
  refine br_f (by decide +kernel) ?_
  intro v61 ev61; obtain rfl : v61 = 20 := ev61.trans (by decide +kernel)
  refine And.intro (g_in (by decide +kernel)) ?_
  intro v62 ev62; obtain rfl : v62 = 0 := ev62.trans (by decide +kernel)
  refine And.intro (g_in (by decide +kernel)) ?_
  intro v63 ev63; obtain rfl : v63 = 21 := ev63.trans (by decide +kernel)
  refine br_t (by decide +kernel) ?_
  refine Exists.intro 40 ?_
  refine br_t (by decide +kernel) ?_
  refine br_t (by decide +kernel) ?_
  refine br_t (by decide +kernel) ?_
  refine And.intro (g_in (by decide +kernel)) ?_
  intro v64 ev64; obtain rfl : v64 = 1 := ev64.trans (by decide +kernel)
  refine And.intro (g_in (by decide +kernel)) ?_
  intro v65 ev65; obtain rfl : v65 = 2 := ev65.trans (by decide +kernel)
  exact h _ (by decide +kernel) _ _ _ _ _ _ _ _ _ _ _ _ _ _ _ _ _ _ _ _
set_option maxHeartbeats 8000000 in
set_option maxRecDepth 200000 in
theorem fm_undo (post : Int32 → Int32 → Int32 → (Nat → Int32) → Prop) (h : ∀ r : Int32, r = (-1) → ∀ o0 : Int32, ∀ o1 : Int32, ∀ o2 : (Nat → Int32), post r o0 o1 o2) : wp_X10_undo post 0 0 (upd (fun _ => 0) (17 : Int32).toNatClampNeg (-1)) (fun _ => 0) := by
  refine And.intro (fun h9 => absurd rfl h9) (fun _ => ?_)
  exact h _ (by decide +kernel) _ _ _
set_option maxHeartbeats 8000000 in
set_option maxRecDepth 200000 in
theorem fm_reached (post : Int32 → Int32 → Int32 → (Nat → Int32) → Prop) (p0 : Int32) (h : ∀ r : Int32, r = (-1) → ∀ o0 : Int32, ∀ o1 : Int32, ∀ o2 : (Nat → Int32), post r o0 o1 o2) : wp_X10_reached post p0 0 0 0 0 (fun _ => 0) (fun _ => 0) (fun _ => 0) (fun _ => 0) (upd (upd (upd (upd (upd (fun _ => 0) (0 : Int32).toNatClampNeg 8) (1 : Int32).toNatClampNeg 3) (2 : Int32).toNatClampNeg 5) (3 : Int32).toNatClampNeg 1) (4 : Int32).toNatClampNeg 6) (fun _ => 0) := by
  intro v1 ev1; obtain rfl : v1 = (-1) := ev1.trans (by decide +kernel)
  refine And.intro (fun hc2 => ?_) (fun hc2 => ?_)
  · skip
    refine And.intro rfl ?_
    refine And.intro (fun h9 => absurd rfl h9) (fun _ => ?_)
    exact h _ (by decide +kernel) _ _ _
  · skip
    refine br_t ((fa_lt (-1) p0).mpr (by have l_0 : ((-1) : Int32).toInt = (-1) := (by decide); have l_1 : (0 : Int32).toInt = 0 := (by decide); have g_hc2 := mt (fa_lt p0 0).mpr hc2; omega)) ?_
    refine And.intro rfl ?_
    refine And.intro (fun h9 => absurd rfl h9) (fun _ => ?_)
    exact h _ (by decide +kernel) _ _ _
set_option maxHeartbeats 8000000 in
set_option maxRecDepth 200000 in
theorem fm_from (post : Int32 → Int32 → Prop) (p0 : Int32) (p1 : Int32) (h : ∀ r : Int32, r = (-1) → ∀ o0 : Int32, post r o0) : wp_X10_from post p0 p1 0 0 0 (upd (fun _ => 0) (17 : Int32).toNatClampNeg (-1)) (fun _ => 0) (fun _ => 0) (fun _ => 0) (fun _ => 0) (upd (upd (upd (upd (upd (fun _ => 0) (0 : Int32).toNatClampNeg 8) (1 : Int32).toNatClampNeg 3) (2 : Int32).toNatClampNeg 5) (3 : Int32).toNatClampNeg 1) (4 : Int32).toNatClampNeg 6) := by
  intro v1 ev1; obtain rfl : v1 = (-1) := ev1.trans (by decide +kernel)
  refine And.intro (fun hc2 => ?_) (fun hc2 => ?_)
  · skip
    refine And.intro rfl ?_
    refine br_t (by decide +kernel) ?_
    exact h _ (by decide +kernel) _
  · skip
    refine br_t ((fa_lt (-1) p0).mpr (by have l_0 : ((-1) : Int32).toInt = (-1) := (by decide); have l_1 : (0 : Int32).toInt = 0 := (by decide); have g_hc2 := mt (fa_lt p0 0).mpr hc2; omega)) ?_
    refine And.intro rfl ?_
    refine br_t (by decide +kernel) ?_
    exact h _ (by decide +kernel) _
set_option maxHeartbeats 8000000 in
set_option maxRecDepth 200000 in
theorem fm_never (post : Int32 → Int32 → Int32 → (Nat → Int32) → Prop) (h : ∀ r : Int32, r = 0 → ∀ o0 : Int32, ∀ o1 : Int32, ∀ o2 : (Nat → Int32), post r o0 o1 o2) : wp_X10_never post 0 0 0 0 (upd (fun _ => 0) (17 : Int32).toNatClampNeg (-1)) (fun _ => 0) (fun _ => 0) (fun _ => 0) (fun _ => 0) (fun _ => 0) (upd (upd (upd (upd (upd (fun _ => 0) (0 : Int32).toNatClampNeg 8) (1 : Int32).toNatClampNeg 3) (2 : Int32).toNatClampNeg 5) (3 : Int32).toNatClampNeg 1) (4 : Int32).toNatClampNeg 6) (fun _ => 0) := by
  refine Exists.intro 40 ?_
  refine br_t (by decide +kernel) ?_
  refine Exists.intro 40 ?_
  refine br_t (by decide +kernel) ?_
  intro v1 ev1; obtain rfl : v1 = 0 := ev1.trans (by decide +kernel)
  refine Exists.intro 40 ?_
  refine br_t (by decide +kernel) ?_
  refine And.intro (g_in (by decide +kernel)) ?_
  intro v2 ev2; obtain rfl : v2 = 1 := ev2.trans (by decide +kernel)
  exact h _ (by decide +kernel) _ _ _
set_option maxHeartbeats 8000000 in
set_option maxRecDepth 200000 in
theorem fm_seconds (post : Int32 → Int32 → Nat → Int32 → Int32 → Int32 → Int32 → Int32 → Int32 → Int32 → Int32 → Int32 → Prop) (p0 : Int32) (p1 : Int32) (p2 : Int32) (h : ∀ r : Int32, r = (-1) → ∀ o0 : Int32, ∀ o1 : Nat, ∀ o2 : Int32, ∀ o3 : Int32, ∀ o4 : Int32, ∀ o5 : Int32, ∀ o6 : Int32, ∀ o7 : Int32, ∀ o8 : Int32, ∀ o9 : Int32, ∀ o10 : Int32, post r o0 o1 o2 o3 o4 o5 o6 o7 o8 o9 o10) : wp_X10_seconds post p0 p1 p2 0 0 0 0 0 0 0 0 0 0 0 0 0 0 (upd (fun _ => 0) (17 : Int32).toNatClampNeg (-1)) (fun _ => 0) (fun _ => 0) (fun _ => 0) (fun _ => 0) (fun _ => 0) (upd (upd (upd (upd (upd (fun _ => 0) (0 : Int32).toNatClampNeg 8) (1 : Int32).toNatClampNeg 3) (2 : Int32).toNatClampNeg 5) (3 : Int32).toNatClampNeg 1) (4 : Int32).toNatClampNeg 6) (fun _ => 0) (fun _ => 0) := by
  intro v1 ev1; obtain rfl : v1 = (-1) := ev1.trans (by decide +kernel)
  refine And.intro (fun hc2 => ?_) (fun hc2 => ?_)
  · skip
    refine And.intro rfl ?_
    refine br_t (by decide +kernel) ?_
    exact h _ (by decide +kernel) _ _ _ _ _ _ _ _ _ _ _
  · skip
    refine br_t ((fa_lt (-1) p0).mpr (by have l_0 : ((-1) : Int32).toInt = (-1) := (by decide); have l_1 : (0 : Int32).toInt = 0 := (by decide); have g_hc2 := mt (fa_lt p0 0).mpr hc2; omega)) ?_
    refine And.intro rfl ?_
    refine br_t (by decide +kernel) ?_
    exact h _ (by decide +kernel) _ _ _ _ _ _ _ _ _ _ _
set_option maxHeartbeats 8000000 in
set_option maxRecDepth 200000 in
theorem fm_both (post : Int32 → Int32 → Int32 → Int32 → (Nat → Int32) → (Nat → Int32) → Prop) (p0 : Int32) (p1 : Int32) (h : ∀ r : Int32, r = (-1) → ∀ o0 : Int32, ∀ o1 : Int32, ∀ o2 : Int32, ∀ o3 : (Nat → Int32), ∀ o4 : (Nat → Int32), post r o0 o1 o2 o3 o4) : wp_X10_both post p0 p1 0 0 0 0 0 (upd (fun _ => 0) (17 : Int32).toNatClampNeg (-1)) (fun _ => 0) (fun _ => 0) (fun _ => 0) (fun _ => 0) (fun _ => 0) (upd (upd (upd (upd (upd (fun _ => 0) (0 : Int32).toNatClampNeg 8) (1 : Int32).toNatClampNeg 3) (2 : Int32).toNatClampNeg 5) (3 : Int32).toNatClampNeg 1) (4 : Int32).toNatClampNeg 6) (fun _ => 0) (fun _ => 0) := by
  intro v1 ev1; obtain rfl : v1 = (-1) := ev1.trans (by decide +kernel)
  refine And.intro (fun hc2 => ?_) (fun hc2 => ?_)
  · skip
    refine And.intro rfl ?_
    refine br_t (by decide +kernel) ?_
    exact h _ (by decide +kernel) _ _ _ _ _
  · skip
    refine br_t ((fa_lt (-1) p0).mpr (by have l_0 : ((-1) : Int32).toInt = (-1) := (by decide); have l_1 : (0 : Int32).toInt = 0 := (by decide); have g_hc2 := mt (fa_lt p0 0).mpr hc2; omega)) ?_
    refine And.intro rfl ?_
    refine br_t (by decide +kernel) ?_
    exact h _ (by decide +kernel) _ _ _ _ _
set_option maxHeartbeats 8000000 in
set_option maxRecDepth 200000 in
theorem fm_nearest (post : Int32 → Int32 → Int32 → (Nat → Int32) → Prop) (p0 : Int32) (h : ∀ r : Int32, r = (-1) → ∀ o0 : Int32, ∀ o1 : Int32, ∀ o2 : (Nat → Int32), post r o0 o1 o2) : wp_X10_nearest post p0 0 0 0 0 (fun _ => 0) (fun _ => 0) (fun _ => 0) (fun _ => 0) (upd (upd (upd (upd (upd (fun _ => 0) (0 : Int32).toNatClampNeg 8) (1 : Int32).toNatClampNeg 3) (2 : Int32).toNatClampNeg 5) (3 : Int32).toNatClampNeg 1) (4 : Int32).toNatClampNeg 6) (fun _ => 0) := by
  intro v1 ev1; obtain rfl : v1 = (-1) := ev1.trans (by decide +kernel)
  refine And.intro (fun hc2 => ?_) (fun hc2 => ?_)
  · skip
    refine And.intro rfl ?_
    refine And.intro (fun h9 => absurd rfl h9) (fun _ => ?_)
    exact h _ (by decide +kernel) _ _ _
  · skip
    refine br_t ((fa_lt (-1) p0).mpr (by have l_0 : ((-1) : Int32).toInt = (-1) := (by decide); have l_1 : (0 : Int32).toInt = 0 := (by decide); have g_hc2 := mt (fa_lt p0 0).mpr hc2; omega)) ?_
    refine And.intro rfl ?_
    refine And.intro (fun h9 => absurd rfl h9) (fun _ => ?_)
    exact h _ (by decide +kernel) _ _ _
set_option maxHeartbeats 8000000 in
set_option maxRecDepth 200000 in
theorem fm_fewest (post : Int32 → Int32 → Int32 → Int32 → (Nat → Int32) → (Nat → Int32) → Prop) (h : ∀ r : Int32, r = 0 → ∀ o0 : Int32, ∀ o1 : Int32, ∀ o2 : Int32, ∀ o3 : (Nat → Int32), ∀ o4 : (Nat → Int32), post r o0 o1 o2 o3 o4) : wp_X10_fewest post 0 0 0 0 0 (upd (fun _ => 0) (17 : Int32).toNatClampNeg (-1)) (fun _ => 0) (fun _ => 0) (fun _ => 0) (fun _ => 0) (fun _ => 0) (upd (upd (upd (upd (upd (fun _ => 0) (0 : Int32).toNatClampNeg 8) (1 : Int32).toNatClampNeg 3) (2 : Int32).toNatClampNeg 5) (3 : Int32).toNatClampNeg 1) (4 : Int32).toNatClampNeg 6) (fun _ => 0) (fun _ => 0) := by
  intro v1 ev1; obtain rfl : v1 = 0 := ev1.trans (by decide +kernel)
  refine Exists.intro 40 ?_
  refine br_t (by decide +kernel) ?_
  refine Exists.intro 40 ?_
  refine br_t (by decide +kernel) ?_
  intro v2 ev2; obtain rfl : v2 = 0 := ev2.trans (by decide +kernel)
  refine Exists.intro 40 ?_
  refine br_t (by decide +kernel) ?_
  intro v3 ev3; obtain rfl : v3 = 0 := ev3.trans (by decide +kernel)
  intro v4 ev4; obtain rfl : v4 = 1 := ev4.trans (by decide +kernel)
  refine Exists.intro 40 ?_
  refine br_t (by decide +kernel) ?_
  intro v5 ev5; obtain rfl : v5 = 0 := ev5.trans (by decide +kernel)
  refine Exists.intro 40 ?_
  intro v6 ev6; obtain rfl : v6 = 1 := ev6.trans (by decide +kernel)
  refine br_f (by decide +kernel) ?_
  refine Exists.intro 40 ?_
  refine br_t (by decide +kernel) ?_
  refine br_t (by decide +kernel) ?_
  refine And.intro (fun h9 => absurd rfl h9) (fun _ => ?_)
  refine br_t (by decide +kernel) ?_
  intro v7 ev7; obtain rfl : v7 = 1 := ev7.trans (by decide +kernel)
  intro v8 ev8; obtain rfl : v8 = 1 := ev8.trans (by decide +kernel)
  refine br_t (by decide +kernel) ?_
  refine Exists.intro 40 ?_
  refine br_t (by decide +kernel) ?_
  intro v9 ev9; obtain rfl : v9 = 0 := ev9.trans (by decide +kernel)
  intro v10 ev10; obtain rfl : v10 = 0 := ev10.trans (by decide +kernel)
  intro v11 ev11; obtain rfl : v11 = 0 := ev11.trans (by decide +kernel)
  intro v12 ev12; obtain rfl : v12 = 0 := ev12.trans (by decide +kernel)
  intro v13 ev13; obtain rfl : v13 = 0 := ev13.trans (by decide +kernel)
  intro v14 ev14; obtain rfl : v14 = 0 := ev14.trans (by decide +kernel)
  intro v15 ev15; obtain rfl : v15 = 0 := ev15.trans (by decide +kernel)
  intro v16 ev16; obtain rfl : v16 = 0 := ev16.trans (by decide +kernel)
  intro v17 ev17; obtain rfl : v17 = 0 := ev17.trans (by decide +kernel)
  exact h _ (by decide +kernel) _ _ _ _ _
set_option maxHeartbeats 8000000 in
set_option maxRecDepth 200000 in
theorem fm_needed (post : Int32 → Int32 → Int32 → Int32 → (Nat → Int32) → (Nat → Int32) → Prop) (h : ∀ r : Int32, r = 0 → ∀ o0 : Int32, ∀ o1 : Int32, ∀ o2 : Int32, ∀ o3 : (Nat → Int32), ∀ o4 : (Nat → Int32), post r o0 o1 o2 o3 o4) : wp_X10_needed post 0 0 0 0 0 (upd (fun _ => 0) (17 : Int32).toNatClampNeg (-1)) (fun _ => 0) (fun _ => 0) (fun _ => 0) (fun _ => 0) (fun _ => 0) (upd (upd (upd (upd (upd (fun _ => 0) (0 : Int32).toNatClampNeg 8) (1 : Int32).toNatClampNeg 3) (2 : Int32).toNatClampNeg 5) (3 : Int32).toNatClampNeg 1) (4 : Int32).toNatClampNeg 6) (fun _ => 0) (fun _ => 0) := by
  intro v1 ev1; obtain rfl : v1 = 0 := ev1.trans (by decide +kernel)
  refine Exists.intro 40 ?_
  refine br_t (by decide +kernel) ?_
  refine Exists.intro 40 ?_
  refine br_t (by decide +kernel) ?_
  intro v2 ev2; obtain rfl : v2 = 0 := ev2.trans (by decide +kernel)
  refine Exists.intro 40 ?_
  refine br_t (by decide +kernel) ?_
  intro v3 ev3; obtain rfl : v3 = 0 := ev3.trans (by decide +kernel)
  intro v4 ev4; obtain rfl : v4 = 1 := ev4.trans (by decide +kernel)
  refine Exists.intro 40 ?_
  refine br_t (by decide +kernel) ?_
  intro v5 ev5; obtain rfl : v5 = 0 := ev5.trans (by decide +kernel)
  refine Exists.intro 40 ?_
  refine br_t (by decide +kernel) ?_
  refine And.intro (g_in (by decide +kernel)) ?_
  intro v6 ev6; obtain rfl : v6 = 1 := ev6.trans (by decide +kernel)
  exact h _ (by decide +kernel) _ _ _ _ _
set_option maxHeartbeats 8000000 in
set_option maxRecDepth 200000 in
theorem fm_birds (post : Int32 → Int32 → Int32 → Int32 → (Nat → Int32) → (Nat → Int32) → Prop) (p0 : Int32) (h : ∀ r : Int32, r = (if p0 < 0 then (-1) else (if 8 < p0 then (-1) else 0)) → ∀ o0 : Int32, ∀ o1 : Int32, ∀ o2 : Int32, ∀ o3 : (Nat → Int32), ∀ o4 : (Nat → Int32), post r o0 o1 o2 o3 o4) : wp_X10_birds post p0 0 0 0 0 0 (upd (fun _ => 0) (17 : Int32).toNatClampNeg (-1)) (fun _ => 0) (fun _ => 0) (fun _ => 0) (fun _ => 0) (fun _ => 0) (fun _ => 0) (upd (upd (upd (upd (upd (fun _ => 0) (0 : Int32).toNatClampNeg 8) (1 : Int32).toNatClampNeg 3) (2 : Int32).toNatClampNeg 5) (3 : Int32).toNatClampNeg 1) (4 : Int32).toNatClampNeg 6) (fun _ => 0) (fun _ => 0) := by
  refine And.intro (fun hc1 => ?_) (fun hc1 => ?_)
  · skip
    refine And.intro (fun h9 => absurd rfl h9) (fun _ => ?_)
    exact h _ ((if_pos ((fa_lt p0 0).mpr (by have l_0 : (0 : Int32).toInt = 0 := (by decide); have g_hc1 := (fa_lt p0 0).mp hc1; omega))).symm) _ _ _ _ _
  · skip
    refine And.intro (fun hc2 => ?_) (fun hc2 => ?_)
    · skip
      refine And.intro (fun h9 => absurd rfl h9) (fun _ => ?_)
      exact h _ (((if_neg (fun q0 => absurd ((fa_lt p0 0).mp q0) (by have l_0 : (0 : Int32).toInt = 0 := (by decide); have l_1 : (8 : Int32).toInt = 8 := (by decide); have g_hc1 := mt (fa_lt p0 0).mpr hc1; have g_hc2 := (fa_lt 8 p0).mp hc2; omega))).trans (if_pos ((fa_lt 8 p0).mpr (by have l_0 : (0 : Int32).toInt = 0 := (by decide); have l_1 : (8 : Int32).toInt = 8 := (by decide); have g_hc1 := mt (fa_lt p0 0).mpr hc1; have g_hc2 := (fa_lt 8 p0).mp hc2; omega)))).symm) _ _ _ _ _
    · skip
      refine And.intro (fun _ => ?_) (fun h9 => absurd h9 (by decide +kernel))
      intro v3 ev3; obtain rfl : v3 = 0 := ev3.trans (by decide +kernel)
      refine Exists.intro 40 ?_
      refine br_t (by decide +kernel) ?_
      refine Exists.intro 40 ?_
      refine br_t (by decide +kernel) ?_
      intro v4 ev4; obtain rfl : v4 = 0 := ev4.trans (by decide +kernel)
      refine Exists.intro 40 ?_
      refine br_t (by decide +kernel) ?_
      intro v5 ev5; obtain rfl : v5 = 0 := ev5.trans (by decide +kernel)
      intro v6 ev6; obtain rfl : v6 = 1 := ev6.trans (by decide +kernel)
      refine Exists.intro 40 ?_
      refine br_t (by decide +kernel) ?_
      intro v7 ev7; obtain rfl : v7 = 0 := ev7.trans (by decide +kernel)
      refine Exists.intro 40 ?_
      intro v8 ev8; obtain rfl : v8 = 1 := ev8.trans (by decide +kernel)
      refine br_t (by decide +kernel) ?_
      refine And.intro (g_in (by decide +kernel)) ?_
      intro v9 ev9; obtain rfl : v9 = 1 := ev9.trans (by decide +kernel)
      refine Exists.intro 40 ?_
      refine br_t (by decide +kernel) ?_
      intro v10 ev10; obtain rfl : v10 = 0 := ev10.trans (by decide +kernel)
      refine And.intro (g_in (by decide +kernel)) ?_
      intro v11 ev11; obtain rfl : v11 = 2 := ev11.trans (by decide +kernel)
      refine Exists.intro 40 ?_
      refine br_t (by decide +kernel) ?_
      intro v12 ev12; obtain rfl : v12 = 0 := ev12.trans (by decide +kernel)
      intro v13 ev13; obtain rfl : v13 = 0 := ev13.trans (by decide +kernel)
      refine Exists.intro 40 ?_
      refine br_t (by decide +kernel) ?_
      exact h _ (((if_neg (fun q0 => absurd ((fa_lt p0 0).mp q0) (by have l_0 : (0 : Int32).toInt = 0 := (by decide); have l_1 : (8 : Int32).toInt = 8 := (by decide); have g_hc1 := mt (fa_lt p0 0).mpr hc1; have g_hc2 := mt (fa_lt 8 p0).mpr hc2; omega))).trans (if_neg (fun q0 => absurd ((fa_lt 8 p0).mp q0) (by have l_0 : (0 : Int32).toInt = 0 := (by decide); have l_1 : (8 : Int32).toInt = 8 := (by decide); have g_hc1 := mt (fa_lt p0 0).mpr hc1; have g_hc2 := mt (fa_lt 8 p0).mpr hc2; omega)))).symm) _ _ _ _ _
set_option maxHeartbeats 8000000 in
set_option maxRecDepth 200000 in
theorem fm_next (post : Int32 → Int32 → Int32 → Int32 → (Nat → Int32) → (Nat → Int32) → Prop) (p0 : Int32) (h : ∀ r : Int32, r = (if p0 = 0 then (-2) else (-1)) → ∀ o0 : Int32, ∀ o1 : Int32, ∀ o2 : Int32, ∀ o3 : (Nat → Int32), ∀ o4 : (Nat → Int32), post r o0 o1 o2 o3 o4) : wp_X10_next post p0 0 0 0 0 0 (upd (fun _ => 0) (17 : Int32).toNatClampNeg (-1)) (fun _ => 0) (fun _ => 0) (fun _ => 0) (fun _ => 0) (fun _ => 0) (fun _ => 0) (upd (upd (upd (upd (upd (fun _ => 0) (0 : Int32).toNatClampNeg 8) (1 : Int32).toNatClampNeg 3) (2 : Int32).toNatClampNeg 5) (3 : Int32).toNatClampNeg 1) (4 : Int32).toNatClampNeg 6) (fun _ => 0) (fun _ => 0) := by
  intro v1 ev1; obtain rfl : v1 = 1 := ev1.trans (by decide +kernel)
  refine And.intro (fun hc2 => ?_) (fun hc2 => ?_)
  · skip
    refine And.intro (fun h9 => absurd rfl h9) (fun _ => ?_)
    exact h _ ((if_neg (fun q0 => absurd ((fa_eq p0 0).mp q0) (by have l_0 : (0 : Int32).toInt = 0 := (by decide); have g_hc2 := (fa_lt p0 0).mp hc2; omega))).symm) _ _ _ _ _
  · skip
    refine And.intro (fun hc3 => ?_) (fun hc3 => ?_)
    · skip
      refine And.intro (fun h9 => absurd rfl h9) (fun _ => ?_)
      exact h _ ((if_neg (fun q0 => absurd ((fa_eq p0 0).mp q0) (by have l_0 : (0 : Int32).toInt = 0 := (by decide); have g_hc2 := mt (fa_lt p0 0).mpr hc2; have g_hc3 := (fa_lt 0 p0).mp hc3; omega))).symm) _ _ _ _ _
    · skip
      obtain rfl : p0 = 0 := (fa_eq _ _).mpr (by have l_0 : (0 : Int32).toInt = 0 := (by decide); have g_hc2 := mt (fa_lt p0 0).mpr hc2; have g_hc3 := mt (fa_lt 0 p0).mpr hc3; omega)
      refine And.intro (fun _ => ?_) (fun h9 => absurd h9 (by decide +kernel))
      intro v4 ev4; obtain rfl : v4 = 0 := ev4.trans (by decide +kernel)
      refine Exists.intro 40 ?_
      refine br_t (by decide +kernel) ?_
      refine Exists.intro 40 ?_
      refine br_t (by decide +kernel) ?_
      intro v5 ev5; obtain rfl : v5 = 0 := ev5.trans (by decide +kernel)
      refine Exists.intro 40 ?_
      refine br_t (by decide +kernel) ?_
      intro v6 ev6; obtain rfl : v6 = 0 := ev6.trans (by decide +kernel)
      intro v7 ev7; obtain rfl : v7 = 1 := ev7.trans (by decide +kernel)
      refine Exists.intro 40 ?_
      refine br_t (by decide +kernel) ?_
      intro v8 ev8; obtain rfl : v8 = 0 := ev8.trans (by decide +kernel)
      refine Exists.intro 40 ?_
      refine br_t (by decide +kernel) ?_
      refine br_f (by decide +kernel) ?_
      exact h _ ((if_pos (by decide +kernel)).symm) _ _ _ _ _
set_option maxHeartbeats 8000000 in
set_option maxRecDepth 200000 in
theorem fm_route (post : Int32 → Int32 → Int32 → (Nat → Int32) → (Nat → Int32) → Prop) (p0 : Int32) (h : ∀ r : Int32, r = (if p0 = 0 then 0 else (-1)) → ∀ o0 : Int32, ∀ o1 : Int32, ∀ o2 : (Nat → Int32), ∀ o3 : (Nat → Int32), post r o0 o1 o2 o3) : wp_X10_route post p0 0 0 0 (upd (fun _ => 0) (17 : Int32).toNatClampNeg (-1)) (fun _ => 0) (upd (upd (upd (upd (upd (fun _ => 0) (0 : Int32).toNatClampNeg 8) (1 : Int32).toNatClampNeg 3) (2 : Int32).toNatClampNeg 5) (3 : Int32).toNatClampNeg 1) (4 : Int32).toNatClampNeg 6) (fun _ => 0) (fun _ => 0) := by
  intro v1 ev1; obtain rfl : v1 = 1 := ev1.trans (by decide +kernel)
  refine And.intro (fun hc2 => ?_) (fun hc2 => ?_)
  · skip
    refine And.intro (fun h9 => absurd rfl h9) (fun _ => ?_)
    exact h _ ((if_neg (fun q0 => absurd ((fa_eq p0 0).mp q0) (by have l_0 : (0 : Int32).toInt = 0 := (by decide); have g_hc2 := (fa_lt p0 0).mp hc2; omega))).symm) _ _ _ _
  · skip
    refine And.intro (fun hc3 => ?_) (fun hc3 => ?_)
    · skip
      refine And.intro (fun h9 => absurd rfl h9) (fun _ => ?_)
      exact h _ ((if_neg (fun q0 => absurd ((fa_eq p0 0).mp q0) (by have l_0 : (0 : Int32).toInt = 0 := (by decide); have g_hc2 := mt (fa_lt p0 0).mpr hc2; have g_hc3 := (fa_lt 0 p0).mp hc3; omega))).symm) _ _ _ _
    · skip
      obtain rfl : p0 = 0 := (fa_eq _ _).mpr (by have l_0 : (0 : Int32).toInt = 0 := (by decide); have g_hc2 := mt (fa_lt p0 0).mpr hc2; have g_hc3 := mt (fa_lt 0 p0).mpr hc3; omega)
      refine And.intro (fun _ => ?_) (fun h9 => absurd h9 (by decide +kernel))
      refine Exists.intro 40 ?_
      intro v4 ev4; obtain rfl : v4 = 1 := ev4.trans (by decide +kernel)
      refine br_f (by decide +kernel) ?_
      refine Exists.intro 40 ?_
      refine br_f (by decide +kernel) ?_
      refine br_f (by decide +kernel) ?_
      refine br_t (by decide +kernel) ?_
      intro v5 ev5; obtain rfl : v5 = 1 := ev5.trans (by decide +kernel)
      refine br_f (by decide +kernel) ?_
      refine br_f (by decide +kernel) ?_
      refine br_t (by decide +kernel) ?_
      intro v6 ev6; obtain rfl : v6 = 2 := ev6.trans (by decide +kernel)
      refine br_f (by decide +kernel) ?_
      refine br_f (by decide +kernel) ?_
      refine br_t (by decide +kernel) ?_
      intro v7 ev7; obtain rfl : v7 = 3 := ev7.trans (by decide +kernel)
      refine br_f (by decide +kernel) ?_
      refine br_f (by decide +kernel) ?_
      refine br_t (by decide +kernel) ?_
      intro v8 ev8; obtain rfl : v8 = 4 := ev8.trans (by decide +kernel)
      refine br_f (by decide +kernel) ?_
      refine br_f (by decide +kernel) ?_
      refine br_t (by decide +kernel) ?_
      intro v9 ev9; obtain rfl : v9 = 5 := ev9.trans (by decide +kernel)
      refine br_f (by decide +kernel) ?_
      refine br_f (by decide +kernel) ?_
      refine br_t (by decide +kernel) ?_
      intro v10 ev10; obtain rfl : v10 = 6 := ev10.trans (by decide +kernel)
      refine br_f (by decide +kernel) ?_
      refine br_f (by decide +kernel) ?_
      refine br_t (by decide +kernel) ?_
      intro v11 ev11; obtain rfl : v11 = 7 := ev11.trans (by decide +kernel)
      refine br_f (by decide +kernel) ?_
      refine br_f (by decide +kernel) ?_
      refine br_t (by decide +kernel) ?_
      intro v12 ev12; obtain rfl : v12 = 8 := ev12.trans (by decide +kernel)
      refine br_f (by decide +kernel) ?_
      refine br_t (by decide +kernel) ?_
      refine And.intro (fun h9 => absurd rfl h9) (fun _ => ?_)
      refine Exists.intro 40 ?_
      refine br_t (by decide +kernel) ?_
      intro v13 ev13; obtain rfl : v13 = 2048 := ev13.trans (by decide +kernel)
      intro v14 ev14; obtain rfl : v14 = 2048 := ev14.trans (by decide +kernel)
      refine And.intro (g_in (by decide +kernel)) ?_
      intro v15 ev15; obtain rfl : v15 = 9 := ev15.trans (by decide +kernel)
      refine br_t (by decide +kernel) ?_
      intro v16 ev16; obtain rfl : v16 = 1 := ev16.trans (by decide +kernel)
      intro v17 ev17; obtain rfl : v17 = 1 := ev17.trans (by decide +kernel)
      refine br_t (by decide +kernel) ?_
      intro v18 ev18; obtain rfl : v18 = (-1) := ev18.trans (by decide +kernel)
      refine And.intro (fun h9 => absurd rfl h9) (fun _ => ?_)
      intro v19 ev19; obtain rfl : v19 = (-1) := ev19.trans (by decide +kernel)
      refine And.intro (fun h9 => absurd rfl h9) (fun _ => ?_)
      intro v20 ev20; obtain rfl : v20 = 2048 := ev20.trans (by decide +kernel)
      intro v21 ev21; obtain rfl : v21 = 2048 := ev21.trans (by decide +kernel)
      refine And.intro (g_in (by decide +kernel)) ?_
      refine Exists.intro 40 ?_
      refine br_t (by decide +kernel) ?_
      exact h _ ((if_pos (by decide +kernel)).symm) _ _ _ _
set_option maxHeartbeats 8000000 in
set_option maxRecDepth 200000 in
theorem fm_work (post : Int32 → Int32 → Int32 → Nat → Int32 → Int32 → Int32 → Int32 → Int32 → Int32 → Int32 → Int32 → Int32 → Int32 → Int32 → Int32 → Int32 → (Nat → Int32) → (Nat → Int32) → (Nat → Int32) → (Nat → Int32) → (Nat → Int32) → Prop) (p0 : Int32) (h : ∀ r : Int32, r = (if p0 = 0 then 0 else (-1)) → ∀ o0 : Int32, ∀ o1 : Int32, ∀ o2 : Nat, ∀ o3 : Int32, ∀ o4 : Int32, ∀ o5 : Int32, ∀ o6 : Int32, ∀ o7 : Int32, ∀ o8 : Int32, ∀ o9 : Int32, ∀ o10 : Int32, ∀ o11 : Int32, ∀ o12 : Int32, ∀ o13 : Int32, ∀ o14 : Int32, ∀ o15 : Int32, ∀ o16 : (Nat → Int32), ∀ o17 : (Nat → Int32), ∀ o18 : (Nat → Int32), ∀ o19 : (Nat → Int32), ∀ o20 : (Nat → Int32), post r o0 o1 o2 o3 o4 o5 o6 o7 o8 o9 o10 o11 o12 o13 o14 o15 o16 o17 o18 o19 o20) : wp_X10_work post p0 0 0 0 0 0 0 0 0 0 0 0 0 0 0 0 0 0 0 0 (upd (fun _ => 0) (17 : Int32).toNatClampNeg (-1)) (fun _ => 0) (fun _ => 0) (fun _ => 0) (fun _ => 0) (fun _ => 0) (fun _ => 0) (upd (upd (upd (upd (upd (fun _ => 0) (0 : Int32).toNatClampNeg 8) (1 : Int32).toNatClampNeg 3) (2 : Int32).toNatClampNeg 5) (3 : Int32).toNatClampNeg 1) (4 : Int32).toNatClampNeg 6) (fun _ => 0) (fun _ => 0) (fun _ => 0) (fun _ => 0) (fun _ => 0) (fun _ => 0) (fun _ => 0) := by
  intro v1 ev1; obtain rfl : v1 = 1 := ev1.trans (by decide +kernel)
  refine And.intro (fun hc2 => ?_) (fun hc2 => ?_)
  · skip
    refine And.intro (fun h9 => absurd rfl h9) (fun _ => ?_)
    exact h _ ((if_neg (fun q0 => absurd ((fa_eq p0 0).mp q0) (by have l_0 : (0 : Int32).toInt = 0 := (by decide); have g_hc2 := (fa_lt p0 0).mp hc2; omega))).symm) _ _ _ _ _ _ _ _ _ _ _ _ _ _ _ _ _ _ _ _ _
  · skip
    refine And.intro (fun hc3 => ?_) (fun hc3 => ?_)
    · skip
      refine And.intro (fun h9 => absurd rfl h9) (fun _ => ?_)
      exact h _ ((if_neg (fun q0 => absurd ((fa_eq p0 0).mp q0) (by have l_0 : (0 : Int32).toInt = 0 := (by decide); have g_hc2 := mt (fa_lt p0 0).mpr hc2; have g_hc3 := (fa_lt 0 p0).mp hc3; omega))).symm) _ _ _ _ _ _ _ _ _ _ _ _ _ _ _ _ _ _ _ _ _
    · skip
      obtain rfl : p0 = 0 := (fa_eq _ _).mpr (by have l_0 : (0 : Int32).toInt = 0 := (by decide); have g_hc2 := mt (fa_lt p0 0).mpr hc2; have g_hc3 := mt (fa_lt 0 p0).mpr hc3; omega)
      refine And.intro (fun _ => ?_) (fun h9 => absurd h9 (by decide +kernel))
      intro v4 ev4; obtain rfl : v4 = 0 := ev4.trans (by decide +kernel)
      refine Exists.intro 40 ?_
      refine br_t (by decide +kernel) ?_
      refine Exists.intro 40 ?_
      refine br_t (by decide +kernel) ?_
      intro v5 ev5; obtain rfl : v5 = 0 := ev5.trans (by decide +kernel)
      refine Exists.intro 40 ?_
      refine br_t (by decide +kernel) ?_
      intro v6 ev6; obtain rfl : v6 = 0 := ev6.trans (by decide +kernel)
      intro v7 ev7; obtain rfl : v7 = 1 := ev7.trans (by decide +kernel)
      refine Exists.intro 40 ?_
      refine br_t (by decide +kernel) ?_
      intro v8 ev8; obtain rfl : v8 = 0 := ev8.trans (by decide +kernel)
      refine Exists.intro 40 ?_
      intro v9 ev9; obtain rfl : v9 = 1 := ev9.trans (by decide +kernel)
      refine br_f (by decide +kernel) ?_
      refine Exists.intro 40 ?_
      refine br_f (by decide +kernel) ?_
      refine br_f (by decide +kernel) ?_
      refine br_t (by decide +kernel) ?_
      intro v10 ev10; obtain rfl : v10 = 1 := ev10.trans (by decide +kernel)
      refine br_f (by decide +kernel) ?_
      refine br_f (by decide +kernel) ?_
      refine br_t (by decide +kernel) ?_
      intro v11 ev11; obtain rfl : v11 = 2 := ev11.trans (by decide +kernel)
      refine br_f (by decide +kernel) ?_
      refine br_f (by decide +kernel) ?_
      refine br_t (by decide +kernel) ?_
      intro v12 ev12; obtain rfl : v12 = 3 := ev12.trans (by decide +kernel)
      refine br_f (by decide +kernel) ?_
      refine br_f (by decide +kernel) ?_
      refine br_t (by decide +kernel) ?_
      intro v13 ev13; obtain rfl : v13 = 4 := ev13.trans (by decide +kernel)
      refine br_f (by decide +kernel) ?_
      refine br_f (by decide +kernel) ?_
      refine br_t (by decide +kernel) ?_
      intro v14 ev14; obtain rfl : v14 = 5 := ev14.trans (by decide +kernel)
      refine br_f (by decide +kernel) ?_
      refine br_f (by decide +kernel) ?_
      refine br_t (by decide +kernel) ?_
      intro v15 ev15; obtain rfl : v15 = 6 := ev15.trans (by decide +kernel)
      refine br_f (by decide +kernel) ?_
      refine br_f (by decide +kernel) ?_
      refine br_t (by decide +kernel) ?_
      intro v16 ev16; obtain rfl : v16 = 7 := ev16.trans (by decide +kernel)
      refine br_f (by decide +kernel) ?_
      refine br_f (by decide +kernel) ?_
      refine br_t (by decide +kernel) ?_
      intro v17 ev17; obtain rfl : v17 = 8 := ev17.trans (by decide +kernel)
      refine br_f (by decide +kernel) ?_
      refine br_t (by decide +kernel) ?_
      refine And.intro (fun h9 => absurd rfl h9) (fun _ => ?_)
      refine Exists.intro 40 ?_
      refine br_t (by decide +kernel) ?_
      intro v18 ev18; obtain rfl : v18 = 2048 := ev18.trans (by decide +kernel)
      intro v19 ev19; obtain rfl : v19 = 2048 := ev19.trans (by decide +kernel)
      refine And.intro (g_in (by decide +kernel)) ?_
      intro v20 ev20; obtain rfl : v20 = 9 := ev20.trans (by decide +kernel)
      refine br_t (by decide +kernel) ?_
      intro v21 ev21; obtain rfl : v21 = 1 := ev21.trans (by decide +kernel)
      intro v22 ev22; obtain rfl : v22 = 1 := ev22.trans (by decide +kernel)
      refine br_t (by decide +kernel) ?_
      refine Exists.intro 40 ?_
      refine br_t (by decide +kernel) ?_
      intro v23 ev23; obtain rfl : v23 = (-1) := ev23.trans (by decide +kernel)
      refine And.intro (fun h9 => absurd rfl h9) (fun _ => ?_)
      intro v24 ev24; obtain rfl : v24 = (-1) := ev24.trans (by decide +kernel)
      refine And.intro (fun h9 => absurd rfl h9) (fun _ => ?_)
      intro v25 ev25; obtain rfl : v25 = 2048 := ev25.trans (by decide +kernel)
      intro v26 ev26; obtain rfl : v26 = 2048 := ev26.trans (by decide +kernel)
      refine And.intro (g_in (by decide +kernel)) ?_
      refine Exists.intro 40 ?_
      refine br_f (by decide +kernel) ?_
      refine And.intro (g_in (by decide +kernel)) ?_
      intro v27 ev27; obtain rfl : v27 = 1 := ev27.trans (by decide +kernel)
      refine br_f (by decide +kernel) ?_
      refine And.intro (g_in (by decide +kernel)) ?_
      intro v28 ev28; obtain rfl : v28 = 2 := ev28.trans (by decide +kernel)
      refine br_f (by decide +kernel) ?_
      refine And.intro (g_in (by decide +kernel)) ?_
      intro v29 ev29; obtain rfl : v29 = 3 := ev29.trans (by decide +kernel)
      refine br_f (by decide +kernel) ?_
      refine And.intro (g_in (by decide +kernel)) ?_
      intro v30 ev30; obtain rfl : v30 = 4 := ev30.trans (by decide +kernel)
      refine br_f (by decide +kernel) ?_
      refine And.intro (g_in (by decide +kernel)) ?_
      intro v31 ev31; obtain rfl : v31 = 5 := ev31.trans (by decide +kernel)
      refine br_f (by decide +kernel) ?_
      refine And.intro (g_in (by decide +kernel)) ?_
      intro v32 ev32; obtain rfl : v32 = 6 := ev32.trans (by decide +kernel)
      refine br_f (by decide +kernel) ?_
      refine And.intro (g_in (by decide +kernel)) ?_
      intro v33 ev33; obtain rfl : v33 = 7 := ev33.trans (by decide +kernel)
      refine br_f (by decide +kernel) ?_
      refine And.intro (g_in (by decide +kernel)) ?_
      intro v34 ev34; obtain rfl : v34 = 8 := ev34.trans (by decide +kernel)
      refine br_t (by decide +kernel) ?_
      refine Exists.intro 40 ?_
      refine br_t (by decide +kernel) ?_
      refine Exists.intro 40 ?_
      refine br_t (by decide +kernel) ?_
      intro v35 ev35; obtain rfl : v35 = 0 := ev35.trans (by decide +kernel)
      refine And.intro (g_in (by decide +kernel)) ?_
      intro v36 ev36; obtain rfl : v36 = 1 := ev36.trans (by decide +kernel)
      refine And.intro (g_in (by decide +kernel)) ?_
      intro v37 ev37; obtain rfl : v37 = 2 := ev37.trans (by decide +kernel)
      refine And.intro (g_in (by decide +kernel)) ?_
      intro v38 ev38; obtain rfl : v38 = 3 := ev38.trans (by decide +kernel)
      exact h _ ((if_pos (by decide +kernel)).symm) _ _ _ _ _ _ _ _ _ _ _ _ _ _ _ _ _ _ _ _ _
set_option maxHeartbeats 8000000 in
set_option maxRecDepth 200000 in
theorem fm_soonest (post : Int32 → Int32 → Int32 → Nat → Int32 → Int32 → Int32 → Int32 → Int32 → Int32 → Int32 → Int32 → Int32 → Int32 → Int32 → Int32 → Int32 → (Nat → Int32) → (Nat → Int32) → (Nat → Int32) → (Nat → Int32) → (Nat → Int32) → Prop) (h : ∀ r : Int32, r = 0 → ∀ o0 : Int32, ∀ o1 : Int32, ∀ o2 : Nat, ∀ o3 : Int32, ∀ o4 : Int32, ∀ o5 : Int32, ∀ o6 : Int32, ∀ o7 : Int32, ∀ o8 : Int32, ∀ o9 : Int32, ∀ o10 : Int32, ∀ o11 : Int32, ∀ o12 : Int32, ∀ o13 : Int32, ∀ o14 : Int32, ∀ o15 : Int32, ∀ o16 : (Nat → Int32), ∀ o17 : (Nat → Int32), ∀ o18 : (Nat → Int32), ∀ o19 : (Nat → Int32), ∀ o20 : (Nat → Int32), post r o0 o1 o2 o3 o4 o5 o6 o7 o8 o9 o10 o11 o12 o13 o14 o15 o16 o17 o18 o19 o20) : wp_X10_soonest post 0 0 0 0 0 0 0 0 0 0 0 0 0 0 0 0 0 0 0 (upd (fun _ => 0) (17 : Int32).toNatClampNeg (-1)) (fun _ => 0) (fun _ => 0) (fun _ => 0) (fun _ => 0) (fun _ => 0) (fun _ => 0) (upd (upd (upd (upd (upd (fun _ => 0) (0 : Int32).toNatClampNeg 8) (1 : Int32).toNatClampNeg 3) (2 : Int32).toNatClampNeg 5) (3 : Int32).toNatClampNeg 1) (4 : Int32).toNatClampNeg 6) (fun _ => 0) (fun _ => 0) (fun _ => 0) (fun _ => 0) (fun _ => 0) (fun _ => 0) (fun _ => 0) := by
  intro v1 ev1; obtain rfl : v1 = 0 := ev1.trans (by decide +kernel)
  refine Exists.intro 40 ?_
  refine br_t (by decide +kernel) ?_
  refine Exists.intro 40 ?_
  refine br_t (by decide +kernel) ?_
  intro v2 ev2; obtain rfl : v2 = 0 := ev2.trans (by decide +kernel)
  refine Exists.intro 40 ?_
  refine br_t (by decide +kernel) ?_
  intro v3 ev3; obtain rfl : v3 = 0 := ev3.trans (by decide +kernel)
  intro v4 ev4; obtain rfl : v4 = 1 := ev4.trans (by decide +kernel)
  refine Exists.intro 40 ?_
  refine br_t (by decide +kernel) ?_
  intro v5 ev5; obtain rfl : v5 = 0 := ev5.trans (by decide +kernel)
  refine Exists.intro 40 ?_
  intro v6 ev6; obtain rfl : v6 = 1 := ev6.trans (by decide +kernel)
  refine br_f (by decide +kernel) ?_
  refine Exists.intro 40 ?_
  refine br_f (by decide +kernel) ?_
  refine br_f (by decide +kernel) ?_
  refine br_t (by decide +kernel) ?_
  intro v7 ev7; obtain rfl : v7 = 1 := ev7.trans (by decide +kernel)
  refine br_f (by decide +kernel) ?_
  refine br_f (by decide +kernel) ?_
  refine br_t (by decide +kernel) ?_
  intro v8 ev8; obtain rfl : v8 = 2 := ev8.trans (by decide +kernel)
  refine br_f (by decide +kernel) ?_
  refine br_f (by decide +kernel) ?_
  refine br_t (by decide +kernel) ?_
  intro v9 ev9; obtain rfl : v9 = 3 := ev9.trans (by decide +kernel)
  refine br_f (by decide +kernel) ?_
  refine br_f (by decide +kernel) ?_
  refine br_t (by decide +kernel) ?_
  intro v10 ev10; obtain rfl : v10 = 4 := ev10.trans (by decide +kernel)
  refine br_f (by decide +kernel) ?_
  refine br_f (by decide +kernel) ?_
  refine br_t (by decide +kernel) ?_
  intro v11 ev11; obtain rfl : v11 = 5 := ev11.trans (by decide +kernel)
  refine br_f (by decide +kernel) ?_
  refine br_f (by decide +kernel) ?_
  refine br_t (by decide +kernel) ?_
  intro v12 ev12; obtain rfl : v12 = 6 := ev12.trans (by decide +kernel)
  refine br_f (by decide +kernel) ?_
  refine br_f (by decide +kernel) ?_
  refine br_t (by decide +kernel) ?_
  intro v13 ev13; obtain rfl : v13 = 7 := ev13.trans (by decide +kernel)
  refine br_f (by decide +kernel) ?_
  refine br_f (by decide +kernel) ?_
  refine br_t (by decide +kernel) ?_
  intro v14 ev14; obtain rfl : v14 = 8 := ev14.trans (by decide +kernel)
  refine br_f (by decide +kernel) ?_
  refine br_t (by decide +kernel) ?_
  refine And.intro (fun h9 => absurd rfl h9) (fun _ => ?_)
  refine Exists.intro 40 ?_
  refine br_t (by decide +kernel) ?_
  intro v15 ev15; obtain rfl : v15 = 2048 := ev15.trans (by decide +kernel)
  intro v16 ev16; obtain rfl : v16 = 2048 := ev16.trans (by decide +kernel)
  refine And.intro (g_in (by decide +kernel)) ?_
  intro v17 ev17; obtain rfl : v17 = 9 := ev17.trans (by decide +kernel)
  refine br_t (by decide +kernel) ?_
  intro v18 ev18; obtain rfl : v18 = 1 := ev18.trans (by decide +kernel)
  intro v19 ev19; obtain rfl : v19 = 1 := ev19.trans (by decide +kernel)
  refine br_t (by decide +kernel) ?_
  refine Exists.intro 40 ?_
  refine br_t (by decide +kernel) ?_
  refine Exists.intro 40 ?_
  intro v20 ev20; obtain rfl : v20 = 1 := ev20.trans (by decide +kernel)
  refine br_f (by decide +kernel) ?_
  refine Exists.intro 40 ?_
  refine br_t (by decide +kernel) ?_
  refine br_t (by decide +kernel) ?_
  intro v21 ev21; obtain rfl : v21 = (-1) := ev21.trans (by decide +kernel)
  refine And.intro (fun h9 => absurd rfl h9) (fun _ => ?_)
  intro v22 ev22; obtain rfl : v22 = (-1) := ev22.trans (by decide +kernel)
  refine And.intro (fun h9 => absurd rfl h9) (fun _ => ?_)
  intro v23 ev23; obtain rfl : v23 = 2048 := ev23.trans (by decide +kernel)
  intro v24 ev24; obtain rfl : v24 = 2048 := ev24.trans (by decide +kernel)
  refine And.intro (g_in (by decide +kernel)) ?_
  refine Exists.intro 40 ?_
  refine br_f (by decide +kernel) ?_
  refine And.intro (g_in (by decide +kernel)) ?_
  intro v25 ev25; obtain rfl : v25 = 1 := ev25.trans (by decide +kernel)
  refine br_f (by decide +kernel) ?_
  refine And.intro (g_in (by decide +kernel)) ?_
  intro v26 ev26; obtain rfl : v26 = 2 := ev26.trans (by decide +kernel)
  refine br_f (by decide +kernel) ?_
  refine And.intro (g_in (by decide +kernel)) ?_
  intro v27 ev27; obtain rfl : v27 = 3 := ev27.trans (by decide +kernel)
  refine br_f (by decide +kernel) ?_
  refine And.intro (g_in (by decide +kernel)) ?_
  intro v28 ev28; obtain rfl : v28 = 4 := ev28.trans (by decide +kernel)
  refine br_f (by decide +kernel) ?_
  refine And.intro (g_in (by decide +kernel)) ?_
  intro v29 ev29; obtain rfl : v29 = 5 := ev29.trans (by decide +kernel)
  refine br_f (by decide +kernel) ?_
  refine And.intro (g_in (by decide +kernel)) ?_
  intro v30 ev30; obtain rfl : v30 = 6 := ev30.trans (by decide +kernel)
  refine br_f (by decide +kernel) ?_
  refine And.intro (g_in (by decide +kernel)) ?_
  intro v31 ev31; obtain rfl : v31 = 7 := ev31.trans (by decide +kernel)
  refine br_f (by decide +kernel) ?_
  refine And.intro (g_in (by decide +kernel)) ?_
  intro v32 ev32; obtain rfl : v32 = 8 := ev32.trans (by decide +kernel)
  refine br_t (by decide +kernel) ?_
  refine Exists.intro 40 ?_
  refine br_t (by decide +kernel) ?_
  refine Exists.intro 40 ?_
  refine br_t (by decide +kernel) ?_
  intro v33 ev33; obtain rfl : v33 = 0 := ev33.trans (by decide +kernel)
  refine br_f (by decide +kernel) ?_
  refine And.intro (fun _ => ?_) (fun h9 => absurd h9 (by decide +kernel))
  intro v34 ev34; obtain rfl : v34 = 1 := ev34.trans (by decide +kernel)
  intro v35 ev35; obtain rfl : v35 = 1 := ev35.trans (by decide +kernel)
  refine br_t (by decide +kernel) ?_
  refine And.intro (g_in (by decide +kernel)) ?_
  intro v36 ev36; obtain rfl : v36 = 1 := ev36.trans (by decide +kernel)
  exact h _ (by decide +kernel) _ _ _ _ _ _ _ _ _ _ _ _ _ _ _ _ _ _ _ _ _
set_option maxHeartbeats 8000000 in
set_option maxRecDepth 200000 in
theorem fm_pays (post : Int32 → Int32 → Int32 → Nat → Int32 → Int32 → Int32 → Int32 → Int32 → Int32 → Int32 → Int32 → Int32 → Int32 → (Nat → Int32) → (Nat → Int32) → Prop) (p0 : Int32) (h : ∀ r : Int32, r = (-1) → ∀ o0 : Int32, ∀ o1 : Int32, ∀ o2 : Nat, ∀ o3 : Int32, ∀ o4 : Int32, ∀ o5 : Int32, ∀ o6 : Int32, ∀ o7 : Int32, ∀ o8 : Int32, ∀ o9 : Int32, ∀ o10 : Int32, ∀ o11 : Int32, ∀ o12 : Int32, ∀ o13 : (Nat → Int32), ∀ o14 : (Nat → Int32), post r o0 o1 o2 o3 o4 o5 o6 o7 o8 o9 o10 o11 o12 o13 o14) : wp_X10_pays post p0 0 0 0 0 0 0 0 0 0 0 0 0 0 0 0 0 (upd (fun _ => 0) (17 : Int32).toNatClampNeg (-1)) (fun _ => 0) (fun _ => 0) (fun _ => 0) (fun _ => 0) (fun _ => 0) (fun _ => 0) (upd (upd (upd (upd (upd (fun _ => 0) (0 : Int32).toNatClampNeg 8) (1 : Int32).toNatClampNeg 3) (2 : Int32).toNatClampNeg 5) (3 : Int32).toNatClampNeg 1) (4 : Int32).toNatClampNeg 6) (fun _ => 0) (fun _ => 0) (fun _ => 0) (fun _ => 0) := by
  intro v1 ev1; obtain rfl : v1 = (-1) := ev1.trans (by decide +kernel)
  refine And.intro (fun hc2 => ?_) (fun hc2 => ?_)
  · skip
    refine And.intro rfl ?_
    refine And.intro (fun h9 => absurd rfl h9) (fun _ => ?_)
    exact h _ (by decide +kernel) _ _ _ _ _ _ _ _ _ _ _ _ _ _ _
  · skip
    refine br_t ((fa_lt (-1) p0).mpr (by have l_0 : ((-1) : Int32).toInt = (-1) := (by decide); have l_1 : (0 : Int32).toInt = 0 := (by decide); have g_hc2 := mt (fa_lt p0 0).mpr hc2; omega)) ?_
    refine And.intro rfl ?_
    refine And.intro (fun h9 => absurd rfl h9) (fun _ => ?_)
    exact h _ (by decide +kernel) _ _ _ _ _ _ _ _ _ _ _ _ _ _ _
set_option maxHeartbeats 8000000 in
set_option maxRecDepth 200000 in
theorem fm_trips (post : Int32 → Int32 → Int32 → Int32 → (Nat → Int32) → (Nat → Int32) → Prop) (p0 : Int32) (h : ∀ r : Int32, r = (-1) → ∀ o0 : Int32, ∀ o1 : Int32, ∀ o2 : Int32, ∀ o3 : (Nat → Int32), ∀ o4 : (Nat → Int32), post r o0 o1 o2 o3 o4) : wp_X10_trips post p0 0 0 0 0 0 (upd (fun _ => 0) (17 : Int32).toNatClampNeg (-1)) (fun _ => 0) (fun _ => 0) (fun _ => 0) (fun _ => 0) (fun _ => 0) (upd (upd (upd (upd (upd (fun _ => 0) (0 : Int32).toNatClampNeg 8) (1 : Int32).toNatClampNeg 3) (2 : Int32).toNatClampNeg 5) (3 : Int32).toNatClampNeg 1) (4 : Int32).toNatClampNeg 6) (fun _ => 0) (fun _ => 0) := by
  intro v1 ev1; obtain rfl : v1 = (-1) := ev1.trans (by decide +kernel)
  refine And.intro (fun hc2 => ?_) (fun hc2 => ?_)
  · skip
    refine And.intro rfl ?_
    refine And.intro (fun h9 => absurd rfl h9) (fun _ => ?_)
    exact h _ (by decide +kernel) _ _ _ _ _
  · skip
    refine br_t ((fa_lt (-1) p0).mpr (by have l_0 : ((-1) : Int32).toInt = (-1) := (by decide); have l_1 : (0 : Int32).toInt = 0 := (by decide); have g_hc2 := mt (fa_lt p0 0).mpr hc2; omega)) ?_
    refine And.intro rfl ?_
    refine And.intro (fun h9 => absurd rfl h9) (fun _ => ?_)
    exact h _ (by decide +kernel) _ _ _ _ _
set_option maxHeartbeats 8000000 in
set_option maxRecDepth 200000 in
theorem fm_helps (post : Int32 → Int32 → Int32 → Int32 → (Nat → Int32) → (Nat → Int32) → Prop) (h : ∀ r : Int32, r = 0 → ∀ o0 : Int32, ∀ o1 : Int32, ∀ o2 : Int32, ∀ o3 : (Nat → Int32), ∀ o4 : (Nat → Int32), post r o0 o1 o2 o3 o4) : wp_X10_helps post 0 0 0 0 0 (upd (fun _ => 0) (17 : Int32).toNatClampNeg (-1)) (fun _ => 0) (fun _ => 0) (fun _ => 0) (fun _ => 0) (fun _ => 0) (upd (upd (upd (upd (upd (fun _ => 0) (0 : Int32).toNatClampNeg 8) (1 : Int32).toNatClampNeg 3) (2 : Int32).toNatClampNeg 5) (3 : Int32).toNatClampNeg 1) (4 : Int32).toNatClampNeg 6) (fun _ => 0) (fun _ => 0) := by
  refine Exists.intro 40 ?_
  refine br_t (by decide +kernel) ?_
  refine Exists.intro 40 ?_
  refine br_t (by decide +kernel) ?_
  intro v1 ev1; obtain rfl : v1 = 0 := ev1.trans (by decide +kernel)
  refine Exists.intro 40 ?_
  refine br_t (by decide +kernel) ?_
  intro v2 ev2; obtain rfl : v2 = 0 := ev2.trans (by decide +kernel)
  intro v3 ev3; obtain rfl : v3 = 1 := ev3.trans (by decide +kernel)
  refine Exists.intro 40 ?_
  refine br_t (by decide +kernel) ?_
  intro v4 ev4; obtain rfl : v4 = 0 := ev4.trans (by decide +kernel)
  refine Exists.intro 40 ?_
  intro v5 ev5; obtain rfl : v5 = 1 := ev5.trans (by decide +kernel)
  refine br_f (by decide +kernel) ?_
  refine Exists.intro 40 ?_
  refine br_t (by decide +kernel) ?_
  refine br_t (by decide +kernel) ?_
  refine And.intro (fun h9 => absurd rfl h9) (fun _ => ?_)
  refine br_t (by decide +kernel) ?_
  intro v6 ev6; obtain rfl : v6 = 1 := ev6.trans (by decide +kernel)
  intro v7 ev7; obtain rfl : v7 = 1 := ev7.trans (by decide +kernel)
  refine br_t (by decide +kernel) ?_
  intro v8 ev8; obtain rfl : v8 = 0 := ev8.trans (by decide +kernel)
  intro v9 ev9; obtain rfl : v9 = 0 := ev9.trans (by decide +kernel)
  intro v10 ev10; obtain rfl : v10 = 0 := ev10.trans (by decide +kernel)
  intro v11 ev11; obtain rfl : v11 = 0 := ev11.trans (by decide +kernel)
  intro v12 ev12; obtain rfl : v12 = 0 := ev12.trans (by decide +kernel)
  intro v13 ev13; obtain rfl : v13 = 0 := ev13.trans (by decide +kernel)
  intro v14 ev14; obtain rfl : v14 = 0 := ev14.trans (by decide +kernel)
  intro v15 ev15; obtain rfl : v15 = 0 := ev15.trans (by decide +kernel)
  intro v16 ev16; obtain rfl : v16 = 0 := ev16.trans (by decide +kernel)
  intro v17 ev17; obtain rfl : v17 = 0 := ev17.trans (by decide +kernel)
  intro v18 ev18; obtain rfl : v18 = 0 := ev18.trans (by decide +kernel)
  intro v19 ev19; obtain rfl : v19 = 0 := ev19.trans (by decide +kernel)
  intro v20 ev20; obtain rfl : v20 = 0 := ev20.trans (by decide +kernel)
  intro v21 ev21; obtain rfl : v21 = 0 := ev21.trans (by decide +kernel)
  intro v22 ev22; obtain rfl : v22 = 0 := ev22.trans (by decide +kernel)
  intro v23 ev23; obtain rfl : v23 = 0 := ev23.trans (by decide +kernel)
  intro v24 ev24; obtain rfl : v24 = 0 := ev24.trans (by decide +kernel)
  intro v25 ev25; obtain rfl : v25 = 0 := ev25.trans (by decide +kernel)
  refine Exists.intro 40 ?_
  refine br_t (by decide +kernel) ?_
  refine Exists.intro 40 ?_
  refine br_t (by decide +kernel) ?_
  intro v26 ev26; obtain rfl : v26 = 0 := ev26.trans (by decide +kernel)
  refine Exists.intro 40 ?_
  refine br_t (by decide +kernel) ?_
  intro v27 ev27; obtain rfl : v27 = 0 := ev27.trans (by decide +kernel)
  intro v28 ev28; obtain rfl : v28 = 1 := ev28.trans (by decide +kernel)
  refine Exists.intro 40 ?_
  refine br_t (by decide +kernel) ?_
  intro v29 ev29; obtain rfl : v29 = 0 := ev29.trans (by decide +kernel)
  refine Exists.intro 40 ?_
  intro v30 ev30; obtain rfl : v30 = 1 := ev30.trans (by decide +kernel)
  refine br_f (by decide +kernel) ?_
  refine Exists.intro 40 ?_
  refine br_t (by decide +kernel) ?_
  refine br_t (by decide +kernel) ?_
  refine And.intro (fun h9 => absurd rfl h9) (fun _ => ?_)
  refine br_t (by decide +kernel) ?_
  intro v31 ev31; obtain rfl : v31 = 1 := ev31.trans (by decide +kernel)
  intro v32 ev32; obtain rfl : v32 = 1 := ev32.trans (by decide +kernel)
  refine br_t (by decide +kernel) ?_
  intro v33 ev33; obtain rfl : v33 = 0 := ev33.trans (by decide +kernel)
  intro v34 ev34; obtain rfl : v34 = 0 := ev34.trans (by decide +kernel)
  intro v35 ev35; obtain rfl : v35 = 0 := ev35.trans (by decide +kernel)
  intro v36 ev36; obtain rfl : v36 = 0 := ev36.trans (by decide +kernel)
  intro v37 ev37; obtain rfl : v37 = 0 := ev37.trans (by decide +kernel)
  intro v38 ev38; obtain rfl : v38 = 0 := ev38.trans (by decide +kernel)
  intro v39 ev39; obtain rfl : v39 = 0 := ev39.trans (by decide +kernel)
  intro v40 ev40; obtain rfl : v40 = 0 := ev40.trans (by decide +kernel)
  intro v41 ev41; obtain rfl : v41 = 0 := ev41.trans (by decide +kernel)
  refine And.intro (g_in (by decide +kernel)) ?_
  intro v42 ev42; obtain rfl : v42 = 1 := ev42.trans (by decide +kernel)
  intro v43 ev43; obtain rfl : v43 = 0 := ev43.trans (by decide +kernel)
  intro v44 ev44; obtain rfl : v44 = 0 := ev44.trans (by decide +kernel)
  intro v45 ev45; obtain rfl : v45 = 0 := ev45.trans (by decide +kernel)
  intro v46 ev46; obtain rfl : v46 = 0 := ev46.trans (by decide +kernel)
  intro v47 ev47; obtain rfl : v47 = 0 := ev47.trans (by decide +kernel)
  intro v48 ev48; obtain rfl : v48 = 0 := ev48.trans (by decide +kernel)
  intro v49 ev49; obtain rfl : v49 = 0 := ev49.trans (by decide +kernel)
  intro v50 ev50; obtain rfl : v50 = 0 := ev50.trans (by decide +kernel)
  intro v51 ev51; obtain rfl : v51 = 0 := ev51.trans (by decide +kernel)
  refine And.intro (g_in (by decide +kernel)) ?_
  intro v52 ev52; obtain rfl : v52 = 2 := ev52.trans (by decide +kernel)
  exact h _ (by decide +kernel) _ _ _ _ _
set_option maxHeartbeats 8000000 in
set_option maxRecDepth 200000 in
theorem fm_hooked (post : Int32 → Int32 → Int32 → Int32 → (Nat → Int32) → (Nat → Int32) → Prop) (h : ∀ r : Int32, r = 0 → ∀ o0 : Int32, ∀ o1 : Int32, ∀ o2 : Int32, ∀ o3 : (Nat → Int32), ∀ o4 : (Nat → Int32), post r o0 o1 o2 o3 o4) : wp_X10_hooked post 0 0 0 0 0 (upd (fun _ => 0) (17 : Int32).toNatClampNeg (-1)) (fun _ => 0) (fun _ => 0) (fun _ => 0) (fun _ => 0) (fun _ => 0) (upd (upd (upd (upd (upd (fun _ => 0) (0 : Int32).toNatClampNeg 8) (1 : Int32).toNatClampNeg 3) (2 : Int32).toNatClampNeg 5) (3 : Int32).toNatClampNeg 1) (4 : Int32).toNatClampNeg 6) (fun _ => 0) (fun _ => 0) := by
  intro v1 ev1; obtain rfl : v1 = 0 := ev1.trans (by decide +kernel)
  refine Exists.intro 40 ?_
  refine br_t (by decide +kernel) ?_
  refine Exists.intro 40 ?_
  refine br_t (by decide +kernel) ?_
  intro v2 ev2; obtain rfl : v2 = 0 := ev2.trans (by decide +kernel)
  refine Exists.intro 40 ?_
  refine br_t (by decide +kernel) ?_
  intro v3 ev3; obtain rfl : v3 = 0 := ev3.trans (by decide +kernel)
  intro v4 ev4; obtain rfl : v4 = 1 := ev4.trans (by decide +kernel)
  refine Exists.intro 40 ?_
  refine br_t (by decide +kernel) ?_
  intro v5 ev5; obtain rfl : v5 = 0 := ev5.trans (by decide +kernel)
  refine Exists.intro 40 ?_
  refine br_t (by decide +kernel) ?_
  intro v6 ev6; obtain rfl : v6 = 0 := ev6.trans (by decide +kernel)
  refine Exists.intro 40 ?_
  refine br_t (by decide +kernel) ?_
  intro v7 ev7; obtain rfl : v7 = 0 := ev7.trans (by decide +kernel)
  intro v8 ev8; obtain rfl : v8 = 1 := ev8.trans (by decide +kernel)
  refine Exists.intro 40 ?_
  refine br_t (by decide +kernel) ?_
  intro v9 ev9; obtain rfl : v9 = 0 := ev9.trans (by decide +kernel)
  refine Exists.intro 40 ?_
  refine br_t (by decide +kernel) ?_
  refine And.intro (g_in (by decide +kernel)) ?_
  intro v10 ev10; obtain rfl : v10 = 1 := ev10.trans (by decide +kernel)
  refine And.intro (g_in (by decide +kernel)) ?_
  intro v11 ev11; obtain rfl : v11 = 2 := ev11.trans (by decide +kernel)
  exact h _ (by decide +kernel) _ _ _ _ _
set_option maxHeartbeats 8000000 in
set_option maxRecDepth 200000 in
theorem fm_broken (post : Int32 → Int32 → Int32 → Int32 → (Nat → Int32) → (Nat → Int32) → Prop) (p0 : Int32) (h : ∀ r : Int32, r = (-1) → ∀ o0 : Int32, ∀ o1 : Int32, ∀ o2 : Int32, ∀ o3 : (Nat → Int32), ∀ o4 : (Nat → Int32), post r o0 o1 o2 o3 o4) : wp_X10_broken post p0 0 0 0 0 0 (upd (fun _ => 0) (17 : Int32).toNatClampNeg (-1)) (fun _ => 0) (fun _ => 0) (fun _ => 0) (fun _ => 0) (fun _ => 0) (upd (upd (upd (upd (upd (fun _ => 0) (0 : Int32).toNatClampNeg 8) (1 : Int32).toNatClampNeg 3) (2 : Int32).toNatClampNeg 5) (3 : Int32).toNatClampNeg 1) (4 : Int32).toNatClampNeg 6) (fun _ => 0) (fun _ => 0) := by
  intro v1 ev1; obtain rfl : v1 = (-1) := ev1.trans (by decide +kernel)
  refine And.intro (fun hc2 => ?_) (fun hc2 => ?_)
  · skip
    refine And.intro rfl ?_
    refine And.intro (fun h9 => absurd rfl h9) (fun _ => ?_)
    exact h _ (by decide +kernel) _ _ _ _ _
  · skip
    refine br_t ((fa_lt (-1) p0).mpr (by have l_0 : ((-1) : Int32).toInt = (-1) := (by decide); have l_1 : (0 : Int32).toInt = 0 := (by decide); have g_hc2 := mt (fa_lt p0 0).mpr hc2; omega)) ?_
    refine And.intro rfl ?_
    refine And.intro (fun h9 => absurd rfl h9) (fun _ => ?_)
    exact h _ (by decide +kernel) _ _ _ _ _
set_option maxHeartbeats 8000000 in
set_option maxRecDepth 200000 in
theorem fm_sweep (post : Int32 → Int32 → Int32 → Nat → Int32 → Int32 → Int32 → Int32 → Int32 → Int32 → Int32 → Int32 → Int32 → Int32 → Int32 → Int32 → Int32 → (Nat → Int32) → (Nat → Int32) → (Nat → Int32) → (Nat → Int32) → (Nat → Int32) → Prop) (p0 : Int32) (h : ∀ r : Int32, r = (if p0 < 0 then (-1) else (if 9999 < p0 then (-1) else 0)) → ∀ o0 : Int32, ∀ o1 : Int32, ∀ o2 : Nat, ∀ o3 : Int32, ∀ o4 : Int32, ∀ o5 : Int32, ∀ o6 : Int32, ∀ o7 : Int32, ∀ o8 : Int32, ∀ o9 : Int32, ∀ o10 : Int32, ∀ o11 : Int32, ∀ o12 : Int32, ∀ o13 : Int32, ∀ o14 : Int32, ∀ o15 : Int32, ∀ o16 : (Nat → Int32), ∀ o17 : (Nat → Int32), ∀ o18 : (Nat → Int32), ∀ o19 : (Nat → Int32), ∀ o20 : (Nat → Int32), post r o0 o1 o2 o3 o4 o5 o6 o7 o8 o9 o10 o11 o12 o13 o14 o15 o16 o17 o18 o19 o20) : wp_X10_sweep post p0 0 0 0 0 0 0 0 0 0 0 0 0 0 0 0 0 0 0 0 (upd (fun _ => 0) (17 : Int32).toNatClampNeg (-1)) (fun _ => 0) (fun _ => 0) (fun _ => 0) (fun _ => 0) (fun _ => 0) (fun _ => 0) (upd (upd (upd (upd (upd (fun _ => 0) (0 : Int32).toNatClampNeg 8) (1 : Int32).toNatClampNeg 3) (2 : Int32).toNatClampNeg 5) (3 : Int32).toNatClampNeg 1) (4 : Int32).toNatClampNeg 6) (fun _ => 0) (fun _ => 0) (fun _ => 0) (fun _ => 0) (fun _ => 0) (fun _ => 0) (fun _ => 0) := by
  refine And.intro (fun hc1 => ?_) (fun hc1 => ?_)
  · skip
    refine And.intro (fun h9 => absurd rfl h9) (fun _ => ?_)
    exact h _ ((if_pos ((fa_lt p0 0).mpr (by have l_0 : (0 : Int32).toInt = 0 := (by decide); have g_hc1 := (fa_lt p0 0).mp hc1; omega))).symm) _ _ _ _ _ _ _ _ _ _ _ _ _ _ _ _ _ _ _ _ _
  · skip
    refine And.intro (fun hc2 => ?_) (fun hc2 => ?_)
    · skip
      refine And.intro (fun h9 => absurd rfl h9) (fun _ => ?_)
      exact h _ (((if_neg (fun q0 => absurd ((fa_lt p0 0).mp q0) (by have l_0 : (0 : Int32).toInt = 0 := (by decide); have l_1 : (9999 : Int32).toInt = 9999 := (by decide); have g_hc1 := mt (fa_lt p0 0).mpr hc1; have g_hc2 := (fa_lt 9999 p0).mp hc2; omega))).trans (if_pos ((fa_lt 9999 p0).mpr (by have l_0 : (0 : Int32).toInt = 0 := (by decide); have l_1 : (9999 : Int32).toInt = 9999 := (by decide); have g_hc1 := mt (fa_lt p0 0).mpr hc1; have g_hc2 := (fa_lt 9999 p0).mp hc2; omega)))).symm) _ _ _ _ _ _ _ _ _ _ _ _ _ _ _ _ _ _ _ _ _
    · skip
      refine And.intro (fun _ => ?_) (fun h9 => absurd h9 (by decide +kernel))
      intro v3 ev3; obtain rfl : v3 = 0 := ev3.trans (by decide +kernel)
      refine Exists.intro 40 ?_
      refine br_t (by decide +kernel) ?_
      refine Exists.intro 40 ?_
      refine br_t (by decide +kernel) ?_
      intro v4 ev4; obtain rfl : v4 = 0 := ev4.trans (by decide +kernel)
      refine Exists.intro 40 ?_
      refine br_t (by decide +kernel) ?_
      intro v5 ev5; obtain rfl : v5 = 0 := ev5.trans (by decide +kernel)
      intro v6 ev6; obtain rfl : v6 = 1 := ev6.trans (by decide +kernel)
      refine Exists.intro 40 ?_
      refine br_t (by decide +kernel) ?_
      intro v7 ev7; obtain rfl : v7 = 0 := ev7.trans (by decide +kernel)
      refine Exists.intro 40 ?_
      intro v8 ev8; obtain rfl : v8 = 1 := ev8.trans (by decide +kernel)
      refine br_f (by decide +kernel) ?_
      refine Exists.intro 40 ?_
      refine br_f (by decide +kernel) ?_
      refine br_f (by decide +kernel) ?_
      refine br_t (by decide +kernel) ?_
      intro v9 ev9; obtain rfl : v9 = 1 := ev9.trans (by decide +kernel)
      refine br_f (by decide +kernel) ?_
      refine br_f (by decide +kernel) ?_
      refine br_t (by decide +kernel) ?_
      intro v10 ev10; obtain rfl : v10 = 2 := ev10.trans (by decide +kernel)
      refine br_f (by decide +kernel) ?_
      refine br_f (by decide +kernel) ?_
      refine br_t (by decide +kernel) ?_
      intro v11 ev11; obtain rfl : v11 = 3 := ev11.trans (by decide +kernel)
      refine br_f (by decide +kernel) ?_
      refine br_f (by decide +kernel) ?_
      refine br_t (by decide +kernel) ?_
      intro v12 ev12; obtain rfl : v12 = 4 := ev12.trans (by decide +kernel)
      refine br_f (by decide +kernel) ?_
      refine br_f (by decide +kernel) ?_
      refine br_t (by decide +kernel) ?_
      intro v13 ev13; obtain rfl : v13 = 5 := ev13.trans (by decide +kernel)
      refine br_f (by decide +kernel) ?_
      refine br_f (by decide +kernel) ?_
      refine br_t (by decide +kernel) ?_
      intro v14 ev14; obtain rfl : v14 = 6 := ev14.trans (by decide +kernel)
      refine br_f (by decide +kernel) ?_
      refine br_f (by decide +kernel) ?_
      refine br_t (by decide +kernel) ?_
      intro v15 ev15; obtain rfl : v15 = 7 := ev15.trans (by decide +kernel)
      refine br_f (by decide +kernel) ?_
      refine br_f (by decide +kernel) ?_
      refine br_t (by decide +kernel) ?_
      intro v16 ev16; obtain rfl : v16 = 8 := ev16.trans (by decide +kernel)
      refine br_f (by decide +kernel) ?_
      refine br_t (by decide +kernel) ?_
      refine And.intro (fun h9 => absurd rfl h9) (fun _ => ?_)
      refine Exists.intro 40 ?_
      refine br_t (by decide +kernel) ?_
      intro v17 ev17; obtain rfl : v17 = 2048 := ev17.trans (by decide +kernel)
      intro v18 ev18; obtain rfl : v18 = 2048 := ev18.trans (by decide +kernel)
      refine And.intro (g_in (by decide +kernel)) ?_
      intro v19 ev19; obtain rfl : v19 = 9 := ev19.trans (by decide +kernel)
      refine br_t (by decide +kernel) ?_
      intro v20 ev20; obtain rfl : v20 = 1 := ev20.trans (by decide +kernel)
      intro v21 ev21; obtain rfl : v21 = 1 := ev21.trans (by decide +kernel)
      refine br_t (by decide +kernel) ?_
      refine Exists.intro 40 ?_
      refine br_t (by decide +kernel) ?_
      refine Exists.intro 40 ?_
      intro v22 ev22; obtain rfl : v22 = 1 := ev22.trans (by decide +kernel)
      refine br_f (by decide +kernel) ?_
      intro v23 ev23; obtain rfl : v23 = (-1) := ev23.trans (by decide +kernel)
      refine And.intro (fun h9 => absurd rfl h9) (fun _ => ?_)
      intro v24 ev24; obtain rfl : v24 = (-1) := ev24.trans (by decide +kernel)
      refine And.intro (fun h9 => absurd rfl h9) (fun _ => ?_)
      intro v25 ev25; obtain rfl : v25 = 2048 := ev25.trans (by decide +kernel)
      intro v26 ev26; obtain rfl : v26 = 2048 := ev26.trans (by decide +kernel)
      refine And.intro (g_in (by decide +kernel)) ?_
      refine Exists.intro 40 ?_
      refine br_f (by decide +kernel) ?_
      refine And.intro (g_in (by decide +kernel)) ?_
      intro v27 ev27; obtain rfl : v27 = 1 := ev27.trans (by decide +kernel)
      refine br_f (by decide +kernel) ?_
      refine And.intro (g_in (by decide +kernel)) ?_
      intro v28 ev28; obtain rfl : v28 = 2 := ev28.trans (by decide +kernel)
      refine br_f (by decide +kernel) ?_
      refine And.intro (g_in (by decide +kernel)) ?_
      intro v29 ev29; obtain rfl : v29 = 3 := ev29.trans (by decide +kernel)
      refine br_f (by decide +kernel) ?_
      refine And.intro (g_in (by decide +kernel)) ?_
      intro v30 ev30; obtain rfl : v30 = 4 := ev30.trans (by decide +kernel)
      refine br_f (by decide +kernel) ?_
      refine And.intro (g_in (by decide +kernel)) ?_
      intro v31 ev31; obtain rfl : v31 = 5 := ev31.trans (by decide +kernel)
      refine br_f (by decide +kernel) ?_
      refine And.intro (g_in (by decide +kernel)) ?_
      intro v32 ev32; obtain rfl : v32 = 6 := ev32.trans (by decide +kernel)
      refine br_f (by decide +kernel) ?_
      refine And.intro (g_in (by decide +kernel)) ?_
      intro v33 ev33; obtain rfl : v33 = 7 := ev33.trans (by decide +kernel)
      refine br_f (by decide +kernel) ?_
      refine And.intro (g_in (by decide +kernel)) ?_
      intro v34 ev34; obtain rfl : v34 = 8 := ev34.trans (by decide +kernel)
      refine br_t (by decide +kernel) ?_
      refine Exists.intro 40 ?_
      refine br_t (by decide +kernel) ?_
      refine Exists.intro 40 ?_
      refine br_t (by decide +kernel) ?_
      intro v35 ev35; obtain rfl : v35 = 0 := ev35.trans (by decide +kernel)
      refine br_t ((fa_le 0 p0).mpr (by have l_0 : (0 : Int32).toInt = 0 := (by decide); have l_1 : (9999 : Int32).toInt = 9999 := (by decide); have g_hc1 := mt (fa_lt p0 0).mpr hc1; have g_hc2 := mt (fa_lt 9999 p0).mpr hc2; omega)) ?_
      refine Exists.intro 40 ?_
      refine br_t (by decide +kernel) ?_
      intro v36 ev36; obtain rfl : v36 = 0 := ev36.trans (by decide +kernel)
      intro v37 ev37; obtain rfl : v37 = 0 := ev37.trans (by decide +kernel)
      refine Exists.intro 40 ?_
      refine br_t (by decide +kernel) ?_
      refine br_f (by decide +kernel) ?_
      refine And.intro (fun _ => ?_) (fun h9 => absurd h9 (by decide +kernel))
      intro v38 ev38; obtain rfl : v38 = 1 := ev38.trans (by decide +kernel)
      intro v39 ev39; obtain rfl : v39 = 1 := ev39.trans (by decide +kernel)
      refine br_t (by decide +kernel) ?_
      refine And.intro (g_in (by decide +kernel)) ?_
      intro v40 ev40; obtain rfl : v40 = 1 := ev40.trans (by decide +kernel)
      refine And.intro (g_in (by decide +kernel)) ?_
      intro v41 ev41; obtain rfl : v41 = 2 := ev41.trans (by decide +kernel)
      exact h _ (((if_neg (fun q0 => absurd ((fa_lt p0 0).mp q0) (by have l_0 : (0 : Int32).toInt = 0 := (by decide); have l_1 : (9999 : Int32).toInt = 9999 := (by decide); have g_hc1 := mt (fa_lt p0 0).mpr hc1; have g_hc2 := mt (fa_lt 9999 p0).mpr hc2; omega))).trans (if_neg (fun q0 => absurd ((fa_lt 9999 p0).mp q0) (by have l_0 : (0 : Int32).toInt = 0 := (by decide); have l_1 : (9999 : Int32).toInt = 9999 := (by decide); have g_hc1 := mt (fa_lt p0 0).mpr hc1; have g_hc2 := mt (fa_lt 9999 p0).mpr hc2; omega)))).symm) _ _ _ _ _ _ _ _ _ _ _ _ _ _ _ _ _ _ _ _ _
set_option maxHeartbeats 8000000 in
set_option maxRecDepth 200000 in
theorem fm_dusk (post : Int32 → Int32 → Int32 → Nat → Int32 → Int32 → Int32 → Int32 → Int32 → Int32 → Int32 → Int32 → Int32 → (Nat → Int32) → (Nat → Int32) → Prop) (p0 : Int32) (h : ∀ r : Int32, r = (if p0 < 0 then (-1) else (if 300 < p0 then (-1) else (-2))) → ∀ o0 : Int32, ∀ o1 : Int32, ∀ o2 : Nat, ∀ o3 : Int32, ∀ o4 : Int32, ∀ o5 : Int32, ∀ o6 : Int32, ∀ o7 : Int32, ∀ o8 : Int32, ∀ o9 : Int32, ∀ o10 : Int32, ∀ o11 : Int32, ∀ o12 : (Nat → Int32), ∀ o13 : (Nat → Int32), post r o0 o1 o2 o3 o4 o5 o6 o7 o8 o9 o10 o11 o12 o13) : wp_X10_dusk post p0 0 0 0 0 0 0 0 0 0 0 0 0 0 0 (upd (fun _ => 0) (17 : Int32).toNatClampNeg (-1)) (fun _ => 0) (fun _ => 0) (fun _ => 0) (fun _ => 0) (fun _ => 0) (fun _ => 0) (upd (upd (upd (upd (upd (fun _ => 0) (0 : Int32).toNatClampNeg 8) (1 : Int32).toNatClampNeg 3) (2 : Int32).toNatClampNeg 5) (3 : Int32).toNatClampNeg 1) (4 : Int32).toNatClampNeg 6) (fun _ => 0) (fun _ => 0) (fun _ => 0) (fun _ => 0) := by
  refine And.intro (fun hc1 => ?_) (fun hc1 => ?_)
  · skip
    refine And.intro (fun h9 => absurd rfl h9) (fun _ => ?_)
    exact h _ ((if_pos ((fa_lt p0 0).mpr (by have l_0 : (0 : Int32).toInt = 0 := (by decide); have g_hc1 := (fa_lt p0 0).mp hc1; omega))).symm) _ _ _ _ _ _ _ _ _ _ _ _ _ _
  · skip
    refine And.intro (fun hc2 => ?_) (fun hc2 => ?_)
    · skip
      refine And.intro (fun h9 => absurd rfl h9) (fun _ => ?_)
      exact h _ (((if_neg (fun q0 => absurd ((fa_lt p0 0).mp q0) (by have l_0 : (0 : Int32).toInt = 0 := (by decide); have l_1 : (300 : Int32).toInt = 300 := (by decide); have g_hc1 := mt (fa_lt p0 0).mpr hc1; have g_hc2 := (fa_lt 300 p0).mp hc2; omega))).trans (if_pos ((fa_lt 300 p0).mpr (by have l_0 : (0 : Int32).toInt = 0 := (by decide); have l_1 : (300 : Int32).toInt = 300 := (by decide); have g_hc1 := mt (fa_lt p0 0).mpr hc1; have g_hc2 := (fa_lt 300 p0).mp hc2; omega)))).symm) _ _ _ _ _ _ _ _ _ _ _ _ _ _
    · skip
      refine And.intro (fun _ => ?_) (fun h9 => absurd h9 (by decide +kernel))
      intro v3 ev3; obtain rfl : v3 = (-1) := ev3.trans (by decide +kernel)
      refine And.intro (fun h9 => absurd rfl h9) (fun _ => ?_)
      exact h _ (((if_neg (fun q0 => absurd ((fa_lt p0 0).mp q0) (by have l_0 : (0 : Int32).toInt = 0 := (by decide); have l_1 : (300 : Int32).toInt = 300 := (by decide); have g_hc1 := mt (fa_lt p0 0).mpr hc1; have g_hc2 := mt (fa_lt 300 p0).mpr hc2; omega))).trans (if_neg (fun q0 => absurd ((fa_lt 300 p0).mp q0) (by have l_0 : (0 : Int32).toInt = 0 := (by decide); have l_1 : (300 : Int32).toInt = 300 := (by decide); have g_hc1 := mt (fa_lt p0 0).mpr hc1; have g_hc2 := mt (fa_lt 300 p0).mpr hc2; omega)))).symm) _ _ _ _ _ _ _ _ _ _ _ _ _ _
set_option maxHeartbeats 8000000 in
set_option maxRecDepth 200000 in
theorem fm_gentle (post : Int32 → Int32 → Int32 → (Nat → Int32) → Prop) (h : ∀ r : Int32, r = (-2) → ∀ o0 : Int32, ∀ o1 : Int32, ∀ o2 : (Nat → Int32), post r o0 o1 o2) : wp_X10_gentle post 0 0 0 (upd (fun _ => 0) (17 : Int32).toNatClampNeg (-1)) (fun _ => 0) (fun _ => 0) (fun _ => 0) (fun _ => 0) (fun _ => 0) (upd (upd (upd (upd (upd (fun _ => 0) (0 : Int32).toNatClampNeg 8) (1 : Int32).toNatClampNeg 3) (2 : Int32).toNatClampNeg 5) (3 : Int32).toNatClampNeg 1) (4 : Int32).toNatClampNeg 6) (fun _ => 0) := by
  intro v1 ev1; obtain rfl : v1 = (-1) := ev1.trans (by decide +kernel)
  refine And.intro (fun h9 => absurd rfl h9) (fun _ => ?_)
  exact h _ (by decide +kernel) _ _ _
set_option maxHeartbeats 8000000 in
set_option maxRecDepth 200000 in
theorem fm_harm (post : Int32 → Int32 → Int32 → (Nat → Int32) → Prop) (h : ∀ r : Int32, r = (-2) → ∀ o0 : Int32, ∀ o1 : Int32, ∀ o2 : (Nat → Int32), post r o0 o1 o2) : wp_X10_harm post 0 0 0 (upd (fun _ => 0) (17 : Int32).toNatClampNeg (-1)) (fun _ => 0) (fun _ => 0) (fun _ => 0) (fun _ => 0) (fun _ => 0) (fun _ => 0) (upd (upd (upd (upd (upd (fun _ => 0) (0 : Int32).toNatClampNeg 8) (1 : Int32).toNatClampNeg 3) (2 : Int32).toNatClampNeg 5) (3 : Int32).toNatClampNeg 1) (4 : Int32).toNatClampNeg 6) (fun _ => 0) := by
  intro v1 ev1; obtain rfl : v1 = (-1) := ev1.trans (by decide +kernel)
  refine And.intro (fun h9 => absurd rfl h9) (fun _ => ?_)
  exact h _ (by decide +kernel) _ _ _
set_option maxHeartbeats 8000000 in
set_option maxRecDepth 200000 in
theorem fm_share (post : Int32 → Int32 → Int32 → Nat → Int32 → Int32 → Int32 → Int32 → Int32 → Int32 → Int32 → Int32 → Int32 → Int32 → (Nat → Int32) → (Nat → Int32) → (Nat → Int32) → Prop) (p0 : Int32) (h : ∀ r : Int32, r = (if p0 = 0 then 0 else (-1)) → ∀ o0 : Int32, ∀ o1 : Int32, ∀ o2 : Nat, ∀ o3 : Int32, ∀ o4 : Int32, ∀ o5 : Int32, ∀ o6 : Int32, ∀ o7 : Int32, ∀ o8 : Int32, ∀ o9 : Int32, ∀ o10 : Int32, ∀ o11 : Int32, ∀ o12 : Int32, ∀ o13 : (Nat → Int32), ∀ o14 : (Nat → Int32), ∀ o15 : (Nat → Int32), post r o0 o1 o2 o3 o4 o5 o6 o7 o8 o9 o10 o11 o12 o13 o14 o15) : wp_X10_share post p0 0 0 0 0 0 0 0 0 0 0 0 0 0 0 0 0 (upd (fun _ => 0) (17 : Int32).toNatClampNeg (-1)) (fun _ => 0) (fun _ => 0) (fun _ => 0) (fun _ => 0) (fun _ => 0) (fun _ => 0) (upd (upd (upd (upd (upd (fun _ => 0) (0 : Int32).toNatClampNeg 8) (1 : Int32).toNatClampNeg 3) (2 : Int32).toNatClampNeg 5) (3 : Int32).toNatClampNeg 1) (4 : Int32).toNatClampNeg 6) (fun _ => 0) (fun _ => 0) (fun _ => 0) (fun _ => 0) (fun _ => 0) := by
  intro v1 ev1; obtain rfl : v1 = 1 := ev1.trans (by decide +kernel)
  refine And.intro (fun hc2 => ?_) (fun hc2 => ?_)
  · skip
    refine And.intro (fun h9 => absurd rfl h9) (fun _ => ?_)
    exact h _ ((if_neg (fun q0 => absurd ((fa_eq p0 0).mp q0) (by have l_0 : (0 : Int32).toInt = 0 := (by decide); have g_hc2 := (fa_lt p0 0).mp hc2; omega))).symm) _ _ _ _ _ _ _ _ _ _ _ _ _ _ _ _
  · skip
    refine And.intro (fun hc3 => ?_) (fun hc3 => ?_)
    · skip
      refine And.intro (fun h9 => absurd rfl h9) (fun _ => ?_)
      exact h _ ((if_neg (fun q0 => absurd ((fa_eq p0 0).mp q0) (by have l_0 : (0 : Int32).toInt = 0 := (by decide); have g_hc2 := mt (fa_lt p0 0).mpr hc2; have g_hc3 := (fa_lt 0 p0).mp hc3; omega))).symm) _ _ _ _ _ _ _ _ _ _ _ _ _ _ _ _
    · skip
      obtain rfl : p0 = 0 := (fa_eq _ _).mpr (by have l_0 : (0 : Int32).toInt = 0 := (by decide); have g_hc2 := mt (fa_lt p0 0).mpr hc2; have g_hc3 := mt (fa_lt 0 p0).mpr hc3; omega)
      refine And.intro (fun _ => ?_) (fun h9 => absurd h9 (by decide +kernel))
      intro v4 ev4; obtain rfl : v4 = 0 := ev4.trans (by decide +kernel)
      refine Exists.intro 40 ?_
      refine br_t (by decide +kernel) ?_
      refine Exists.intro 40 ?_
      refine br_t (by decide +kernel) ?_
      intro v5 ev5; obtain rfl : v5 = 0 := ev5.trans (by decide +kernel)
      refine Exists.intro 40 ?_
      refine br_t (by decide +kernel) ?_
      intro v6 ev6; obtain rfl : v6 = 0 := ev6.trans (by decide +kernel)
      intro v7 ev7; obtain rfl : v7 = 1 := ev7.trans (by decide +kernel)
      refine Exists.intro 40 ?_
      refine br_t (by decide +kernel) ?_
      intro v8 ev8; obtain rfl : v8 = 0 := ev8.trans (by decide +kernel)
      refine Exists.intro 40 ?_
      refine br_f (by decide +kernel) ?_
      refine And.intro (g_in (by decide +kernel)) ?_
      intro v9 ev9; obtain rfl : v9 = 1 := ev9.trans (by decide +kernel)
      refine br_f (by decide +kernel) ?_
      refine And.intro (g_in (by decide +kernel)) ?_
      intro v10 ev10; obtain rfl : v10 = 2 := ev10.trans (by decide +kernel)
      refine br_f (by decide +kernel) ?_
      refine And.intro (g_in (by decide +kernel)) ?_
      intro v11 ev11; obtain rfl : v11 = 3 := ev11.trans (by decide +kernel)
      refine br_f (by decide +kernel) ?_
      refine And.intro (g_in (by decide +kernel)) ?_
      intro v12 ev12; obtain rfl : v12 = 4 := ev12.trans (by decide +kernel)
      refine br_f (by decide +kernel) ?_
      refine And.intro (g_in (by decide +kernel)) ?_
      intro v13 ev13; obtain rfl : v13 = 5 := ev13.trans (by decide +kernel)
      refine br_f (by decide +kernel) ?_
      refine And.intro (g_in (by decide +kernel)) ?_
      intro v14 ev14; obtain rfl : v14 = 6 := ev14.trans (by decide +kernel)
      refine br_f (by decide +kernel) ?_
      refine And.intro (g_in (by decide +kernel)) ?_
      intro v15 ev15; obtain rfl : v15 = 7 := ev15.trans (by decide +kernel)
      refine br_f (by decide +kernel) ?_
      refine And.intro (g_in (by decide +kernel)) ?_
      intro v16 ev16; obtain rfl : v16 = 8 := ev16.trans (by decide +kernel)
      refine br_t (by decide +kernel) ?_
      refine Exists.intro 40 ?_
      refine br_t (by decide +kernel) ?_
      refine Exists.intro 40 ?_
      refine br_f (by decide +kernel) ?_
      refine br_t (by decide +kernel) ?_
      refine Exists.intro 40 ?_
      refine br_t (by decide +kernel) ?_
      intro v17 ev17; obtain rfl : v17 = 0 := ev17.trans (by decide +kernel)
      refine Exists.intro 40 ?_
      refine br_t (by decide +kernel) ?_
      intro v18 ev18; obtain rfl : v18 = 0 := ev18.trans (by decide +kernel)
      refine br_t (by decide +kernel) ?_
      intro v19 ev19; obtain rfl : v19 = 0 := ev19.trans (by decide +kernel)
      intro v20 ev20; obtain rfl : v20 = 1 := ev20.trans (by decide +kernel)
      refine br_t (by decide +kernel) ?_
      refine And.intro (g_in (by decide +kernel)) ?_
      intro v21 ev21; obtain rfl : v21 = 1 := ev21.trans (by decide +kernel)
      refine And.intro (g_in (by decide +kernel)) ?_
      intro v22 ev22; obtain rfl : v22 = 2 := ev22.trans (by decide +kernel)
      exact h _ ((if_pos (by decide +kernel)).symm) _ _ _ _ _ _ _ _ _ _ _ _ _ _ _ _
set_option maxHeartbeats 8000000 in
set_option maxRecDepth 200000 in
theorem fm_ripens (post : Int32 → Int32 → Int32 → Int32 → (Nat → Int32) → (Nat → Int32) → Prop) (h : ∀ r : Int32, r = 0 → ∀ o0 : Int32, ∀ o1 : Int32, ∀ o2 : Int32, ∀ o3 : (Nat → Int32), ∀ o4 : (Nat → Int32), post r o0 o1 o2 o3 o4) : wp_X10_ripens post 0 0 0 0 0 (upd (fun _ => 0) (17 : Int32).toNatClampNeg (-1)) (fun _ => 0) (fun _ => 0) (fun _ => 0) (fun _ => 0) (fun _ => 0) (upd (upd (upd (upd (upd (fun _ => 0) (0 : Int32).toNatClampNeg 8) (1 : Int32).toNatClampNeg 3) (2 : Int32).toNatClampNeg 5) (3 : Int32).toNatClampNeg 1) (4 : Int32).toNatClampNeg 6) (fun _ => 0) (fun _ => 0) := by
  intro v1 ev1; obtain rfl : v1 = 0 := ev1.trans (by decide +kernel)
  refine Exists.intro 40 ?_
  refine br_t (by decide +kernel) ?_
  refine Exists.intro 40 ?_
  refine br_t (by decide +kernel) ?_
  intro v2 ev2; obtain rfl : v2 = 0 := ev2.trans (by decide +kernel)
  refine Exists.intro 40 ?_
  refine br_t (by decide +kernel) ?_
  intro v3 ev3; obtain rfl : v3 = 0 := ev3.trans (by decide +kernel)
  intro v4 ev4; obtain rfl : v4 = 1 := ev4.trans (by decide +kernel)
  refine Exists.intro 40 ?_
  refine br_t (by decide +kernel) ?_
  intro v5 ev5; obtain rfl : v5 = 0 := ev5.trans (by decide +kernel)
  intro v6 ev6; obtain rfl : v6 = 0 := ev6.trans (by decide +kernel)
  intro v7 ev7; obtain rfl : v7 = 0 := ev7.trans (by decide +kernel)
  refine Exists.intro 40 ?_
  refine br_f (by decide +kernel) ?_
  refine Exists.intro 40 ?_
  refine br_t (by decide +kernel) ?_
  refine Exists.intro 40 ?_
  refine br_t (by decide +kernel) ?_
  intro v8 ev8; obtain rfl : v8 = 0 := ev8.trans (by decide +kernel)
  refine And.intro (fun h9 => absurd rfl h9) (fun _ => ?_)
  intro v9 ev9; obtain rfl : v9 = 0 := ev9.trans (by decide +kernel)
  intro v10 ev10; obtain rfl : v10 = 0 := ev10.trans (by decide +kernel)
  intro v11 ev11; obtain rfl : v11 = 0 := ev11.trans (by decide +kernel)
  intro v12 ev12; obtain rfl : v12 = 0 := ev12.trans (by decide +kernel)
  intro v13 ev13; obtain rfl : v13 = 0 := ev13.trans (by decide +kernel)
  intro v14 ev14; obtain rfl : v14 = 0 := ev14.trans (by decide +kernel)
  intro v15 ev15; obtain rfl : v15 = 0 := ev15.trans (by decide +kernel)
  intro v16 ev16; obtain rfl : v16 = 0 := ev16.trans (by decide +kernel)
  intro v17 ev17; obtain rfl : v17 = 0 := ev17.trans (by decide +kernel)
  refine br_t (by decide +kernel) ?_
  intro v18 ev18; obtain rfl : v18 = 1 := ev18.trans (by decide +kernel)
  refine br_f (by decide +kernel) ?_
  refine Exists.intro 40 ?_
  refine br_t (by decide +kernel) ?_
  refine Exists.intro 40 ?_
  refine br_t (by decide +kernel) ?_
  intro v19 ev19; obtain rfl : v19 = 0 := ev19.trans (by decide +kernel)
  refine And.intro (fun _ => ?_) (fun h9 => absurd h9 (by decide +kernel))
  intro v20 ev20; obtain rfl : v20 = 0 := ev20.trans (by decide +kernel)
  refine Exists.intro 40 ?_
  refine br_t (by decide +kernel) ?_
  intro v21 ev21; obtain rfl : v21 = 0 := ev21.trans (by decide +kernel)
  intro v22 ev22; obtain rfl : v22 = 0 := ev22.trans (by decide +kernel)
  intro v23 ev23; obtain rfl : v23 = 0 := ev23.trans (by decide +kernel)
  intro v24 ev24; obtain rfl : v24 = 0 := ev24.trans (by decide +kernel)
  intro v25 ev25; obtain rfl : v25 = 0 := ev25.trans (by decide +kernel)
  intro v26 ev26; obtain rfl : v26 = 0 := ev26.trans (by decide +kernel)
  intro v27 ev27; obtain rfl : v27 = 0 := ev27.trans (by decide +kernel)
  intro v28 ev28; obtain rfl : v28 = 0 := ev28.trans (by decide +kernel)
  intro v29 ev29; obtain rfl : v29 = 0 := ev29.trans (by decide +kernel)
  refine br_f (by decide +kernel) ?_
  intro v30 ev30; obtain rfl : v30 = 2 := ev30.trans (by decide +kernel)
  refine br_f (by decide +kernel) ?_
  refine Exists.intro 40 ?_
  refine br_t (by decide +kernel) ?_
  refine Exists.intro 40 ?_
  refine br_t (by decide +kernel) ?_
  intro v31 ev31; obtain rfl : v31 = 0 := ev31.trans (by decide +kernel)
  refine And.intro (fun _ => ?_) (fun h9 => absurd h9 (by decide +kernel))
  intro v32 ev32; obtain rfl : v32 = 1 := ev32.trans (by decide +kernel)
  refine Exists.intro 40 ?_
  refine br_t (by decide +kernel) ?_
  intro v33 ev33; obtain rfl : v33 = 0 := ev33.trans (by decide +kernel)
  intro v34 ev34; obtain rfl : v34 = 0 := ev34.trans (by decide +kernel)
  intro v35 ev35; obtain rfl : v35 = 0 := ev35.trans (by decide +kernel)
  intro v36 ev36; obtain rfl : v36 = 0 := ev36.trans (by decide +kernel)
  intro v37 ev37; obtain rfl : v37 = 0 := ev37.trans (by decide +kernel)
  intro v38 ev38; obtain rfl : v38 = 0 := ev38.trans (by decide +kernel)
  intro v39 ev39; obtain rfl : v39 = 0 := ev39.trans (by decide +kernel)
  intro v40 ev40; obtain rfl : v40 = 0 := ev40.trans (by decide +kernel)
  intro v41 ev41; obtain rfl : v41 = 0 := ev41.trans (by decide +kernel)
  refine br_f (by decide +kernel) ?_
  intro v42 ev42; obtain rfl : v42 = 3 := ev42.trans (by decide +kernel)
  refine br_f (by decide +kernel) ?_
  refine Exists.intro 40 ?_
  refine br_t (by decide +kernel) ?_
  refine Exists.intro 40 ?_
  refine br_t (by decide +kernel) ?_
  intro v43 ev43; obtain rfl : v43 = 0 := ev43.trans (by decide +kernel)
  refine And.intro (fun _ => ?_) (fun h9 => absurd h9 (by decide +kernel))
  intro v44 ev44; obtain rfl : v44 = 2 := ev44.trans (by decide +kernel)
  refine Exists.intro 40 ?_
  refine br_t (by decide +kernel) ?_
  intro v45 ev45; obtain rfl : v45 = 0 := ev45.trans (by decide +kernel)
  intro v46 ev46; obtain rfl : v46 = 0 := ev46.trans (by decide +kernel)
  intro v47 ev47; obtain rfl : v47 = 0 := ev47.trans (by decide +kernel)
  intro v48 ev48; obtain rfl : v48 = 0 := ev48.trans (by decide +kernel)
  intro v49 ev49; obtain rfl : v49 = 0 := ev49.trans (by decide +kernel)
  intro v50 ev50; obtain rfl : v50 = 0 := ev50.trans (by decide +kernel)
  intro v51 ev51; obtain rfl : v51 = 0 := ev51.trans (by decide +kernel)
  intro v52 ev52; obtain rfl : v52 = 0 := ev52.trans (by decide +kernel)
  intro v53 ev53; obtain rfl : v53 = 0 := ev53.trans (by decide +kernel)
  refine br_f (by decide +kernel) ?_
  intro v54 ev54; obtain rfl : v54 = 4 := ev54.trans (by decide +kernel)
  refine br_f (by decide +kernel) ?_
  refine Exists.intro 40 ?_
  refine br_t (by decide +kernel) ?_
  refine Exists.intro 40 ?_
  refine br_t (by decide +kernel) ?_
  intro v55 ev55; obtain rfl : v55 = 0 := ev55.trans (by decide +kernel)
  refine And.intro (fun _ => ?_) (fun h9 => absurd h9 (by decide +kernel))
  intro v56 ev56; obtain rfl : v56 = 3 := ev56.trans (by decide +kernel)
  refine Exists.intro 40 ?_
  refine br_t (by decide +kernel) ?_
  intro v57 ev57; obtain rfl : v57 = 0 := ev57.trans (by decide +kernel)
  intro v58 ev58; obtain rfl : v58 = 0 := ev58.trans (by decide +kernel)
  intro v59 ev59; obtain rfl : v59 = 0 := ev59.trans (by decide +kernel)
  intro v60 ev60; obtain rfl : v60 = 0 := ev60.trans (by decide +kernel)
  intro v61 ev61; obtain rfl : v61 = 0 := ev61.trans (by decide +kernel)
  intro v62 ev62; obtain rfl : v62 = 0 := ev62.trans (by decide +kernel)
  intro v63 ev63; obtain rfl : v63 = 0 := ev63.trans (by decide +kernel)
  intro v64 ev64; obtain rfl : v64 = 0 := ev64.trans (by decide +kernel)
  intro v65 ev65; obtain rfl : v65 = 0 := ev65.trans (by decide +kernel)
  refine br_f (by decide +kernel) ?_
  intro v66 ev66; obtain rfl : v66 = 5 := ev66.trans (by decide +kernel)
  refine br_f (by decide +kernel) ?_
  refine Exists.intro 40 ?_
  refine br_t (by decide +kernel) ?_
  refine Exists.intro 40 ?_
  refine br_t (by decide +kernel) ?_
  intro v67 ev67; obtain rfl : v67 = 0 := ev67.trans (by decide +kernel)
  refine And.intro (fun _ => ?_) (fun h9 => absurd h9 (by decide +kernel))
  intro v68 ev68; obtain rfl : v68 = 4 := ev68.trans (by decide +kernel)
  refine Exists.intro 40 ?_
  refine br_t (by decide +kernel) ?_
  intro v69 ev69; obtain rfl : v69 = 0 := ev69.trans (by decide +kernel)
  intro v70 ev70; obtain rfl : v70 = 0 := ev70.trans (by decide +kernel)
  intro v71 ev71; obtain rfl : v71 = 0 := ev71.trans (by decide +kernel)
  intro v72 ev72; obtain rfl : v72 = 0 := ev72.trans (by decide +kernel)
  intro v73 ev73; obtain rfl : v73 = 0 := ev73.trans (by decide +kernel)
  intro v74 ev74; obtain rfl : v74 = 0 := ev74.trans (by decide +kernel)
  intro v75 ev75; obtain rfl : v75 = 0 := ev75.trans (by decide +kernel)
  intro v76 ev76; obtain rfl : v76 = 0 := ev76.trans (by decide +kernel)
  intro v77 ev77; obtain rfl : v77 = 0 := ev77.trans (by decide +kernel)
  refine br_f (by decide +kernel) ?_
  intro v78 ev78; obtain rfl : v78 = 6 := ev78.trans (by decide +kernel)
  refine br_f (by decide +kernel) ?_
  refine Exists.intro 40 ?_
  refine br_t (by decide +kernel) ?_
  refine Exists.intro 40 ?_
  refine br_t (by decide +kernel) ?_
  intro v79 ev79; obtain rfl : v79 = 0 := ev79.trans (by decide +kernel)
  refine And.intro (fun _ => ?_) (fun h9 => absurd h9 (by decide +kernel))
  intro v80 ev80; obtain rfl : v80 = 5 := ev80.trans (by decide +kernel)
  refine Exists.intro 40 ?_
  refine br_t (by decide +kernel) ?_
  intro v81 ev81; obtain rfl : v81 = 0 := ev81.trans (by decide +kernel)
  intro v82 ev82; obtain rfl : v82 = 0 := ev82.trans (by decide +kernel)
  intro v83 ev83; obtain rfl : v83 = 0 := ev83.trans (by decide +kernel)
  intro v84 ev84; obtain rfl : v84 = 0 := ev84.trans (by decide +kernel)
  intro v85 ev85; obtain rfl : v85 = 0 := ev85.trans (by decide +kernel)
  intro v86 ev86; obtain rfl : v86 = 0 := ev86.trans (by decide +kernel)
  intro v87 ev87; obtain rfl : v87 = 0 := ev87.trans (by decide +kernel)
  intro v88 ev88; obtain rfl : v88 = 0 := ev88.trans (by decide +kernel)
  intro v89 ev89; obtain rfl : v89 = 0 := ev89.trans (by decide +kernel)
  refine br_f (by decide +kernel) ?_
  intro v90 ev90; obtain rfl : v90 = 7 := ev90.trans (by decide +kernel)
  refine br_f (by decide +kernel) ?_
  refine Exists.intro 40 ?_
  refine br_t (by decide +kernel) ?_
  refine Exists.intro 40 ?_
  refine br_t (by decide +kernel) ?_
  intro v91 ev91; obtain rfl : v91 = 0 := ev91.trans (by decide +kernel)
  refine And.intro (fun _ => ?_) (fun h9 => absurd h9 (by decide +kernel))
  intro v92 ev92; obtain rfl : v92 = 6 := ev92.trans (by decide +kernel)
  refine Exists.intro 40 ?_
  refine br_t (by decide +kernel) ?_
  intro v93 ev93; obtain rfl : v93 = 0 := ev93.trans (by decide +kernel)
  intro v94 ev94; obtain rfl : v94 = 0 := ev94.trans (by decide +kernel)
  intro v95 ev95; obtain rfl : v95 = 0 := ev95.trans (by decide +kernel)
  intro v96 ev96; obtain rfl : v96 = 0 := ev96.trans (by decide +kernel)
  intro v97 ev97; obtain rfl : v97 = 0 := ev97.trans (by decide +kernel)
  intro v98 ev98; obtain rfl : v98 = 0 := ev98.trans (by decide +kernel)
  intro v99 ev99; obtain rfl : v99 = 0 := ev99.trans (by decide +kernel)
  intro v100 ev100; obtain rfl : v100 = 0 := ev100.trans (by decide +kernel)
  intro v101 ev101; obtain rfl : v101 = 0 := ev101.trans (by decide +kernel)
  refine br_f (by decide +kernel) ?_
  intro v102 ev102; obtain rfl : v102 = 8 := ev102.trans (by decide +kernel)
  refine br_f (by decide +kernel) ?_
  refine Exists.intro 40 ?_
  refine br_t (by decide +kernel) ?_
  refine Exists.intro 40 ?_
  refine br_t (by decide +kernel) ?_
  intro v103 ev103; obtain rfl : v103 = 0 := ev103.trans (by decide +kernel)
  refine And.intro (fun _ => ?_) (fun h9 => absurd h9 (by decide +kernel))
  intro v104 ev104; obtain rfl : v104 = 7 := ev104.trans (by decide +kernel)
  refine Exists.intro 40 ?_
  refine br_t (by decide +kernel) ?_
  intro v105 ev105; obtain rfl : v105 = 0 := ev105.trans (by decide +kernel)
  intro v106 ev106; obtain rfl : v106 = 0 := ev106.trans (by decide +kernel)
  intro v107 ev107; obtain rfl : v107 = 0 := ev107.trans (by decide +kernel)
  intro v108 ev108; obtain rfl : v108 = 0 := ev108.trans (by decide +kernel)
  intro v109 ev109; obtain rfl : v109 = 0 := ev109.trans (by decide +kernel)
  intro v110 ev110; obtain rfl : v110 = 0 := ev110.trans (by decide +kernel)
  intro v111 ev111; obtain rfl : v111 = 0 := ev111.trans (by decide +kernel)
  intro v112 ev112; obtain rfl : v112 = 0 := ev112.trans (by decide +kernel)
  intro v113 ev113; obtain rfl : v113 = 0 := ev113.trans (by decide +kernel)
  refine br_f (by decide +kernel) ?_
  intro v114 ev114; obtain rfl : v114 = 9 := ev114.trans (by decide +kernel)
  refine br_f (by decide +kernel) ?_
  refine Exists.intro 40 ?_
  refine br_t (by decide +kernel) ?_
  refine Exists.intro 40 ?_
  refine br_t (by decide +kernel) ?_
  intro v115 ev115; obtain rfl : v115 = 0 := ev115.trans (by decide +kernel)
  refine And.intro (fun _ => ?_) (fun h9 => absurd h9 (by decide +kernel))
  intro v116 ev116; obtain rfl : v116 = 8 := ev116.trans (by decide +kernel)
  refine Exists.intro 40 ?_
  refine br_t (by decide +kernel) ?_
  intro v117 ev117; obtain rfl : v117 = 0 := ev117.trans (by decide +kernel)
  intro v118 ev118; obtain rfl : v118 = 0 := ev118.trans (by decide +kernel)
  intro v119 ev119; obtain rfl : v119 = 0 := ev119.trans (by decide +kernel)
  intro v120 ev120; obtain rfl : v120 = 0 := ev120.trans (by decide +kernel)
  intro v121 ev121; obtain rfl : v121 = 0 := ev121.trans (by decide +kernel)
  intro v122 ev122; obtain rfl : v122 = 0 := ev122.trans (by decide +kernel)
  intro v123 ev123; obtain rfl : v123 = 0 := ev123.trans (by decide +kernel)
  intro v124 ev124; obtain rfl : v124 = 0 := ev124.trans (by decide +kernel)
  intro v125 ev125; obtain rfl : v125 = 0 := ev125.trans (by decide +kernel)
  refine br_f (by decide +kernel) ?_
  intro v126 ev126; obtain rfl : v126 = 10 := ev126.trans (by decide +kernel)
  refine br_t (by decide +kernel) ?_
  refine Exists.intro 40 ?_
  refine br_t (by decide +kernel) ?_
  intro v127 ev127; obtain rfl : v127 = 1 := ev127.trans (by decide +kernel)
  refine Exists.intro 40 ?_
  refine br_t (by decide +kernel) ?_
  intro v128 ev128; obtain rfl : v128 = 0 := ev128.trans (by decide +kernel)
  refine Exists.intro 40 ?_
  intro v129 ev129; obtain rfl : v129 = 1 := ev129.trans (by decide +kernel)
  refine br_f (by decide +kernel) ?_
  refine Exists.intro 40 ?_
  refine br_t (by decide +kernel) ?_
  refine br_t (by decide +kernel) ?_
  refine And.intro (fun h9 => absurd rfl h9) (fun _ => ?_)
  refine br_t (by decide +kernel) ?_
  intro v130 ev130; obtain rfl : v130 = 1 := ev130.trans (by decide +kernel)
  intro v131 ev131; obtain rfl : v131 = 1 := ev131.trans (by decide +kernel)
  refine br_t (by decide +kernel) ?_
  refine And.intro (g_in (by decide +kernel)) ?_
  intro v132 ev132; obtain rfl : v132 = 1 := ev132.trans (by decide +kernel)
  intro v133 ev133; obtain rfl : v133 = 0 := ev133.trans (by decide +kernel)
  intro v134 ev134; obtain rfl : v134 = 0 := ev134.trans (by decide +kernel)
  intro v135 ev135; obtain rfl : v135 = 0 := ev135.trans (by decide +kernel)
  intro v136 ev136; obtain rfl : v136 = 0 := ev136.trans (by decide +kernel)
  intro v137 ev137; obtain rfl : v137 = 0 := ev137.trans (by decide +kernel)
  intro v138 ev138; obtain rfl : v138 = 0 := ev138.trans (by decide +kernel)
  intro v139 ev139; obtain rfl : v139 = 0 := ev139.trans (by decide +kernel)
  intro v140 ev140; obtain rfl : v140 = 0 := ev140.trans (by decide +kernel)
  intro v141 ev141; obtain rfl : v141 = 0 := ev141.trans (by decide +kernel)
  refine And.intro (g_in (by decide +kernel)) ?_
  intro v142 ev142; obtain rfl : v142 = 2 := ev142.trans (by decide +kernel)
  exact h _ (by decide +kernel) _ _ _ _ _
set_option maxHeartbeats 8000000 in
set_option maxRecDepth 200000 in
theorem fm_ondays (post : Int32 → Int32 → Int32 → Int32 → (Nat → Int32) → (Nat → Int32) → Prop) (p0 : Int32) (h : ∀ r : Int32, r = (if p0 < 0 then (-1) else (if 9 < p0 then (-1) else 0)) → ∀ o0 : Int32, ∀ o1 : Int32, ∀ o2 : Int32, ∀ o3 : (Nat → Int32), ∀ o4 : (Nat → Int32), post r o0 o1 o2 o3 o4) : wp_X10_ondays post p0 0 0 0 0 0 (upd (fun _ => 0) (17 : Int32).toNatClampNeg (-1)) (fun _ => 0) (fun _ => 0) (fun _ => 0) (fun _ => 0) (fun _ => 0) (upd (upd (upd (upd (upd (fun _ => 0) (0 : Int32).toNatClampNeg 8) (1 : Int32).toNatClampNeg 3) (2 : Int32).toNatClampNeg 5) (3 : Int32).toNatClampNeg 1) (4 : Int32).toNatClampNeg 6) (fun _ => 0) (fun _ => 0) := by
  intro v1 ev1; obtain rfl : v1 = 0 := ev1.trans (by decide +kernel)
  refine And.intro (fun hc2 => ?_) (fun hc2 => ?_)
  · skip
    refine And.intro (fun h9 => absurd rfl h9) (fun _ => ?_)
    exact h _ ((if_pos ((fa_lt p0 0).mpr (by have l_0 : (0 : Int32).toInt = 0 := (by decide); have g_hc2 := (fa_lt p0 0).mp hc2; omega))).symm) _ _ _ _ _
  · skip
    refine And.intro (fun hc3 => ?_) (fun hc3 => ?_)
    · skip
      refine And.intro (fun h9 => absurd rfl h9) (fun _ => ?_)
      exact h _ (((if_neg (fun q0 => absurd ((fa_lt p0 0).mp q0) (by have l_0 : (0 : Int32).toInt = 0 := (by decide); have l_1 : (9 : Int32).toInt = 9 := (by decide); have g_hc2 := mt (fa_lt p0 0).mpr hc2; have g_hc3 := (fa_lt 9 p0).mp hc3; omega))).trans (if_pos ((fa_lt 9 p0).mpr (by have l_0 : (0 : Int32).toInt = 0 := (by decide); have l_1 : (9 : Int32).toInt = 9 := (by decide); have g_hc2 := mt (fa_lt p0 0).mpr hc2; have g_hc3 := (fa_lt 9 p0).mp hc3; omega)))).symm) _ _ _ _ _
    · skip
      refine And.intro (fun _ => ?_) (fun h9 => absurd h9 (by decide +kernel))
      intro v4 ev4; obtain rfl : v4 = 0 := ev4.trans (by decide +kernel)
      refine Exists.intro 40 ?_
      refine br_t (by decide +kernel) ?_
      refine Exists.intro 40 ?_
      refine br_t (by decide +kernel) ?_
      intro v5 ev5; obtain rfl : v5 = 0 := ev5.trans (by decide +kernel)
      refine Exists.intro 40 ?_
      refine br_t (by decide +kernel) ?_
      intro v6 ev6; obtain rfl : v6 = 0 := ev6.trans (by decide +kernel)
      intro v7 ev7; obtain rfl : v7 = 1 := ev7.trans (by decide +kernel)
      refine Exists.intro 40 ?_
      refine br_t (by decide +kernel) ?_
      intro v8 ev8; obtain rfl : v8 = 0 := ev8.trans (by decide +kernel)
      refine Exists.intro 40 ?_
      refine br_t (by decide +kernel) ?_
      refine Exists.intro 40 ?_
      refine br_t (by decide +kernel) ?_
      intro v9 ev9; obtain rfl : v9 = 0 := ev9.trans (by decide +kernel)
      refine And.intro (fun hc10 => ?_) (fun hc10 => ?_)
      · skip
        intro v11 ev11; subst ev11
        refine Exists.intro 40 ?_
        refine br_t (by decide +kernel) ?_
        intro v12 ev12; obtain rfl : v12 = 1 := ev12.trans (by decide +kernel)
        refine Exists.intro 40 ?_
        refine br_t (by decide +kernel) ?_
        intro v13 ev13; obtain rfl : v13 = 0 := ev13.trans (by decide +kernel)
        refine Exists.intro 40 ?_
        intro v14 ev14; obtain rfl : v14 = 1 := ev14.trans (by decide +kernel)
        refine br_f (by decide +kernel) ?_
        refine Exists.intro 40 ?_
        refine br_t (by decide +kernel) ?_
        refine br_t (by decide +kernel) ?_
        refine And.intro (fun h9 => absurd rfl h9) (fun _ => ?_)
        refine br_t (by decide +kernel) ?_
        intro v15 ev15; obtain rfl : v15 = 1 := ev15.trans (by decide +kernel)
        intro v16 ev16; obtain rfl : v16 = 1 := ev16.trans (by decide +kernel)
        refine br_t (by decide +kernel) ?_
        refine Exists.intro 40 ?_
        refine br_t (by decide +kernel) ?_
        intro v17 ev17; obtain rfl : v17 = 0 := ev17.trans (by decide +kernel)
        intro v18 ev18; obtain rfl : v18 = 0 := ev18.trans (by decide +kernel)
        intro v19 ev19; obtain rfl : v19 = 0 := ev19.trans (by decide +kernel)
        intro v20 ev20; obtain rfl : v20 = 0 := ev20.trans (by decide +kernel)
        intro v21 ev21; obtain rfl : v21 = 0 := ev21.trans (by decide +kernel)
        intro v22 ev22; obtain rfl : v22 = 0 := ev22.trans (by decide +kernel)
        intro v23 ev23; obtain rfl : v23 = 0 := ev23.trans (by decide +kernel)
        intro v24 ev24; obtain rfl : v24 = 0 := ev24.trans (by decide +kernel)
        intro v25 ev25; obtain rfl : v25 = 0 := ev25.trans (by decide +kernel)
        exact h _ (((if_neg (fun q0 => absurd ((fa_lt p0 0).mp q0) (by have l_0 : (0 : Int32).toInt = 0 := (by decide); have l_1 : (9 : Int32).toInt = 9 := (by decide); have g_hc2 := mt (fa_lt p0 0).mpr hc2; have g_hc3 := mt (fa_lt 9 p0).mpr hc3; have g_hc10 := mt (fa_eq p0 0).mpr hc10; omega))).trans (if_neg (fun q0 => absurd ((fa_lt 9 p0).mp q0) (by have l_0 : (0 : Int32).toInt = 0 := (by decide); have l_1 : (9 : Int32).toInt = 9 := (by decide); have g_hc2 := mt (fa_lt p0 0).mpr hc2; have g_hc3 := mt (fa_lt 9 p0).mpr hc3; have g_hc10 := mt (fa_eq p0 0).mpr hc10; omega)))).symm) _ _ _ _ _
      · skip
        obtain rfl : p0 = 0 := (fa_eq _ _).mpr (by have l_0 : (0 : Int32).toInt = 0 := (by decide); have l_1 : (9 : Int32).toInt = 9 := (by decide); have g_hc2 := mt (fa_lt p0 0).mpr hc2; have g_hc3 := mt (fa_lt 9 p0).mpr hc3; have g_hc10 := (fa_eq p0 0).mp hc10; omega)
        intro v26 ev26; obtain rfl : v26 = 1 := ev26.trans (by decide +kernel)
        refine Exists.intro 40 ?_
        refine br_t (by decide +kernel) ?_
        intro v27 ev27; obtain rfl : v27 = 0 := ev27.trans (by decide +kernel)
        refine Exists.intro 40 ?_
        intro v28 ev28; obtain rfl : v28 = 1 := ev28.trans (by decide +kernel)
        refine br_f (by decide +kernel) ?_
        refine Exists.intro 40 ?_
        refine br_t (by decide +kernel) ?_
        refine br_t (by decide +kernel) ?_
        refine And.intro (fun h9 => absurd rfl h9) (fun _ => ?_)
        refine br_t (by decide +kernel) ?_
        intro v29 ev29; obtain rfl : v29 = 1 := ev29.trans (by decide +kernel)
        intro v30 ev30; obtain rfl : v30 = 1 := ev30.trans (by decide +kernel)
        refine br_t (by decide +kernel) ?_
        refine Exists.intro 40 ?_
        refine br_t (by decide +kernel) ?_
        intro v31 ev31; obtain rfl : v31 = 0 := ev31.trans (by decide +kernel)
        intro v32 ev32; obtain rfl : v32 = 0 := ev32.trans (by decide +kernel)
        intro v33 ev33; obtain rfl : v33 = 0 := ev33.trans (by decide +kernel)
        intro v34 ev34; obtain rfl : v34 = 0 := ev34.trans (by decide +kernel)
        intro v35 ev35; obtain rfl : v35 = 0 := ev35.trans (by decide +kernel)
        intro v36 ev36; obtain rfl : v36 = 0 := ev36.trans (by decide +kernel)
        intro v37 ev37; obtain rfl : v37 = 0 := ev37.trans (by decide +kernel)
        intro v38 ev38; obtain rfl : v38 = 0 := ev38.trans (by decide +kernel)
        intro v39 ev39; obtain rfl : v39 = 0 := ev39.trans (by decide +kernel)
        exact h _ (((if_neg (by decide +kernel)).trans (if_neg (by decide +kernel))).symm) _ _ _ _ _
set_option maxHeartbeats 8000000 in
set_option maxRecDepth 200000 in
theorem fm_allripe (post : Int32 → Int32 → Int32 → (Nat → Int32) → Prop) (h : ∀ r : Int32, r = 0 → ∀ o0 : Int32, ∀ o1 : Int32, ∀ o2 : (Nat → Int32), post r o0 o1 o2) : wp_X10_allripe post 0 0 0 (upd (fun _ => 0) (17 : Int32).toNatClampNeg (-1)) (fun _ => 0) (fun _ => 0) (fun _ => 0) := by
  refine Exists.intro 40 ?_
  refine br_t (by decide +kernel) ?_
  intro v1 ev1; obtain rfl : v1 = 0 := ev1.trans (by decide +kernel)
  refine Exists.intro 40 ?_
  refine br_t (by decide +kernel) ?_
  intro v2 ev2; obtain rfl : v2 = 0 := ev2.trans (by decide +kernel)
  intro v3 ev3; obtain rfl : v3 = 0 := ev3.trans (by decide +kernel)
  refine Exists.intro 40 ?_
  refine Exists.intro 40 ?_
  refine br_t (by decide +kernel) ?_
  refine br_t (by decide +kernel) ?_
  intro v4 ev4; obtain rfl : v4 = 0 := ev4.trans (by decide +kernel)
  intro v5 ev5; obtain rfl : v5 = 0 := ev5.trans (by decide +kernel)
  intro v6 ev6; obtain rfl : v6 = 0 := ev6.trans (by decide +kernel)
  intro v7 ev7; obtain rfl : v7 = 0 := ev7.trans (by decide +kernel)
  intro v8 ev8; obtain rfl : v8 = 0 := ev8.trans (by decide +kernel)
  intro v9 ev9; obtain rfl : v9 = 0 := ev9.trans (by decide +kernel)
  intro v10 ev10; obtain rfl : v10 = 0 := ev10.trans (by decide +kernel)
  intro v11 ev11; obtain rfl : v11 = 0 := ev11.trans (by decide +kernel)
  intro v12 ev12; obtain rfl : v12 = 0 := ev12.trans (by decide +kernel)
  refine And.intro (g_in (by decide +kernel)) ?_
  intro v13 ev13; obtain rfl : v13 = 1 := ev13.trans (by decide +kernel)
  intro v14 ev14; obtain rfl : v14 = 0 := ev14.trans (by decide +kernel)
  refine Exists.intro 40 ?_
  refine br_t (by decide +kernel) ?_
  refine And.intro (g_in (by decide +kernel)) ?_
  intro v15 ev15; obtain rfl : v15 = 2 := ev15.trans (by decide +kernel)
  exact h _ (by decide +kernel) _ _ _
set_option maxHeartbeats 8000000 in
set_option maxRecDepth 200000 in
theorem fm_marks (post : Int32 → Int32 → Prop) (p0 : Int32) (p1 : Int32) (h : ∀ r : Int32, r = (if p0 < 0 then (-1) else (if 99 < p0 then (-1) else (if p1 < 0 then (-1) else (if 99 < p1 then (-1) else 0)))) → ∀ o0 : Int32, post r o0) : wp_X10_marks post p0 p1 0 0 (fun _ => 0) := by
  refine And.intro (fun hc1 => ?_) (fun hc1 => ?_)
  · skip
    refine br_t (by decide +kernel) ?_
    exact h _ ((if_pos ((fa_lt p0 0).mpr (by have l_0 : (0 : Int32).toInt = 0 := (by decide); have g_hc1 := (fa_lt p0 0).mp hc1; omega))).symm) _
  · skip
    refine And.intro (fun hc2 => ?_) (fun hc2 => ?_)
    · skip
      refine br_t (by decide +kernel) ?_
      exact h _ (((if_neg (fun q0 => absurd ((fa_lt p0 0).mp q0) (by have l_0 : (0 : Int32).toInt = 0 := (by decide); have l_1 : (99 : Int32).toInt = 99 := (by decide); have g_hc1 := mt (fa_lt p0 0).mpr hc1; have g_hc2 := (fa_lt 99 p0).mp hc2; omega))).trans (if_pos ((fa_lt 99 p0).mpr (by have l_0 : (0 : Int32).toInt = 0 := (by decide); have l_1 : (99 : Int32).toInt = 99 := (by decide); have g_hc1 := mt (fa_lt p0 0).mpr hc1; have g_hc2 := (fa_lt 99 p0).mp hc2; omega)))).symm) _
    · skip
      refine br_f (by decide +kernel) ?_
      refine And.intro (fun hc3 => ?_) (fun hc3 => ?_)
      · skip
        refine And.intro (fun h9 => absurd rfl h9) (fun _ => ?_)
        exact h _ ((((if_neg (fun q0 => absurd ((fa_lt p0 0).mp q0) (by have l_0 : (0 : Int32).toInt = 0 := (by decide); have l_1 : (99 : Int32).toInt = 99 := (by decide); have g_hc1 := mt (fa_lt p0 0).mpr hc1; have g_hc2 := mt (fa_lt 99 p0).mpr hc2; omega))).trans (if_neg (fun q0 => absurd ((fa_lt 99 p0).mp q0) (by have l_0 : (0 : Int32).toInt = 0 := (by decide); have l_1 : (99 : Int32).toInt = 99 := (by decide); have g_hc1 := mt (fa_lt p0 0).mpr hc1; have g_hc2 := mt (fa_lt 99 p0).mpr hc2; omega)))).trans (if_pos ((fa_lt p1 0).mpr (by have l_0 : (0 : Int32).toInt = 0 := (by decide); have g_hc3 := (fa_lt p1 0).mp hc3; omega)))).symm) _
      · skip
        refine And.intro (fun hc4 => ?_) (fun hc4 => ?_)
        · skip
          refine And.intro (fun h9 => absurd rfl h9) (fun _ => ?_)
          exact h _ (((((if_neg (fun q0 => absurd ((fa_lt p0 0).mp q0) (by have l_0 : (0 : Int32).toInt = 0 := (by decide); have l_1 : (99 : Int32).toInt = 99 := (by decide); have g_hc1 := mt (fa_lt p0 0).mpr hc1; have g_hc2 := mt (fa_lt 99 p0).mpr hc2; omega))).trans (if_neg (fun q0 => absurd ((fa_lt 99 p0).mp q0) (by have l_0 : (0 : Int32).toInt = 0 := (by decide); have l_1 : (99 : Int32).toInt = 99 := (by decide); have g_hc1 := mt (fa_lt p0 0).mpr hc1; have g_hc2 := mt (fa_lt 99 p0).mpr hc2; omega)))).trans (if_neg (fun q0 => absurd ((fa_lt p1 0).mp q0) (by have l_0 : (0 : Int32).toInt = 0 := (by decide); have l_1 : (99 : Int32).toInt = 99 := (by decide); have g_hc3 := mt (fa_lt p1 0).mpr hc3; have g_hc4 := (fa_lt 99 p1).mp hc4; omega)))).trans (if_pos ((fa_lt 99 p1).mpr (by have l_0 : (0 : Int32).toInt = 0 := (by decide); have l_1 : (99 : Int32).toInt = 99 := (by decide); have g_hc3 := mt (fa_lt p1 0).mpr hc3; have g_hc4 := (fa_lt 99 p1).mp hc4; omega)))).symm) _
        · skip
          refine And.intro (fun _ => ?_) (fun h9 => absurd h9 (by decide +kernel))
          refine Exists.intro 40 ?_
          refine br_t (by decide +kernel) ?_
          exact h _ (((((if_neg (fun q0 => absurd ((fa_lt p0 0).mp q0) (by have l_0 : (0 : Int32).toInt = 0 := (by decide); have l_1 : (99 : Int32).toInt = 99 := (by decide); have g_hc1 := mt (fa_lt p0 0).mpr hc1; have g_hc2 := mt (fa_lt 99 p0).mpr hc2; omega))).trans (if_neg (fun q0 => absurd ((fa_lt 99 p0).mp q0) (by have l_0 : (0 : Int32).toInt = 0 := (by decide); have l_1 : (99 : Int32).toInt = 99 := (by decide); have g_hc1 := mt (fa_lt p0 0).mpr hc1; have g_hc2 := mt (fa_lt 99 p0).mpr hc2; omega)))).trans (if_neg (fun q0 => absurd ((fa_lt p1 0).mp q0) (by have l_0 : (0 : Int32).toInt = 0 := (by decide); have l_1 : (99 : Int32).toInt = 99 := (by decide); have g_hc3 := mt (fa_lt p1 0).mpr hc3; have g_hc4 := mt (fa_lt 99 p1).mpr hc4; omega)))).trans (if_neg (fun q0 => absurd ((fa_lt 99 p1).mp q0) (by have l_0 : (0 : Int32).toInt = 0 := (by decide); have l_1 : (99 : Int32).toInt = 99 := (by decide); have g_hc3 := mt (fa_lt p1 0).mpr hc3; have g_hc4 := mt (fa_lt 99 p1).mpr hc4; omega)))).symm) _
set_option maxHeartbeats 8000000 in
set_option maxRecDepth 200000 in
theorem fm_grass (post : Int32 → Int32 → Int32 → Int32 → Nat → Int32 → Int32 → Int32 → Int32 → (Nat → Int32) → (Nat → Int32) → (Nat → Int32) → Prop) (p0 : Int32) (h : ∀ r : Int32, r = (if p0 < 0 then (-100) else (if 99 < p0 then (-100) else (-1))) → ∀ o0 : Int32, ∀ o1 : Int32, ∀ o2 : Int32, ∀ o3 : Nat, ∀ o4 : Int32, ∀ o5 : Int32, ∀ o6 : Int32, ∀ o7 : Int32, ∀ o8 : (Nat → Int32), ∀ o9 : (Nat → Int32), ∀ o10 : (Nat → Int32), post r o0 o1 o2 o3 o4 o5 o6 o7 o8 o9 o10) : wp_X10_grass post p0 0 0 0 0 0 0 0 0 0 (fun _ => 0) (fun _ => 0) (fun _ => 0) (fun _ => 0) (fun _ => 0) (fun _ => 0) := by
  refine And.intro (fun hc1 => ?_) (fun hc1 => ?_)
  · skip
    refine And.intro (fun h9 => absurd rfl h9) (fun _ => ?_)
    exact h _ ((if_pos ((fa_lt p0 0).mpr (by have l_0 : (0 : Int32).toInt = 0 := (by decide); have g_hc1 := (fa_lt p0 0).mp hc1; omega))).symm) _ _ _ _ _ _ _ _ _ _ _
  · skip
    refine And.intro (fun hc2 => ?_) (fun hc2 => ?_)
    · skip
      refine And.intro (fun h9 => absurd rfl h9) (fun _ => ?_)
      exact h _ (((if_neg (fun q0 => absurd ((fa_lt p0 0).mp q0) (by have l_0 : (0 : Int32).toInt = 0 := (by decide); have l_1 : (99 : Int32).toInt = 99 := (by decide); have g_hc1 := mt (fa_lt p0 0).mpr hc1; have g_hc2 := (fa_lt 99 p0).mp hc2; omega))).trans (if_pos ((fa_lt 99 p0).mpr (by have l_0 : (0 : Int32).toInt = 0 := (by decide); have l_1 : (99 : Int32).toInt = 99 := (by decide); have g_hc1 := mt (fa_lt p0 0).mpr hc1; have g_hc2 := (fa_lt 99 p0).mp hc2; omega)))).symm) _ _ _ _ _ _ _ _ _ _ _
    · skip
      refine And.intro (fun _ => ?_) (fun h9 => absurd h9 (by decide +kernel))
      refine Exists.intro 40 ?_
      refine br_f (by decide +kernel) ?_
      refine And.intro (fun h9 => absurd rfl h9) (fun _ => ?_)
      refine br_f (by decide +kernel) ?_
      refine And.intro (fun _ => ?_) (fun h9 => absurd h9 (by decide +kernel))
      refine And.intro (fun h9 => absurd rfl h9) (fun _ => ?_)
      refine And.intro (fun _ => ?_) (fun h9 => absurd h9 (by decide +kernel))
      refine Exists.intro 40 ?_
      refine br_f (by decide +kernel) ?_
      refine br_t (by decide +kernel) ?_
      refine br_t (by decide +kernel) ?_
      refine br_t (by decide +kernel) ?_
      refine And.intro (fun h9 => absurd rfl h9) (fun _ => ?_)
      refine And.intro (fun h9 => absurd rfl h9) (fun _ => ?_)
      refine br_f (by decide +kernel) ?_
      refine And.intro (g_in (by decide +kernel)) ?_
      intro v3 ev3; obtain rfl : v3 = 1 := ev3.trans (by decide +kernel)
      refine And.intro (fun _ => ?_) (fun h9 => absurd h9 (by decide +kernel))
      refine br_t (by decide +kernel) ?_
      refine br_t (by decide +kernel) ?_
      refine br_t (by decide +kernel) ?_
      refine And.intro (fun _ => ?_) (fun h9 => absurd h9 (by decide +kernel))
      refine And.intro (fun h9 => absurd rfl h9) (fun _ => ?_)
      exact h _ (((if_neg (fun q0 => absurd ((fa_lt p0 0).mp q0) (by have l_0 : (0 : Int32).toInt = 0 := (by decide); have l_1 : (99 : Int32).toInt = 99 := (by decide); have g_hc1 := mt (fa_lt p0 0).mpr hc1; have g_hc2 := mt (fa_lt 99 p0).mpr hc2; omega))).trans (if_neg (fun q0 => absurd ((fa_lt 99 p0).mp q0) (by have l_0 : (0 : Int32).toInt = 0 := (by decide); have l_1 : (99 : Int32).toInt = 99 := (by decide); have g_hc1 := mt (fa_lt p0 0).mpr hc1; have g_hc2 := mt (fa_lt 99 p0).mpr hc2; omega)))).symm) _ _ _ _ _ _ _ _ _ _ _
set_option maxHeartbeats 8000000 in
set_option maxRecDepth 200000 in
theorem fm_fits (post : Int32 → Int32 → Int32 → Int32 → (Nat → Int32) → (Nat → Int32) → Prop) (p0 : Int32) (h : ∀ r : Int32, r = (if p0 = 0 then 1 else (-1)) → ∀ o0 : Int32, ∀ o1 : Int32, ∀ o2 : Int32, ∀ o3 : (Nat → Int32), ∀ o4 : (Nat → Int32), post r o0 o1 o2 o3 o4) : wp_X10_fits post p0 0 0 0 0 0 (upd (fun _ => 0) (17 : Int32).toNatClampNeg (-1)) (fun _ => 0) (fun _ => 0) (fun _ => 0) (fun _ => 0) (fun _ => 0) (upd (upd (upd (upd (upd (fun _ => 0) (0 : Int32).toNatClampNeg 8) (1 : Int32).toNatClampNeg 3) (2 : Int32).toNatClampNeg 5) (3 : Int32).toNatClampNeg 1) (4 : Int32).toNatClampNeg 6) (fun _ => 0) (fun _ => 0) := by
  intro v1 ev1; obtain rfl : v1 = 1 := ev1.trans (by decide +kernel)
  refine And.intro (fun hc2 => ?_) (fun hc2 => ?_)
  · skip
    refine And.intro (fun h9 => absurd rfl h9) (fun _ => ?_)
    exact h _ ((if_neg (fun q0 => absurd ((fa_eq p0 0).mp q0) (by have l_0 : (0 : Int32).toInt = 0 := (by decide); have g_hc2 := (fa_lt p0 0).mp hc2; omega))).symm) _ _ _ _ _
  · skip
    refine And.intro (fun hc3 => ?_) (fun hc3 => ?_)
    · skip
      refine And.intro (fun h9 => absurd rfl h9) (fun _ => ?_)
      exact h _ ((if_neg (fun q0 => absurd ((fa_eq p0 0).mp q0) (by have l_0 : (0 : Int32).toInt = 0 := (by decide); have g_hc2 := mt (fa_lt p0 0).mpr hc2; have g_hc3 := (fa_lt 0 p0).mp hc3; omega))).symm) _ _ _ _ _
    · skip
      obtain rfl : p0 = 0 := (fa_eq _ _).mpr (by have l_0 : (0 : Int32).toInt = 0 := (by decide); have g_hc2 := mt (fa_lt p0 0).mpr hc2; have g_hc3 := mt (fa_lt 0 p0).mpr hc3; omega)
      refine And.intro (fun _ => ?_) (fun h9 => absurd h9 (by decide +kernel))
      intro v4 ev4; obtain rfl : v4 = 0 := ev4.trans (by decide +kernel)
      refine Exists.intro 40 ?_
      refine br_t (by decide +kernel) ?_
      refine Exists.intro 40 ?_
      refine br_t (by decide +kernel) ?_
      intro v5 ev5; obtain rfl : v5 = 0 := ev5.trans (by decide +kernel)
      refine Exists.intro 40 ?_
      refine br_t (by decide +kernel) ?_
      intro v6 ev6; obtain rfl : v6 = 0 := ev6.trans (by decide +kernel)
      intro v7 ev7; obtain rfl : v7 = 1 := ev7.trans (by decide +kernel)
      refine Exists.intro 40 ?_
      refine br_t (by decide +kernel) ?_
      intro v8 ev8; obtain rfl : v8 = 0 := ev8.trans (by decide +kernel)
      refine Exists.intro 40 ?_
      refine br_t (by decide +kernel) ?_
      refine Exists.intro 40 ?_
      intro v9 ev9; obtain rfl : v9 = 1 := ev9.trans (by decide +kernel)
      refine br_f (by decide +kernel) ?_
      refine And.intro (fun h9 => absurd rfl h9) (fun _ => ?_)
      refine Exists.intro 40 ?_
      refine br_t (by decide +kernel) ?_
      refine br_t (by decide +kernel) ?_
      intro v10 ev10; obtain rfl : v10 = 1 := ev10.trans (by decide +kernel)
      refine br_t (by decide +kernel) ?_
      refine br_t (by decide +kernel) ?_
      intro v11 ev11; obtain rfl : v11 = 1 := ev11.trans (by decide +kernel)
      intro v12 ev12; obtain rfl : v12 = 1 := ev12.trans (by decide +kernel)
      refine br_t (by decide +kernel) ?_
      refine And.intro (g_in (by decide +kernel)) ?_
      intro v13 ev13; obtain rfl : v13 = 1 := ev13.trans (by decide +kernel)
      refine And.intro (g_in (by decide +kernel)) ?_
      intro v14 ev14; obtain rfl : v14 = 2 := ev14.trans (by decide +kernel)
      exact h _ ((if_pos (by decide +kernel)).symm) _ _ _ _ _
