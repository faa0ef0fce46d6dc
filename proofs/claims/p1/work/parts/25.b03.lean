set_option maxHeartbeats 8000000 in
set_option maxRecDepth 200000 in
theorem fm_keep (post : Int32 → Int32 → (Nat → Int32) → (Nat → Int32) → (Nat → Int32) → Prop) (p0 : Int32) (h : ∀ r : Int32, r = (if p0 < 0 then 0 else (if 1 < p0 then 0 else 1)) → ∀ o0 : Int32, ∀ o1 : (Nat → Int32), ∀ o2 : (Nat → Int32), ∀ o3 : (Nat → Int32), post r o0 o1 o2 o3) : wp_X10_keep post p0 0 0 (upd (fun _ => 0) (17 : Int32).toNatClampNeg (-1)) (fun _ => 0) (fun _ => 0) (fun _ => 0) := by
  by_cases hc1 : p0 = 0
  · skip
    obtain rfl : p0 = 0 := (fa_eq _ _).mpr (by have l_0 : (0 : Int32).toInt = 0 := (by decide); have g_hc1 := (fa_eq p0 0).mp hc1; omega)
    refine br_f (by decide +kernel) ?_
    refine br_f (by decide +kernel) ?_
    refine And.intro (fun _ => ?_) (fun h9 => absurd h9 (by decide +kernel))
    refine And.intro (g_in (by decide +kernel)) ?_
    refine And.intro (g_in (by decide +kernel)) ?_
    intro v2 ev2; obtain rfl : v2 = 0 := ev2.trans (by decide +kernel)
    refine Exists.intro 40 ?_
    refine br_f (by decide +kernel) ?_
    intro v3 ev3; obtain rfl : v3 = 0 := ev3.trans (by decide +kernel)
    refine And.intro (g_in (by decide +kernel)) ?_
    intro v4 ev4; obtain rfl : v4 = 0 := ev4.trans (by decide +kernel)
    refine And.intro (g_in (by decide +kernel)) ?_
    intro v5 ev5; obtain rfl : v5 = 1 := ev5.trans (by decide +kernel)
    refine br_f (by decide +kernel) ?_
    intro v6 ev6; obtain rfl : v6 = 1 := ev6.trans (by decide +kernel)
    refine And.intro (g_in (by decide +kernel)) ?_
    intro v7 ev7; obtain rfl : v7 = 0 := ev7.trans (by decide +kernel)
    refine And.intro (g_in (by decide +kernel)) ?_
    intro v8 ev8; obtain rfl : v8 = 2 := ev8.trans (by decide +kernel)
    refine br_f (by decide +kernel) ?_
    intro v9 ev9; obtain rfl : v9 = 2 := ev9.trans (by decide +kernel)
    refine And.intro (g_in (by decide +kernel)) ?_
    intro v10 ev10; obtain rfl : v10 = 0 := ev10.trans (by decide +kernel)
    refine And.intro (g_in (by decide +kernel)) ?_
    intro v11 ev11; obtain rfl : v11 = 3 := ev11.trans (by decide +kernel)
    refine br_f (by decide +kernel) ?_
    intro v12 ev12; obtain rfl : v12 = 3 := ev12.trans (by decide +kernel)
    refine And.intro (g_in (by decide +kernel)) ?_
    intro v13 ev13; obtain rfl : v13 = 0 := ev13.trans (by decide +kernel)
    refine And.intro (g_in (by decide +kernel)) ?_
    intro v14 ev14; obtain rfl : v14 = 4 := ev14.trans (by decide +kernel)
    refine br_f (by decide +kernel) ?_
    intro v15 ev15; obtain rfl : v15 = 4 := ev15.trans (by decide +kernel)
    refine And.intro (g_in (by decide +kernel)) ?_
    intro v16 ev16; obtain rfl : v16 = 0 := ev16.trans (by decide +kernel)
    refine And.intro (g_in (by decide +kernel)) ?_
    intro v17 ev17; obtain rfl : v17 = 5 := ev17.trans (by decide +kernel)
    refine br_f (by decide +kernel) ?_
    intro v18 ev18; obtain rfl : v18 = 5 := ev18.trans (by decide +kernel)
    refine And.intro (g_in (by decide +kernel)) ?_
    intro v19 ev19; obtain rfl : v19 = 0 := ev19.trans (by decide +kernel)
    refine And.intro (g_in (by decide +kernel)) ?_
    intro v20 ev20; obtain rfl : v20 = 6 := ev20.trans (by decide +kernel)
    refine br_f (by decide +kernel) ?_
    intro v21 ev21; obtain rfl : v21 = 6 := ev21.trans (by decide +kernel)
    refine And.intro (g_in (by decide +kernel)) ?_
    intro v22 ev22; obtain rfl : v22 = 0 := ev22.trans (by decide +kernel)
    refine And.intro (g_in (by decide +kernel)) ?_
    intro v23 ev23; obtain rfl : v23 = 7 := ev23.trans (by decide +kernel)
    refine br_f (by decide +kernel) ?_
    intro v24 ev24; obtain rfl : v24 = 7 := ev24.trans (by decide +kernel)
    refine And.intro (g_in (by decide +kernel)) ?_
    intro v25 ev25; obtain rfl : v25 = 0 := ev25.trans (by decide +kernel)
    refine And.intro (g_in (by decide +kernel)) ?_
    intro v26 ev26; obtain rfl : v26 = 8 := ev26.trans (by decide +kernel)
    refine br_f (by decide +kernel) ?_
    intro v27 ev27; obtain rfl : v27 = 8 := ev27.trans (by decide +kernel)
    refine And.intro (g_in (by decide +kernel)) ?_
    intro v28 ev28; obtain rfl : v28 = 0 := ev28.trans (by decide +kernel)
    refine And.intro (g_in (by decide +kernel)) ?_
    intro v29 ev29; obtain rfl : v29 = 9 := ev29.trans (by decide +kernel)
    refine br_f (by decide +kernel) ?_
    intro v30 ev30; obtain rfl : v30 = 9 := ev30.trans (by decide +kernel)
    refine And.intro (g_in (by decide +kernel)) ?_
    intro v31 ev31; obtain rfl : v31 = 0 := ev31.trans (by decide +kernel)
    refine And.intro (g_in (by decide +kernel)) ?_
    intro v32 ev32; obtain rfl : v32 = 10 := ev32.trans (by decide +kernel)
    refine br_f (by decide +kernel) ?_
    intro v33 ev33; obtain rfl : v33 = 10 := ev33.trans (by decide +kernel)
    refine And.intro (g_in (by decide +kernel)) ?_
    intro v34 ev34; obtain rfl : v34 = 0 := ev34.trans (by decide +kernel)
    refine And.intro (g_in (by decide +kernel)) ?_
    intro v35 ev35; obtain rfl : v35 = 11 := ev35.trans (by decide +kernel)
    refine br_f (by decide +kernel) ?_
    intro v36 ev36; obtain rfl : v36 = 11 := ev36.trans (by decide +kernel)
    refine And.intro (g_in (by decide +kernel)) ?_
    intro v37 ev37; obtain rfl : v37 = 0 := ev37.trans (by decide +kernel)
    refine And.intro (g_in (by decide +kernel)) ?_
    intro v38 ev38; obtain rfl : v38 = 12 := ev38.trans (by decide +kernel)
    refine br_f (by decide +kernel) ?_
    intro v39 ev39; obtain rfl : v39 = 12 := ev39.trans (by decide +kernel)
    refine And.intro (g_in (by decide +kernel)) ?_
    intro v40 ev40; obtain rfl : v40 = 0 := ev40.trans (by decide +kernel)
    refine And.intro (g_in (by decide +kernel)) ?_
    intro v41 ev41; obtain rfl : v41 = 13 := ev41.trans (by decide +kernel)
    refine br_f (by decide +kernel) ?_
    intro v42 ev42; obtain rfl : v42 = 13 := ev42.trans (by decide +kernel)
    refine And.intro (g_in (by decide +kernel)) ?_
    intro v43 ev43; obtain rfl : v43 = 0 := ev43.trans (by decide +kernel)
    refine And.intro (g_in (by decide +kernel)) ?_
    intro v44 ev44; obtain rfl : v44 = 14 := ev44.trans (by decide +kernel)
    refine br_f (by decide +kernel) ?_
    intro v45 ev45; obtain rfl : v45 = 14 := ev45.trans (by decide +kernel)
    refine And.intro (g_in (by decide +kernel)) ?_
    intro v46 ev46; obtain rfl : v46 = 0 := ev46.trans (by decide +kernel)
    refine And.intro (g_in (by decide +kernel)) ?_
    intro v47 ev47; obtain rfl : v47 = 15 := ev47.trans (by decide +kernel)
    refine br_f (by decide +kernel) ?_
    intro v48 ev48; obtain rfl : v48 = 15 := ev48.trans (by decide +kernel)
    refine And.intro (g_in (by decide +kernel)) ?_
    intro v49 ev49; obtain rfl : v49 = 0 := ev49.trans (by decide +kernel)
    refine And.intro (g_in (by decide +kernel)) ?_
    intro v50 ev50; obtain rfl : v50 = 16 := ev50.trans (by decide +kernel)
    refine br_f (by decide +kernel) ?_
    intro v51 ev51; obtain rfl : v51 = 16 := ev51.trans (by decide +kernel)
    refine And.intro (g_in (by decide +kernel)) ?_
    intro v52 ev52; obtain rfl : v52 = 0 := ev52.trans (by decide +kernel)
    refine And.intro (g_in (by decide +kernel)) ?_
    intro v53 ev53; obtain rfl : v53 = 17 := ev53.trans (by decide +kernel)
    refine br_f (by decide +kernel) ?_
    intro v54 ev54; obtain rfl : v54 = 17 := ev54.trans (by decide +kernel)
    refine And.intro (g_in (by decide +kernel)) ?_
    intro v55 ev55; obtain rfl : v55 = (-1) := ev55.trans (by decide +kernel)
    refine And.intro (g_in (by decide +kernel)) ?_
    intro v56 ev56; obtain rfl : v56 = 18 := ev56.trans (by decide +kernel)
    refine br_f (by decide +kernel) ?_
    intro v57 ev57; obtain rfl : v57 = 18 := ev57.trans (by decide +kernel)
    refine And.intro (g_in (by decide +kernel)) ?_
    intro v58 ev58; obtain rfl : v58 = 0 := ev58.trans (by decide +kernel)
    refine And.intro (g_in (by decide +kernel)) ?_
    intro v59 ev59; obtain rfl : v59 = 19 := ev59.trans (by decide +kernel)
    refine br_f (by decide +kernel) ?_
    intro v60 ev60; obtain rfl : v60 = 19 := ev60.trans (by decide +kernel)
    refine And.intro (g_in (by decide +kernel)) ?_
    intro v61 ev61; obtain rfl : v61 = 0 := ev61.trans (by decide +kernel)
    refine And.intro (g_in (by decide +kernel)) ?_
    intro v62 ev62; obtain rfl : v62 = 20 := ev62.trans (by decide +kernel)
    refine br_f (by decide +kernel) ?_
    intro v63 ev63; obtain rfl : v63 = 20 := ev63.trans (by decide +kernel)
    refine And.intro (g_in (by decide +kernel)) ?_
    intro v64 ev64; obtain rfl : v64 = 0 := ev64.trans (by decide +kernel)
    refine And.intro (g_in (by decide +kernel)) ?_
    intro v65 ev65; obtain rfl : v65 = 21 := ev65.trans (by decide +kernel)
    refine br_t (by decide +kernel) ?_
    exact h _ (((if_neg (by decide +kernel)).trans (if_neg (by decide +kernel))).symm) _ _ _ _
  by_cases hc66 : p0 = 1
  · skip
    obtain rfl : p0 = 1 := (fa_eq _ _).mpr (by have l_0 : (0 : Int32).toInt = 0 := (by decide); have l_1 : (1 : Int32).toInt = 1 := (by decide); have g_hc1 := mt (fa_eq p0 0).mpr hc1; have g_hc66 := (fa_eq p0 1).mp hc66; omega)
    refine br_f (by decide +kernel) ?_
    refine br_f (by decide +kernel) ?_
    refine And.intro (fun _ => ?_) (fun h9 => absurd h9 (by decide +kernel))
    refine And.intro (g_in (by decide +kernel)) ?_
    refine And.intro (g_in (by decide +kernel)) ?_
    intro v67 ev67; obtain rfl : v67 = 21 := ev67.trans (by decide +kernel)
    refine Exists.intro 40 ?_
    refine br_f (by decide +kernel) ?_
    intro v68 ev68; obtain rfl : v68 = 21 := ev68.trans (by decide +kernel)
    refine And.intro (g_in (by decide +kernel)) ?_
    intro v69 ev69; obtain rfl : v69 = 0 := ev69.trans (by decide +kernel)
    refine And.intro (g_in (by decide +kernel)) ?_
    intro v70 ev70; obtain rfl : v70 = 1 := ev70.trans (by decide +kernel)
    refine br_f (by decide +kernel) ?_
    intro v71 ev71; obtain rfl : v71 = 22 := ev71.trans (by decide +kernel)
    refine And.intro (g_in (by decide +kernel)) ?_
    intro v72 ev72; obtain rfl : v72 = 0 := ev72.trans (by decide +kernel)
    refine And.intro (g_in (by decide +kernel)) ?_
    intro v73 ev73; obtain rfl : v73 = 2 := ev73.trans (by decide +kernel)
    refine br_f (by decide +kernel) ?_
    intro v74 ev74; obtain rfl : v74 = 23 := ev74.trans (by decide +kernel)
    refine And.intro (g_in (by decide +kernel)) ?_
    intro v75 ev75; obtain rfl : v75 = 0 := ev75.trans (by decide +kernel)
    refine And.intro (g_in (by decide +kernel)) ?_
    intro v76 ev76; obtain rfl : v76 = 3 := ev76.trans (by decide +kernel)
    refine br_f (by decide +kernel) ?_
    intro v77 ev77; obtain rfl : v77 = 24 := ev77.trans (by decide +kernel)
    refine And.intro (g_in (by decide +kernel)) ?_
    intro v78 ev78; obtain rfl : v78 = 0 := ev78.trans (by decide +kernel)
    refine And.intro (g_in (by decide +kernel)) ?_
    intro v79 ev79; obtain rfl : v79 = 4 := ev79.trans (by decide +kernel)
    refine br_f (by decide +kernel) ?_
    intro v80 ev80; obtain rfl : v80 = 25 := ev80.trans (by decide +kernel)
    refine And.intro (g_in (by decide +kernel)) ?_
    intro v81 ev81; obtain rfl : v81 = 0 := ev81.trans (by decide +kernel)
    refine And.intro (g_in (by decide +kernel)) ?_
    intro v82 ev82; obtain rfl : v82 = 5 := ev82.trans (by decide +kernel)
    refine br_f (by decide +kernel) ?_
    intro v83 ev83; obtain rfl : v83 = 26 := ev83.trans (by decide +kernel)
    refine And.intro (g_in (by decide +kernel)) ?_
    intro v84 ev84; obtain rfl : v84 = 0 := ev84.trans (by decide +kernel)
    refine And.intro (g_in (by decide +kernel)) ?_
    intro v85 ev85; obtain rfl : v85 = 6 := ev85.trans (by decide +kernel)
    refine br_f (by decide +kernel) ?_
    intro v86 ev86; obtain rfl : v86 = 27 := ev86.trans (by decide +kernel)
    refine And.intro (g_in (by decide +kernel)) ?_
    intro v87 ev87; obtain rfl : v87 = 0 := ev87.trans (by decide +kernel)
    refine And.intro (g_in (by decide +kernel)) ?_
    intro v88 ev88; obtain rfl : v88 = 7 := ev88.trans (by decide +kernel)
    refine br_f (by decide +kernel) ?_
    intro v89 ev89; obtain rfl : v89 = 28 := ev89.trans (by decide +kernel)
    refine And.intro (g_in (by decide +kernel)) ?_
    intro v90 ev90; obtain rfl : v90 = 0 := ev90.trans (by decide +kernel)
    refine And.intro (g_in (by decide +kernel)) ?_
    intro v91 ev91; obtain rfl : v91 = 8 := ev91.trans (by decide +kernel)
    refine br_f (by decide +kernel) ?_
    intro v92 ev92; obtain rfl : v92 = 29 := ev92.trans (by decide +kernel)
    refine And.intro (g_in (by decide +kernel)) ?_
    intro v93 ev93; obtain rfl : v93 = 0 := ev93.trans (by decide +kernel)
    refine And.intro (g_in (by decide +kernel)) ?_
    intro v94 ev94; obtain rfl : v94 = 9 := ev94.trans (by decide +kernel)
    refine br_f (by decide +kernel) ?_
    intro v95 ev95; obtain rfl : v95 = 30 := ev95.trans (by decide +kernel)
    refine And.intro (g_in (by decide +kernel)) ?_
    intro v96 ev96; obtain rfl : v96 = 0 := ev96.trans (by decide +kernel)
    refine And.intro (g_in (by decide +kernel)) ?_
    intro v97 ev97; obtain rfl : v97 = 10 := ev97.trans (by decide +kernel)
    refine br_f (by decide +kernel) ?_
    intro v98 ev98; obtain rfl : v98 = 31 := ev98.trans (by decide +kernel)
    refine And.intro (g_in (by decide +kernel)) ?_
    intro v99 ev99; obtain rfl : v99 = 0 := ev99.trans (by decide +kernel)
    refine And.intro (g_in (by decide +kernel)) ?_
    intro v100 ev100; obtain rfl : v100 = 11 := ev100.trans (by decide +kernel)
    refine br_f (by decide +kernel) ?_
    intro v101 ev101; obtain rfl : v101 = 32 := ev101.trans (by decide +kernel)
    refine And.intro (g_in (by decide +kernel)) ?_
    intro v102 ev102; obtain rfl : v102 = 0 := ev102.trans (by decide +kernel)
    refine And.intro (g_in (by decide +kernel)) ?_
    intro v103 ev103; obtain rfl : v103 = 12 := ev103.trans (by decide +kernel)
    refine br_f (by decide +kernel) ?_
    intro v104 ev104; obtain rfl : v104 = 33 := ev104.trans (by decide +kernel)
    refine And.intro (g_in (by decide +kernel)) ?_
    intro v105 ev105; obtain rfl : v105 = 0 := ev105.trans (by decide +kernel)
    refine And.intro (g_in (by decide +kernel)) ?_
    intro v106 ev106; obtain rfl : v106 = 13 := ev106.trans (by decide +kernel)
    refine br_f (by decide +kernel) ?_
    intro v107 ev107; obtain rfl : v107 = 34 := ev107.trans (by decide +kernel)
    refine And.intro (g_in (by decide +kernel)) ?_
    intro v108 ev108; obtain rfl : v108 = 0 := ev108.trans (by decide +kernel)
    refine And.intro (g_in (by decide +kernel)) ?_
    intro v109 ev109; obtain rfl : v109 = 14 := ev109.trans (by decide +kernel)
    refine br_f (by decide +kernel) ?_
    intro v110 ev110; obtain rfl : v110 = 35 := ev110.trans (by decide +kernel)
    refine And.intro (g_in (by decide +kernel)) ?_
    intro v111 ev111; obtain rfl : v111 = 0 := ev111.trans (by decide +kernel)
    refine And.intro (g_in (by decide +kernel)) ?_
    intro v112 ev112; obtain rfl : v112 = 15 := ev112.trans (by decide +kernel)
    refine br_f (by decide +kernel) ?_
    intro v113 ev113; obtain rfl : v113 = 36 := ev113.trans (by decide +kernel)
    refine And.intro (g_in (by decide +kernel)) ?_
    intro v114 ev114; obtain rfl : v114 = 0 := ev114.trans (by decide +kernel)
    refine And.intro (g_in (by decide +kernel)) ?_
    intro v115 ev115; obtain rfl : v115 = 16 := ev115.trans (by decide +kernel)
    refine br_f (by decide +kernel) ?_
    intro v116 ev116; obtain rfl : v116 = 37 := ev116.trans (by decide +kernel)
    refine And.intro (g_in (by decide +kernel)) ?_
    intro v117 ev117; obtain rfl : v117 = 0 := ev117.trans (by decide +kernel)
    refine And.intro (g_in (by decide +kernel)) ?_
    intro v118 ev118; obtain rfl : v118 = 17 := ev118.trans (by decide +kernel)
    refine br_f (by decide +kernel) ?_
    intro v119 ev119; obtain rfl : v119 = 38 := ev119.trans (by decide +kernel)
    refine And.intro (g_in (by decide +kernel)) ?_
    intro v120 ev120; obtain rfl : v120 = (-1) := ev120.trans (by decide +kernel)
    refine And.intro (g_in (by decide +kernel)) ?_
    intro v121 ev121; obtain rfl : v121 = 18 := ev121.trans (by decide +kernel)
    refine br_f (by decide +kernel) ?_
    intro v122 ev122; obtain rfl : v122 = 39 := ev122.trans (by decide +kernel)
    refine And.intro (g_in (by decide +kernel)) ?_
    intro v123 ev123; obtain rfl : v123 = 0 := ev123.trans (by decide +kernel)
    refine And.intro (g_in (by decide +kernel)) ?_
    intro v124 ev124; obtain rfl : v124 = 19 := ev124.trans (by decide +kernel)
    refine br_f (by decide +kernel) ?_
    intro v125 ev125; obtain rfl : v125 = 40 := ev125.trans (by decide +kernel)
    refine And.intro (g_in (by decide +kernel)) ?_
    intro v126 ev126; obtain rfl : v126 = 0 := ev126.trans (by decide +kernel)
    refine And.intro (g_in (by decide +kernel)) ?_
    intro v127 ev127; obtain rfl : v127 = 20 := ev127.trans (by decide +kernel)
    refine br_f (by decide +kernel) ?_
    intro v128 ev128; obtain rfl : v128 = 41 := ev128.trans (by decide +kernel)
    refine And.intro (g_in (by decide +kernel)) ?_
    intro v129 ev129; obtain rfl : v129 = 0 := ev129.trans (by decide +kernel)
    refine And.intro (g_in (by decide +kernel)) ?_
    intro v130 ev130; obtain rfl : v130 = 21 := ev130.trans (by decide +kernel)
    refine br_t (by decide +kernel) ?_
    exact h _ (((if_neg (by decide +kernel)).trans (if_neg (by decide +kernel))).symm) _ _ _ _
  refine And.intro (fun hc131 => ?_) (fun hc131 => ?_)
  · skip
    refine And.intro (fun h9 => absurd rfl h9) (fun _ => ?_)
    exact h _ ((if_pos ((fa_lt p0 0).mpr (by have l_0 : (0 : Int32).toInt = 0 := (by decide); have l_1 : (1 : Int32).toInt = 1 := (by decide); have g_hc1 := mt (fa_eq p0 0).mpr hc1; have g_hc66 := mt (fa_eq p0 1).mpr hc66; have g_hc131 := (fa_lt p0 0).mp hc131; omega))).symm) _ _ _ _
  · skip
    refine br_t ((fa_lt 1 p0).mpr (by have l_0 : (0 : Int32).toInt = 0 := (by decide); have l_1 : (1 : Int32).toInt = 1 := (by decide); have g_hc1 := mt (fa_eq p0 0).mpr hc1; have g_hc66 := mt (fa_eq p0 1).mpr hc66; have g_hc131 := mt (fa_lt p0 0).mpr hc131; omega)) ?_
    refine And.intro (fun h9 => absurd rfl h9) (fun _ => ?_)
    exact h _ (((if_neg (fun q0 => absurd ((fa_lt p0 0).mp q0) (by have l_0 : (0 : Int32).toInt = 0 := (by decide); have l_1 : (1 : Int32).toInt = 1 := (by decide); have g_hc1 := mt (fa_eq p0 0).mpr hc1; have g_hc66 := mt (fa_eq p0 1).mpr hc66; have g_hc131 := mt (fa_lt p0 0).mpr hc131; omega))).trans (if_pos ((fa_lt 1 p0).mpr (by have l_0 : (0 : Int32).toInt = 0 := (by decide); have l_1 : (1 : Int32).toInt = 1 := (by decide); have g_hc1 := mt (fa_eq p0 0).mpr hc1; have g_hc66 := mt (fa_eq p0 1).mpr hc66; have g_hc131 := mt (fa_lt p0 0).mpr hc131; omega)))).symm) _ _ _ _
set_option maxHeartbeats 8000000 in
set_option maxRecDepth 200000 in
theorem fm_again (post : Int32 → Int32 → Int32 → (Nat → Int32) → Prop) (p0 : Int32) (h : ∀ r : Int32, r = 0 → ∀ o0 : Int32, ∀ o1 : Int32, ∀ o2 : (Nat → Int32), post r o0 o1 o2) : wp_X10_again post p0 0 0 0 (upd (fun _ => 0) (17 : Int32).toNatClampNeg (-1)) (fun _ => 0) (fun _ => 0) (fun _ => 0) := by
  by_cases hc1 : p0 = 0
  · skip
    obtain rfl : p0 = 0 := (fa_eq _ _).mpr (by have l_0 : (0 : Int32).toInt = 0 := (by decide); have g_hc1 := (fa_eq p0 0).mp hc1; omega)
    refine br_f (by decide +kernel) ?_
    refine br_f (by decide +kernel) ?_
    refine br_f (by decide +kernel) ?_
    refine And.intro (g_in (by decide +kernel)) ?_
    refine br_t (by decide +kernel) ?_
    exact h _ (by decide +kernel) _ _ _
  by_cases hc2 : p0 = 1
  · skip
    obtain rfl : p0 = 1 := (fa_eq _ _).mpr (by have l_0 : (0 : Int32).toInt = 0 := (by decide); have l_1 : (1 : Int32).toInt = 1 := (by decide); have g_hc1 := mt (fa_eq p0 0).mpr hc1; have g_hc2 := (fa_eq p0 1).mp hc2; omega)
    refine br_f (by decide +kernel) ?_
    refine br_f (by decide +kernel) ?_
    refine br_f (by decide +kernel) ?_
    refine And.intro (g_in (by decide +kernel)) ?_
    refine br_t (by decide +kernel) ?_
    exact h _ (by decide +kernel) _ _ _
  refine And.intro (fun hc3 => ?_) (fun hc3 => ?_)
  · skip
    refine br_t (by decide +kernel) ?_
    exact h _ (by decide +kernel) _ _ _
  · skip
    refine br_t ((fa_lt 1 p0).mpr (by have l_0 : (0 : Int32).toInt = 0 := (by decide); have l_1 : (1 : Int32).toInt = 1 := (by decide); have g_hc1 := mt (fa_eq p0 0).mpr hc1; have g_hc2 := mt (fa_eq p0 1).mpr hc2; have g_hc3 := mt (fa_lt p0 0).mpr hc3; omega)) ?_
    refine br_t (by decide +kernel) ?_
    exact h _ (by decide +kernel) _ _ _
set_option maxHeartbeats 8000000 in
set_option maxRecDepth 200000 in
theorem fm_count (post : Int32 → Int32 → Prop) (p0 : Int32) (h : ∀ r : Int32, r = (if p0 = 2 then (-1) else (if p0 = 0 then 0 else (if p0 = 1 then 0 else (if p0 = 3 then 0 else (if p0 = 4 then 0 else (if p0 = 5 then 0 else (if p0 = 6 then 0 else (if p0 = 7 then 0 else (if p0 = 8 then 0 else (if p0 = 9 then 0 else (if p0 = 10 then 0 else (if p0 = 11 then 0 else (if p0 = 12 then 0 else (if p0 = 13 then 0 else (-100))))))))))))))) → ∀ o0 : Int32, post r o0) : wp_X10_count post p0 0 0 0 0 0 0 (upd (fun _ => 0) (17 : Int32).toNatClampNeg (-1)) (fun _ => 0) := by
  refine And.intro (fun hc1 => ?_) ?_
  · skip
    obtain rfl : p0 = 0 := (fa_eq _ _).mpr (by have l_0 : (0 : Int32).toInt = 0 := (by decide); have g_hc1 := (fa_eq p0 0).mp hc1; omega)
    exact h _ (((if_neg (by decide +kernel)).trans (if_pos (by decide +kernel))).symm) _
  refine And.intro (fun hc2 => ?_) ?_
  · skip
    obtain rfl : p0 = 1 := (fa_eq _ _).mpr (by have l_0 : (1 : Int32).toInt = 1 := (by decide); have g_hc2 := (fa_eq p0 1).mp hc2; omega)
    exact h _ ((((if_neg (by decide +kernel)).trans (if_neg (by decide +kernel))).trans (if_pos (by decide +kernel))).symm) _
  refine And.intro (fun hc3 => ?_) ?_
  · skip
    obtain rfl : p0 = 2 := (fa_eq _ _).mpr (by have l_0 : (2 : Int32).toInt = 2 := (by decide); have g_hc3 := (fa_eq p0 2).mp hc3; omega)
    exact h _ ((if_pos (by decide +kernel)).symm) _
  refine And.intro (fun hc4 => ?_) ?_
  · skip
    obtain rfl : p0 = 3 := (fa_eq _ _).mpr (by have l_0 : (3 : Int32).toInt = 3 := (by decide); have g_hc4 := (fa_eq p0 3).mp hc4; omega)
    exact h _ (((((if_neg (by decide +kernel)).trans (if_neg (by decide +kernel))).trans (if_neg (by decide +kernel))).trans (if_pos (by decide +kernel))).symm) _
  refine And.intro (fun hc5 => ?_) ?_
  · skip
    obtain rfl : p0 = 4 := (fa_eq _ _).mpr (by have l_0 : (4 : Int32).toInt = 4 := (by decide); have g_hc5 := (fa_eq p0 4).mp hc5; omega)
    exact h _ ((((((if_neg (by decide +kernel)).trans (if_neg (by decide +kernel))).trans (if_neg (by decide +kernel))).trans (if_neg (by decide +kernel))).trans (if_pos (by decide +kernel))).symm) _
  refine And.intro (fun hc6 => ?_) ?_
  · skip
    obtain rfl : p0 = 5 := (fa_eq _ _).mpr (by have l_0 : (5 : Int32).toInt = 5 := (by decide); have g_hc6 := (fa_eq p0 5).mp hc6; omega)
    intro v7 ev7; obtain rfl : v7 = 0 := ev7.trans (by decide +kernel)
    refine Exists.intro 40 ?_
    refine br_t (by decide +kernel) ?_
    exact h _ (((((((if_neg (by decide +kernel)).trans (if_neg (by decide +kernel))).trans (if_neg (by decide +kernel))).trans (if_neg (by decide +kernel))).trans (if_neg (by decide +kernel))).trans (if_pos (by decide +kernel))).symm) _
  refine And.intro (fun hc8 => ?_) ?_
  · skip
    obtain rfl : p0 = 6 := (fa_eq _ _).mpr (by have l_0 : (6 : Int32).toInt = 6 := (by decide); have g_hc8 := (fa_eq p0 6).mp hc8; omega)
    intro v9 ev9; obtain rfl : v9 = 1 := ev9.trans (by decide +kernel)
    refine Exists.intro 40 ?_
    refine br_t (by decide +kernel) ?_
    exact h _ ((((((((if_neg (by decide +kernel)).trans (if_neg (by decide +kernel))).trans (if_neg (by decide +kernel))).trans (if_neg (by decide +kernel))).trans (if_neg (by decide +kernel))).trans (if_neg (by decide +kernel))).trans (if_pos (by decide +kernel))).symm) _
  refine And.intro (fun hc10 => ?_) ?_
  · skip
    obtain rfl : p0 = 7 := (fa_eq _ _).mpr (by have l_0 : (7 : Int32).toInt = 7 := (by decide); have g_hc10 := (fa_eq p0 7).mp hc10; omega)
    intro v11 ev11; obtain rfl : v11 = 2 := ev11.trans (by decide +kernel)
    refine Exists.intro 40 ?_
    refine br_t (by decide +kernel) ?_
    exact h _ (((((((((if_neg (by decide +kernel)).trans (if_neg (by decide +kernel))).trans (if_neg (by decide +kernel))).trans (if_neg (by decide +kernel))).trans (if_neg (by decide +kernel))).trans (if_neg (by decide +kernel))).trans (if_neg (by decide +kernel))).trans (if_pos (by decide +kernel))).symm) _
  refine And.intro (fun hc12 => ?_) ?_
  · skip
    obtain rfl : p0 = 8 := (fa_eq _ _).mpr (by have l_0 : (8 : Int32).toInt = 8 := (by decide); have g_hc12 := (fa_eq p0 8).mp hc12; omega)
    intro v13 ev13; obtain rfl : v13 = 3 := ev13.trans (by decide +kernel)
    refine Exists.intro 40 ?_
    refine br_t (by decide +kernel) ?_
    exact h _ ((((((((((if_neg (by decide +kernel)).trans (if_neg (by decide +kernel))).trans (if_neg (by decide +kernel))).trans (if_neg (by decide +kernel))).trans (if_neg (by decide +kernel))).trans (if_neg (by decide +kernel))).trans (if_neg (by decide +kernel))).trans (if_neg (by decide +kernel))).trans (if_pos (by decide +kernel))).symm) _
  refine And.intro (fun hc14 => ?_) ?_
  · skip
    obtain rfl : p0 = 9 := (fa_eq _ _).mpr (by have l_0 : (9 : Int32).toInt = 9 := (by decide); have g_hc14 := (fa_eq p0 9).mp hc14; omega)
    exact h _ (((((((((((if_neg (by decide +kernel)).trans (if_neg (by decide +kernel))).trans (if_neg (by decide +kernel))).trans (if_neg (by decide +kernel))).trans (if_neg (by decide +kernel))).trans (if_neg (by decide +kernel))).trans (if_neg (by decide +kernel))).trans (if_neg (by decide +kernel))).trans (if_neg (by decide +kernel))).trans (if_pos (by decide +kernel))).symm) _
  refine And.intro (fun hc15 => ?_) ?_
  · skip
    obtain rfl : p0 = 10 := (fa_eq _ _).mpr (by have l_0 : (10 : Int32).toInt = 10 := (by decide); have g_hc15 := (fa_eq p0 10).mp hc15; omega)
    refine Exists.intro 40 ?_
    refine br_t (by decide +kernel) ?_
    intro v16 ev16; obtain rfl : v16 = 0 := ev16.trans (by decide +kernel)
    refine Exists.intro 40 ?_
    refine br_t (by decide +kernel) ?_
    exact h _ ((((((((((((if_neg (by decide +kernel)).trans (if_neg (by decide +kernel))).trans (if_neg (by decide +kernel))).trans (if_neg (by decide +kernel))).trans (if_neg (by decide +kernel))).trans (if_neg (by decide +kernel))).trans (if_neg (by decide +kernel))).trans (if_neg (by decide +kernel))).trans (if_neg (by decide +kernel))).trans (if_neg (by decide +kernel))).trans (if_pos (by decide +kernel))).symm) _
  refine And.intro (fun hc17 => ?_) ?_
  · skip
    obtain rfl : p0 = 11 := (fa_eq _ _).mpr (by have l_0 : (11 : Int32).toInt = 11 := (by decide); have g_hc17 := (fa_eq p0 11).mp hc17; omega)
    exact h _ (((((((((((((if_neg (by decide +kernel)).trans (if_neg (by decide +kernel))).trans (if_neg (by decide +kernel))).trans (if_neg (by decide +kernel))).trans (if_neg (by decide +kernel))).trans (if_neg (by decide +kernel))).trans (if_neg (by decide +kernel))).trans (if_neg (by decide +kernel))).trans (if_neg (by decide +kernel))).trans (if_neg (by decide +kernel))).trans (if_neg (by decide +kernel))).trans (if_pos (by decide +kernel))).symm) _
  refine And.intro (fun hc18 => ?_) ?_
  · skip
    obtain rfl : p0 = 12 := (fa_eq _ _).mpr (by have l_0 : (12 : Int32).toInt = 12 := (by decide); have g_hc18 := (fa_eq p0 12).mp hc18; omega)
    exact h _ ((((((((((((((if_neg (by decide +kernel)).trans (if_neg (by decide +kernel))).trans (if_neg (by decide +kernel))).trans (if_neg (by decide +kernel))).trans (if_neg (by decide +kernel))).trans (if_neg (by decide +kernel))).trans (if_neg (by decide +kernel))).trans (if_neg (by decide +kernel))).trans (if_neg (by decide +kernel))).trans (if_neg (by decide +kernel))).trans (if_neg (by decide +kernel))).trans (if_neg (by decide +kernel))).trans (if_pos (by decide +kernel))).symm) _
  refine And.intro (fun hc19 => ?_) ?_
  · skip
    obtain rfl : p0 = 13 := (fa_eq _ _).mpr (by have l_0 : (13 : Int32).toInt = 13 := (by decide); have g_hc19 := (fa_eq p0 13).mp hc19; omega)
    exact h _ (((((((((((((((if_neg (by decide +kernel)).trans (if_neg (by decide +kernel))).trans (if_neg (by decide +kernel))).trans (if_neg (by decide +kernel))).trans (if_neg (by decide +kernel))).trans (if_neg (by decide +kernel))).trans (if_neg (by decide +kernel))).trans (if_neg (by decide +kernel))).trans (if_neg (by decide +kernel))).trans (if_neg (by decide +kernel))).trans (if_neg (by decide +kernel))).trans (if_neg (by decide +kernel))).trans (if_neg (by decide +kernel))).trans (if_pos (by decide +kernel))).symm) _
  intro hc20 hc21 hc22 hc23 hc24 hc25 hc26 hc27 hc28 hc29 hc30 hc31 hc32 hc33
  exact h _ (((((((((((((((if_neg (fun q0 => absurd ((fa_eq p0 2).mp q0) (by have l_0 : (0 : Int32).toInt = 0 := (by decide); have l_1 : (1 : Int32).toInt = 1 := (by decide); have l_2 : (10 : Int32).toInt = 10 := (by decide); have l_3 : (11 : Int32).toInt = 11 := (by decide); have l_4 : (12 : Int32).toInt = 12 := (by decide); have l_5 : (13 : Int32).toInt = 13 := (by decide); have l_6 : (2 : Int32).toInt = 2 := (by decide); have l_7 : (3 : Int32).toInt = 3 := (by decide); have l_8 : (4 : Int32).toInt = 4 := (by decide); have l_9 : (5 : Int32).toInt = 5 := (by decide); have l_10 : (6 : Int32).toInt = 6 := (by decide); have l_11 : (7 : Int32).toInt = 7 := (by decide); have l_12 : (8 : Int32).toInt = 8 := (by decide); have l_13 : (9 : Int32).toInt = 9 := (by decide); have g_hc20 := mt (fa_eq p0 0).mpr hc20; have g_hc21 := mt (fa_eq p0 1).mpr hc21; have g_hc22 := mt (fa_eq p0 2).mpr hc22; have g_hc23 := mt (fa_eq p0 3).mpr hc23; have g_hc24 := mt (fa_eq p0 4).mpr hc24; have g_hc25 := mt (fa_eq p0 5).mpr hc25; have g_hc26 := mt (fa_eq p0 6).mpr hc26; have g_hc27 := mt (fa_eq p0 7).mpr hc27; have g_hc28 := mt (fa_eq p0 8).mpr hc28; have g_hc29 := mt (fa_eq p0 9).mpr hc29; have g_hc30 := mt (fa_eq p0 10).mpr hc30; have g_hc31 := mt (fa_eq p0 11).mpr hc31; have g_hc32 := mt (fa_eq p0 12).mpr hc32; have g_hc33 := mt (fa_eq p0 13).mpr hc33; omega))).trans (if_neg (fun q0 => absurd ((fa_eq p0 0).mp q0) (by have l_0 : (0 : Int32).toInt = 0 := (by decide); have l_1 : (1 : Int32).toInt = 1 := (by decide); have l_2 : (10 : Int32).toInt = 10 := (by decide); have l_3 : (11 : Int32).toInt = 11 := (by decide); have l_4 : (12 : Int32).toInt = 12 := (by decide); have l_5 : (13 : Int32).toInt = 13 := (by decide); have l_6 : (2 : Int32).toInt = 2 := (by decide); have l_7 : (3 : Int32).toInt = 3 := (by decide); have l_8 : (4 : Int32).toInt = 4 := (by decide); have l_9 : (5 : Int32).toInt = 5 := (by decide); have l_10 : (6 : Int32).toInt = 6 := (by decide); have l_11 : (7 : Int32).toInt = 7 := (by decide); have l_12 : (8 : Int32).toInt = 8 := (by decide); have l_13 : (9 : Int32).toInt = 9 := (by decide); have g_hc20 := mt (fa_eq p0 0).mpr hc20; have g_hc21 := mt (fa_eq p0 1).mpr hc21; have g_hc22 := mt (fa_eq p0 2).mpr hc22; have g_hc23 := mt (fa_eq p0 3).mpr hc23; have g_hc24 := mt (fa_eq p0 4).mpr hc24; have g_hc25 := mt (fa_eq p0 5).mpr hc25; have g_hc26 := mt (fa_eq p0 6).mpr hc26; have g_hc27 := mt (fa_eq p0 7).mpr hc27; have g_hc28 := mt (fa_eq p0 8).mpr hc28; have g_hc29 := mt (fa_eq p0 9).mpr hc29; have g_hc30 := mt (fa_eq p0 10).mpr hc30; have g_hc31 := mt (fa_eq p0 11).mpr hc31; have g_hc32 := mt (fa_eq p0 12).mpr hc32; have g_hc33 := mt (fa_eq p0 13).mpr hc33; omega)))).trans (if_neg (fun q0 => absurd ((fa_eq p0 1).mp q0) (by have l_0 : (0 : Int32).toInt = 0 := (by decide); have l_1 : (1 : Int32).toInt = 1 := (by decide); have l_2 : (10 : Int32).toInt = 10 := (by decide); have l_3 : (11 : Int32).toInt = 11 := (by decide); have l_4 : (12 : Int32).toInt = 12 := (by decide); have l_5 : (13 : Int32).toInt = 13 := (by decide); have l_6 : (2 : Int32).toInt = 2 := (by decide); have l_7 : (3 : Int32).toInt = 3 := (by decide); have l_8 : (4 : Int32).toInt = 4 := (by decide); have l_9 : (5 : Int32).toInt = 5 := (by decide); have l_10 : (6 : Int32).toInt = 6 := (by decide); have l_11 : (7 : Int32).toInt = 7 := (by decide); have l_12 : (8 : Int32).toInt = 8 := (by decide); have l_13 : (9 : Int32).toInt = 9 := (by decide); have g_hc20 := mt (fa_eq p0 0).mpr hc20; have g_hc21 := mt (fa_eq p0 1).mpr hc21; have g_hc22 := mt (fa_eq p0 2).mpr hc22; have g_hc23 := mt (fa_eq p0 3).mpr hc23; have g_hc24 := mt (fa_eq p0 4).mpr hc24; have g_hc25 := mt (fa_eq p0 5).mpr hc25; have g_hc26 := mt (fa_eq p0 6).mpr hc26; have g_hc27 := mt (fa_eq p0 7).mpr hc27; have g_hc28 := mt (fa_eq p0 8).mpr hc28; have g_hc29 := mt (fa_eq p0 9).mpr hc29; have g_hc30 := mt (fa_eq p0 10).mpr hc30; have g_hc31 := mt (fa_eq p0 11).mpr hc31; have g_hc32 := mt (fa_eq p0 12).mpr hc32; have g_hc33 := mt (fa_eq p0 13).mpr hc33; omega)))).trans (if_neg (fun q0 => absurd ((fa_eq p0 3).mp q0) (by have l_0 : (0 : Int32).toInt = 0 := (by decide); have l_1 : (1 : Int32).toInt = 1 := (by decide); have l_2 : (10 : Int32).toInt = 10 := (by decide); have l_3 : (11 : Int32).toInt = 11 := (by decide); have l_4 : (12 : Int32).toInt = 12 := (by decide); have l_5 : (13 : Int32).toInt = 13 := (by decide); have l_6 : (2 : Int32).toInt = 2 := (by decide); have l_7 : (3 : Int32).toInt = 3 := (by decide); have l_8 : (4 : Int32).toInt = 4 := (by decide); have l_9 : (5 : Int32).toInt = 5 := (by decide); have l_10 : (6 : Int32).toInt = 6 := (by decide); have l_11 : (7 : Int32).toInt = 7 := (by decide); have l_12 : (8 : Int32).toInt = 8 := (by decide); have l_13 : (9 : Int32).toInt = 9 := (by decide); have g_hc20 := mt (fa_eq p0 0).mpr hc20; have g_hc21 := mt (fa_eq p0 1).mpr hc21; have g_hc22 := mt (fa_eq p0 2).mpr hc22; have g_hc23 := mt (fa_eq p0 3).mpr hc23; have g_hc24 := mt (fa_eq p0 4).mpr hc24; have g_hc25 := mt (fa_eq p0 5).mpr hc25; have g_hc26 := mt (fa_eq p0 6).mpr hc26; have g_hc27 := mt (fa_eq p0 7).mpr hc27; have g_hc28 := mt (fa_eq p0 8).mpr hc28; have g_hc29 := mt (fa_eq p0 9).mpr hc29; have g_hc30 := mt (fa_eq p0 10).mpr hc30; have g_hc31 := mt (fa_eq p0 11).mpr hc31; have g_hc32 := mt (fa_eq p0 12).mpr hc32; have g_hc33 := mt (fa_eq p0 13).mpr hc33; omega)))).trans (if_neg (fun q0 => absurd ((fa_eq p0 4).mp q0) (by have l_0 : (0 : Int32).toInt = 0 := (by decide); have l_1 : (1 : Int32).toInt = 1 := (by decide); have l_2 : (10 : Int32).toInt = 10 := (by decide); have l_3 : (11 : Int32).toInt = 11 := (by decide); have l_4 : (12 : Int32).toInt = 12 := (by decide); have l_5 : (13 : Int32).toInt = 13 := (by decide); have l_6 : (2 : Int32).toInt = 2 := (by decide); have l_7 : (3 : Int32).toInt = 3 := (by decide); have l_8 : (4 : Int32).toInt = 4 := (by decide); have l_9 : (5 : Int32).toInt = 5 := (by decide); have l_10 : (6 : Int32).toInt = 6 := (by decide); have l_11 : (7 : Int32).toInt = 7 := (by decide); have l_12 : (8 : Int32).toInt = 8 := (by decide); have l_13 : (9 : Int32).toInt = 9 := (by decide); have g_hc20 := mt (fa_eq p0 0).mpr hc20; have g_hc21 := mt (fa_eq p0 1).mpr hc21; have g_hc22 := mt (fa_eq p0 2).mpr hc22; have g_hc23 := mt (fa_eq p0 3).mpr hc23; have g_hc24 := mt (fa_eq p0 4).mpr hc24; have g_hc25 := mt (fa_eq p0 5).mpr hc25; have g_hc26 := mt (fa_eq p0 6).mpr hc26; have g_hc27 := mt (fa_eq p0 7).mpr hc27; have g_hc28 := mt (fa_eq p0 8).mpr hc28; have g_hc29 := mt (fa_eq p0 9).mpr hc29; have g_hc30 := mt (fa_eq p0 10).mpr hc30; have g_hc31 := mt (fa_eq p0 11).mpr hc31; have g_hc32 := mt (fa_eq p0 12).mpr hc32; have g_hc33 := mt (fa_eq p0 13).mpr hc33; omega)))).trans (if_neg (fun q0 => absurd ((fa_eq p0 5).mp q0) (by have l_0 : (0 : Int32).toInt = 0 := (by decide); have l_1 : (1 : Int32).toInt = 1 := (by decide); have l_2 : (10 : Int32).toInt = 10 := (by decide); have l_3 : (11 : Int32).toInt = 11 := (by decide); have l_4 : (12 : Int32).toInt = 12 := (by decide); have l_5 : (13 : Int32).toInt = 13 := (by decide); have l_6 : (2 : Int32).toInt = 2 := (by decide); have l_7 : (3 : Int32).toInt = 3 := (by decide); have l_8 : (4 : Int32).toInt = 4 := (by decide); have l_9 : (5 : Int32).toInt = 5 := (by decide); have l_10 : (6 : Int32).toInt = 6 := (by decide); have l_11 : (7 : Int32).toInt = 7 := (by decide); have l_12 : (8 : Int32).toInt = 8 := (by decide); have l_13 : (9 : Int32).toInt = 9 := (by decide); have g_hc20 := mt (fa_eq p0 0).mpr hc20; have g_hc21 := mt (fa_eq p0 1).mpr hc21; have g_hc22 := mt (fa_eq p0 2).mpr hc22; have g_hc23 := mt (fa_eq p0 3).mpr hc23; have g_hc24 := mt (fa_eq p0 4).mpr hc24; have g_hc25 := mt (fa_eq p0 5).mpr hc25; have g_hc26 := mt (fa_eq p0 6).mpr hc26; have g_hc27 := mt (fa_eq p0 7).mpr hc27; have g_hc28 := mt (fa_eq p0 8).mpr hc28; have g_hc29 := mt (fa_eq p0 9).mpr hc29; have g_hc30 := mt (fa_eq p0 10).mpr hc30; have g_hc31 := mt (fa_eq p0 11).mpr hc31; have g_hc32 := mt (fa_eq p0 12).mpr hc32; have g_hc33 := mt (fa_eq p0 13).mpr hc33; omega)))).trans (if_neg (fun q0 => absurd ((fa_eq p0 6).mp q0) (by have l_0 : (0 : Int32).toInt = 0 := (by decide); have l_1 : (1 : Int32).toInt = 1 := (by decide); have l_2 : (10 : Int32).toInt = 10 := (by decide); have l_3 : (11 : Int32).toInt = 11 := (by decide); have l_4 : (12 : Int32).toInt = 12 := (by decide); have l_5 : (13 : Int32).toInt = 13 := (by decide); have l_6 : (2 : Int32).toInt = 2 := (by decide); have l_7 : (3 : Int32).toInt = 3 := (by decide); have l_8 : (4 : Int32).toInt = 4 := (by decide); have l_9 : (5 : Int32).toInt = 5 := (by decide); have l_10 : (6 : Int32).toInt = 6 := (by decide); have l_11 : (7 : Int32).toInt = 7 := (by decide); have l_12 : (8 : Int32).toInt = 8 := (by decide); have l_13 : (9 : Int32).toInt = 9 := (by decide); have g_hc20 := mt (fa_eq p0 0).mpr hc20; have g_hc21 := mt (fa_eq p0 1).mpr hc21; have g_hc22 := mt (fa_eq p0 2).mpr hc22; have g_hc23 := mt (fa_eq p0 3).mpr hc23; have g_hc24 := mt (fa_eq p0 4).mpr hc24; have g_hc25 := mt (fa_eq p0 5).mpr hc25; have g_hc26 := mt (fa_eq p0 6).mpr hc26; have g_hc27 := mt (fa_eq p0 7).mpr hc27; have g_hc28 := mt (fa_eq p0 8).mpr hc28; have g_hc29 := mt (fa_eq p0 9).mpr hc29; have g_hc30 := mt (fa_eq p0 10).mpr hc30; have g_hc31 := mt (fa_eq p0 11).mpr hc31; have g_hc32 := mt (fa_eq p0 12).mpr hc32; have g_hc33 := mt (fa_eq p0 13).mpr hc33; omega)))).trans (if_neg (fun q0 => absurd ((fa_eq p0 7).mp q0) (by have l_0 : (0 : Int32).toInt = 0 := (by decide); have l_1 : (1 : Int32).toInt = 1 := (by decide); have l_2 : (10 : Int32).toInt = 10 := (by decide); have l_3 : (11 : Int32).toInt = 11 := (by decide); have l_4 : (12 : Int32).toInt = 12 := (by decide); have l_5 : (13 : Int32).toInt = 13 := (by decide); have l_6 : (2 : Int32).toInt = 2 := (by decide); have l_7 : (3 : Int32).toInt = 3 := (by decide); have l_8 : (4 : Int32).toInt = 4 := (by decide); have l_9 : (5 : Int32).toInt = 5 := (by decide); have l_10 : (6 : Int32).toInt = 6 := (by decide); have l_11 : (7 : Int32).toInt = 7 := (by decide); have l_12 : (8 : Int32).toInt = 8 := (by decide); have l_13 : (9 : Int32).toInt = 9 := (by decide); have g_hc20 := mt (fa_eq p0 0).mpr hc20; have g_hc21 := mt (fa_eq p0 1).mpr hc21; have g_hc22 := mt (fa_eq p0 2).mpr hc22; have g_hc23 := mt (fa_eq p0 3).mpr hc23; have g_hc24 := mt (fa_eq p0 4).mpr hc24; have g_hc25 := mt (fa_eq p0 5).mpr hc25; have g_hc26 := mt (fa_eq p0 6).mpr hc26; have g_hc27 := mt (fa_eq p0 7).mpr hc27; have g_hc28 := mt (fa_eq p0 8).mpr hc28; have g_hc29 := mt (fa_eq p0 9).mpr hc29; have g_hc30 := mt (fa_eq p0 10).mpr hc30; have g_hc31 := mt (fa_eq p0 11).mpr hc31; have g_hc32 := mt (fa_eq p0 12).mpr hc32; have g_hc33 := mt (fa_eq p0 13).mpr hc33; omega)))).trans (if_neg (fun q0 => absurd ((fa_eq p0 8).mp q0) (by have l_0 : (0 : Int32).toInt = 0 := (by decide); have l_1 : (1 : Int32).toInt = 1 := (by decide); have l_2 : (10 : Int32).toInt = 10 := (by decide); have l_3 : (11 : Int32).toInt = 11 := (by decide); have l_4 : (12 : Int32).toInt = 12 := (by decide); have l_5 : (13 : Int32).toInt = 13 := (by decide); have l_6 : (2 : Int32).toInt = 2 := (by decide); have l_7 : (3 : Int32).toInt = 3 := (by decide); have l_8 : (4 : Int32).toInt = 4 := (by decide); have l_9 : (5 : Int32).toInt = 5 := (by decide); have l_10 : (6 : Int32).toInt = 6 := (by decide); have l_11 : (7 : Int32).toInt = 7 := (by decide); have l_12 : (8 : Int32).toInt = 8 := (by decide); have l_13 : (9 : Int32).toInt = 9 := (by decide); have g_hc20 := mt (fa_eq p0 0).mpr hc20; have g_hc21 := mt (fa_eq p0 1).mpr hc21; have g_hc22 := mt (fa_eq p0 2).mpr hc22; have g_hc23 := mt (fa_eq p0 3).mpr hc23; have g_hc24 := mt (fa_eq p0 4).mpr hc24; have g_hc25 := mt (fa_eq p0 5).mpr hc25; have g_hc26 := mt (fa_eq p0 6).mpr hc26; have g_hc27 := mt (fa_eq p0 7).mpr hc27; have g_hc28 := mt (fa_eq p0 8).mpr hc28; have g_hc29 := mt (fa_eq p0 9).mpr hc29; have g_hc30 := mt (fa_eq p0 10).mpr hc30; have g_hc31 := mt (fa_eq p0 11).mpr hc31; have g_hc32 := mt (fa_eq p0 12).mpr hc32; have g_hc33 := mt (fa_eq p0 13).mpr hc33; omega)))).trans (if_neg (fun q0 => absurd ((fa_eq p0 9).mp q0) (by have l_0 : (0 : Int32).toInt = 0 := (by decide); have l_1 : (1 : Int32).toInt = 1 := (by decide); have l_2 : (10 : Int32).toInt = 10 := (by decide); have l_3 : (11 : Int32).toInt = 11 := (by decide); have l_4 : (12 : Int32).toInt = 12 := (by decide); have l_5 : (13 : Int32).toInt = 13 := (by decide); have l_6 : (2 : Int32).toInt = 2 := (by decide); have l_7 : (3 : Int32).toInt = 3 := (by decide); have l_8 : (4 : Int32).toInt = 4 := (by decide); have l_9 : (5 : Int32).toInt = 5 := (by decide); have l_10 : (6 : Int32).toInt = 6 := (by decide); have l_11 : (7 : Int32).toInt = 7 := (by decide); have l_12 : (8 : Int32).toInt = 8 := (by decide); have l_13 : (9 : Int32).toInt = 9 := (by decide); have g_hc20 := mt (fa_eq p0 0).mpr hc20; have g_hc21 := mt (fa_eq p0 1).mpr hc21; have g_hc22 := mt (fa_eq p0 2).mpr hc22; have g_hc23 := mt (fa_eq p0 3).mpr hc23; have g_hc24 := mt (fa_eq p0 4).mpr hc24; have g_hc25 := mt (fa_eq p0 5).mpr hc25; have g_hc26 := mt (fa_eq p0 6).mpr hc26; have g_hc27 := mt (fa_eq p0 7).mpr hc27; have g_hc28 := mt (fa_eq p0 8).mpr hc28; have g_hc29 := mt (fa_eq p0 9).mpr hc29; have g_hc30 := mt (fa_eq p0 10).mpr hc30; have g_hc31 := mt (fa_eq p0 11).mpr hc31; have g_hc32 := mt (fa_eq p0 12).mpr hc32; have g_hc33 := mt (fa_eq p0 13).mpr hc33; omega)))).trans (if_neg (fun q0 => absurd ((fa_eq p0 10).mp q0) (by have l_0 : (0 : Int32).toInt = 0 := (by decide); have l_1 : (1 : Int32).toInt = 1 := (by decide); have l_2 : (10 : Int32).toInt = 10 := (by decide); have l_3 : (11 : Int32).toInt = 11 := (by decide); have l_4 : (12 : Int32).toInt = 12 := (by decide); have l_5 : (13 : Int32).toInt = 13 := (by decide); have l_6 : (2 : Int32).toInt = 2 := (by decide); have l_7 : (3 : Int32).toInt = 3 := (by decide); have l_8 : (4 : Int32).toInt = 4 := (by decide); have l_9 : (5 : Int32).toInt = 5 := (by decide); have l_10 : (6 : Int32).toInt = 6 := (by decide); have l_11 : (7 : Int32).toInt = 7 := (by decide); have l_12 : (8 : Int32).toInt = 8 := (by decide); have l_13 : (9 : Int32).toInt = 9 := (by decide); have g_hc20 := mt (fa_eq p0 0).mpr hc20; have g_hc21 := mt (fa_eq p0 1).mpr hc21; have g_hc22 := mt (fa_eq p0 2).mpr hc22; have g_hc23 := mt (fa_eq p0 3).mpr hc23; have g_hc24 := mt (fa_eq p0 4).mpr hc24; have g_hc25 := mt (fa_eq p0 5).mpr hc25; have g_hc26 := mt (fa_eq p0 6).mpr hc26; have g_hc27 := mt (fa_eq p0 7).mpr hc27; have g_hc28 := mt (fa_eq p0 8).mpr hc28; have g_hc29 := mt (fa_eq p0 9).mpr hc29; have g_hc30 := mt (fa_eq p0 10).mpr hc30; have g_hc31 := mt (fa_eq p0 11).mpr hc31; have g_hc32 := mt (fa_eq p0 12).mpr hc32; have g_hc33 := mt (fa_eq p0 13).mpr hc33; omega)))).trans (if_neg (fun q0 => absurd ((fa_eq p0 11).mp q0) (by have l_0 : (0 : Int32).toInt = 0 := (by decide); have l_1 : (1 : Int32).toInt = 1 := (by decide); have l_2 : (10 : Int32).toInt = 10 := (by decide); have l_3 : (11 : Int32).toInt = 11 := (by decide); have l_4 : (12 : Int32).toInt = 12 := (by decide); have l_5 : (13 : Int32).toInt = 13 := (by decide); have l_6 : (2 : Int32).toInt = 2 := (by decide); have l_7 : (3 : Int32).toInt = 3 := (by decide); have l_8 : (4 : Int32).toInt = 4 := (by decide); have l_9 : (5 : Int32).toInt = 5 := (by decide); have l_10 : (6 : Int32).toInt = 6 := (by decide); have l_11 : (7 : Int32).toInt = 7 := (by decide); have l_12 : (8 : Int32).toInt = 8 := (by decide); have l_13 : (9 : Int32).toInt = 9 := (by decide); have g_hc20 := mt (fa_eq p0 0).mpr hc20; have g_hc21 := mt (fa_eq p0 1).mpr hc21; have g_hc22 := mt (fa_eq p0 2).mpr hc22; have g_hc23 := mt (fa_eq p0 3).mpr hc23; have g_hc24 := mt (fa_eq p0 4).mpr hc24; have g_hc25 := mt (fa_eq p0 5).mpr hc25; have g_hc26 := mt (fa_eq p0 6).mpr hc26; have g_hc27 := mt (fa_eq p0 7).mpr hc27; have g_hc28 := mt (fa_eq p0 8).mpr hc28; have g_hc29 := mt (fa_eq p0 9).mpr hc29; have g_hc30 := mt (fa_eq p0 10).mpr hc30; have g_hc31 := mt (fa_eq p0 11).mpr hc31; have g_hc32 := mt (fa_eq p0 12).mpr hc32; have g_hc33 := mt (fa_eq p0 13).mpr hc33; omega)))).trans (if_neg (fun q0 => absurd ((fa_eq p0 12).mp q0) (by have l_0 : (0 : Int32).toInt = 0 := (by decide); have l_1 : (1 : Int32).toInt = 1 := (by decide); have l_2 : (10 : Int32).toInt = 10 := (by decide); have l_3 : (11 : Int32).toInt = 11 := (by decide); have l_4 : (12 : Int32).toInt = 12 := (by decide); have l_5 : (13 : Int32).toInt = 13 := (by decide); have l_6 : (2 : Int32).toInt = 2 := (by decide); have l_7 : (3 : Int32).toInt = 3 := (by decide); have l_8 : (4 : Int32).toInt = 4 := (by decide); have l_9 : (5 : Int32).toInt = 5 := (by decide); have l_10 : (6 : Int32).toInt = 6 := (by decide); have l_11 : (7 : Int32).toInt = 7 := (by decide); have l_12 : (8 : Int32).toInt = 8 := (by decide); have l_13 : (9 : Int32).toInt = 9 := (by decide); have g_hc20 := mt (fa_eq p0 0).mpr hc20; have g_hc21 := mt (fa_eq p0 1).mpr hc21; have g_hc22 := mt (fa_eq p0 2).mpr hc22; have g_hc23 := mt (fa_eq p0 3).mpr hc23; have g_hc24 := mt (fa_eq p0 4).mpr hc24; have g_hc25 := mt (fa_eq p0 5).mpr hc25; have g_hc26 := mt (fa_eq p0 6).mpr hc26; have g_hc27 := mt (fa_eq p0 7).mpr hc27; have g_hc28 := mt (fa_eq p0 8).mpr hc28; have g_hc29 := mt (fa_eq p0 9).mpr hc29; have g_hc30 := mt (fa_eq p0 10).mpr hc30; have g_hc31 := mt (fa_eq p0 11).mpr hc31; have g_hc32 := mt (fa_eq p0 12).mpr hc32; have g_hc33 := mt (fa_eq p0 13).mpr hc33; omega)))).trans (if_neg (fun q0 => absurd ((fa_eq p0 13).mp q0) (by have l_0 : (0 : Int32).toInt = 0 := (by decide); have l_1 : (1 : Int32).toInt = 1 := (by decide); have l_2 : (10 : Int32).toInt = 10 := (by decide); have l_3 : (11 : Int32).toInt = 11 := (by decide); have l_4 : (12 : Int32).toInt = 12 := (by decide); have l_5 : (13 : Int32).toInt = 13 := (by decide); have l_6 : (2 : Int32).toInt = 2 := (by decide); have l_7 : (3 : Int32).toInt = 3 := (by decide); have l_8 : (4 : Int32).toInt = 4 := (by decide); have l_9 : (5 : Int32).toInt = 5 := (by decide); have l_10 : (6 : Int32).toInt = 6 := (by decide); have l_11 : (7 : Int32).toInt = 7 := (by decide); have l_12 : (8 : Int32).toInt = 8 := (by decide); have l_13 : (9 : Int32).toInt = 9 := (by decide); have g_hc20 := mt (fa_eq p0 0).mpr hc20; have g_hc21 := mt (fa_eq p0 1).mpr hc21; have g_hc22 := mt (fa_eq p0 2).mpr hc22; have g_hc23 := mt (fa_eq p0 3).mpr hc23; have g_hc24 := mt (fa_eq p0 4).mpr hc24; have g_hc25 := mt (fa_eq p0 5).mpr hc25; have g_hc26 := mt (fa_eq p0 6).mpr hc26; have g_hc27 := mt (fa_eq p0 7).mpr hc27; have g_hc28 := mt (fa_eq p0 8).mpr hc28; have g_hc29 := mt (fa_eq p0 9).mpr hc29; have g_hc30 := mt (fa_eq p0 10).mpr hc30; have g_hc31 := mt (fa_eq p0 11).mpr hc31; have g_hc32 := mt (fa_eq p0 12).mpr hc32; have g_hc33 := mt (fa_eq p0 13).mpr hc33; omega)))).symm) _
set_option maxHeartbeats 8000000 in
set_option maxRecDepth 200000 in
theorem fmt_fruit (post : Int32 → Int32 → Prop)  (p0 : Int32) (p1 : Int32) (h : ∀ r : Int32, post r 1) : wp_X10_fruit post p0 p1 0 0 (upd (fun _ => 0) (17 : Int32).toNatClampNeg (-1)) (fun _ => 0) (fun _ => 0) (fun _ => 0) (fun _ => 0) := by
  intro v1 ev1; obtain rfl : v1 = (-1) := ev1.trans (by decide +kernel)
  refine And.intro (fun hc2 => ?_) (fun hc2 => ?_)
  · skip
    refine And.intro rfl ?_
    refine br_t (by decide +kernel) ?_
    exact h _
  · skip
    refine br_t ((fa_lt (-1) p0).mpr (by have l_0 : ((-1) : Int32).toInt = (-1) := (by decide); have l_1 : (0 : Int32).toInt = 0 := (by decide); have g_hc2 := mt (fa_lt p0 0).mpr hc2; omega)) ?_
    refine And.intro rfl ?_
    refine br_t (by decide +kernel) ?_
    exact h _
set_option maxHeartbeats 8000000 in
set_option maxRecDepth 200000 in
theorem fmt_standing (post : Int32 → Int32 → Prop)  (p0 : Int32) (p1 : Int32) (h : ∀ r : Int32, post r 1) : wp_X10_standing post p0 p1 0 0 (fun _ => 0) (fun _ => 0) := by
  intro v1 ev1; obtain rfl : v1 = (-1) := ev1.trans (by decide +kernel)
  refine And.intro (fun hc2 => ?_) (fun hc2 => ?_)
  · skip
    refine And.intro rfl ?_
    refine br_t (by decide +kernel) ?_
    exact h _
  · skip
    refine br_t ((fa_lt (-1) p0).mpr (by have l_0 : ((-1) : Int32).toInt = (-1) := (by decide); have l_1 : (0 : Int32).toInt = 0 := (by decide); have g_hc2 := mt (fa_lt p0 0).mpr hc2; omega)) ?_
    refine And.intro rfl ?_
    refine br_t (by decide +kernel) ?_
    exact h _
set_option maxHeartbeats 8000000 in
set_option maxRecDepth 200000 in
theorem fmt_row (post : Int32 → Int32 → Prop)  (p0 : Int32) (h : ∀ r : Int32, post r 1) : wp_X10_row post p0 0 0 (fun _ => 0) := by
  intro v1 ev1; obtain rfl : v1 = (-1) := ev1.trans (by decide +kernel)
  refine And.intro (fun hc2 => ?_) (fun hc2 => ?_)
  · skip
    refine br_t (by decide +kernel) ?_
    exact h _
  · skip
    refine br_t ((fa_lt (-1) p0).mpr (by have l_0 : ((-1) : Int32).toInt = (-1) := (by decide); have l_1 : (0 : Int32).toInt = 0 := (by decide); have g_hc2 := mt (fa_lt p0 0).mpr hc2; omega)) ?_
    refine br_t (by decide +kernel) ?_
    exact h _
