set_option maxHeartbeats 8000000 in
set_option maxRecDepth 200000 in
theorem fm_leaned (post : Int32 → Int32 → Prop) (p0 : Int32) (p1 : Int32) (h : ∀ r : Int32, r = (-1) → ∀ o0 : Int32, post r o0) : wp_X10_leaned post p0 p1 0 0 0 (fun _ => 0) (fun _ => 0) (fun _ => 0) (fun _ => 0) (upd (upd (upd (upd (upd (fun _ => 0) (0 : Int32).toNatClampNeg 8) (1 : Int32).toNatClampNeg 3) (2 : Int32).toNatClampNeg 5) (3 : Int32).toNatClampNeg 1) (4 : Int32).toNatClampNeg 6) := by
  intro v1 ev1; obtain rfl : v1 = (-1) := ev1.trans (by decide +kernel)
  refine And.intro (fun hc2 => ?_) (fun hc2 => ?_)
  · skip
    refine And.intro rfl ?_
    refine br_t (by decide +kernel) ?_
    exact h _ (by decide +kernel) _
  · skip
    refine br_t ((fa_lt (-1) p0).mpr (by have l_0 : ((-1) : Int32).toInt = (-1) := (by decide); have l_1 : (0 : Int32).toInt = 0 := (by decide); have g_hc2 := mt (fa_lt p0 0).mpr hc2; omega)) ?_
    refine And.intro rfl ?_
    refine br_t (by decide +kernel) ?_
    exact h _ (by decide +kernel) _
set_option maxHeartbeats 8000000 in
set_option maxRecDepth 200000 in
theorem fm_autumn (post : Int32 → Int32 → Int32 → Int32 → (Nat → Int32) → Prop) (p0 : Int32) (p1 : Int32) (p2 : Int32) (h : ∀ r : Int32, r = (if p1 < 1 then (-1) else (if 30 < p1 then (-1) else (if p2 < 0 then (-1) else (if 10 < p2 then (-1) else 0)))) → ∀ o0 : Int32, ∀ o1 : Int32, ∀ o2 : Int32, ∀ o3 : (Nat → Int32), post r o0 o1 o2 o3) : wp_X10_autumn post p0 p1 p2 0 0 0 0 (upd (fun _ => 0) (17 : Int32).toNatClampNeg (-1)) (fun _ => 0) (fun _ => 0) (fun _ => 0) := by
  refine And.intro (fun hc1 => ?_) (fun hc1 => ?_)
  · skip
    refine br_t (by decide +kernel) ?_
    exact h _ ((if_pos ((fa_lt p1 1).mpr (by have l_0 : (1 : Int32).toInt = 1 := (by decide); have g_hc1 := (fa_lt p1 1).mp hc1; omega))).symm) _ _ _ _
  · skip
    refine And.intro (fun hc2 => ?_) (fun hc2 => ?_)
    · skip
      refine br_t (by decide +kernel) ?_
      exact h _ (((if_neg (fun q0 => absurd ((fa_lt p1 1).mp q0) (by have l_0 : (1 : Int32).toInt = 1 := (by decide); have l_1 : (30 : Int32).toInt = 30 := (by decide); have g_hc1 := mt (fa_lt p1 1).mpr hc1; have g_hc2 := (fa_lt 30 p1).mp hc2; omega))).trans (if_pos ((fa_lt 30 p1).mpr (by have l_0 : (1 : Int32).toInt = 1 := (by decide); have l_1 : (30 : Int32).toInt = 30 := (by decide); have g_hc1 := mt (fa_lt p1 1).mpr hc1; have g_hc2 := (fa_lt 30 p1).mp hc2; omega)))).symm) _ _ _ _
    · skip
      refine br_f (by decide +kernel) ?_
      refine And.intro (fun hc3 => ?_) (fun hc3 => ?_)
      · skip
        refine And.intro (fun h9 => absurd rfl h9) (fun _ => ?_)
        exact h _ ((((if_neg (fun q0 => absurd ((fa_lt p1 1).mp q0) (by have l_0 : (1 : Int32).toInt = 1 := (by decide); have l_1 : (30 : Int32).toInt = 30 := (by decide); have g_hc1 := mt (fa_lt p1 1).mpr hc1; have g_hc2 := mt (fa_lt 30 p1).mpr hc2; omega))).trans (if_neg (fun q0 => absurd ((fa_lt 30 p1).mp q0) (by have l_0 : (1 : Int32).toInt = 1 := (by decide); have l_1 : (30 : Int32).toInt = 30 := (by decide); have g_hc1 := mt (fa_lt p1 1).mpr hc1; have g_hc2 := mt (fa_lt 30 p1).mpr hc2; omega)))).trans (if_pos ((fa_lt p2 0).mpr (by have l_0 : (0 : Int32).toInt = 0 := (by decide); have g_hc3 := (fa_lt p2 0).mp hc3; omega)))).symm) _ _ _ _
      · skip
        refine And.intro (fun hc4 => ?_) (fun hc4 => ?_)
        · skip
          refine And.intro (fun h9 => absurd rfl h9) (fun _ => ?_)
          exact h _ (((((if_neg (fun q0 => absurd ((fa_lt p1 1).mp q0) (by have l_0 : (1 : Int32).toInt = 1 := (by decide); have l_1 : (30 : Int32).toInt = 30 := (by decide); have g_hc1 := mt (fa_lt p1 1).mpr hc1; have g_hc2 := mt (fa_lt 30 p1).mpr hc2; omega))).trans (if_neg (fun q0 => absurd ((fa_lt 30 p1).mp q0) (by have l_0 : (1 : Int32).toInt = 1 := (by decide); have l_1 : (30 : Int32).toInt = 30 := (by decide); have g_hc1 := mt (fa_lt p1 1).mpr hc1; have g_hc2 := mt (fa_lt 30 p1).mpr hc2; omega)))).trans (if_neg (fun q0 => absurd ((fa_lt p2 0).mp q0) (by have l_0 : (0 : Int32).toInt = 0 := (by decide); have l_1 : (10 : Int32).toInt = 10 := (by decide); have g_hc3 := mt (fa_lt p2 0).mpr hc3; have g_hc4 := (fa_lt 10 p2).mp hc4; omega)))).trans (if_pos ((fa_lt 10 p2).mpr (by have l_0 : (0 : Int32).toInt = 0 := (by decide); have l_1 : (10 : Int32).toInt = 10 := (by decide); have g_hc3 := mt (fa_lt p2 0).mpr hc3; have g_hc4 := (fa_lt 10 p2).mp hc4; omega)))).symm) _ _ _ _
        · skip
          refine And.intro (fun _ => ?_) (fun h9 => absurd h9 (by decide +kernel))
          refine Exists.intro 40 ?_
          refine br_t (by decide +kernel) ?_
          refine Exists.intro 40 ?_
          refine br_f (fun q0 => absurd ((fa_lt p1 1).mp q0) (by have l_0 : (1 : Int32).toInt = 1 := (by decide); have l_1 : (30 : Int32).toInt = 30 := (by decide); have g_hc1 := mt (fa_lt p1 1).mpr hc1; have g_hc2 := mt (fa_lt 30 p1).mpr hc2; omega)) ?_
          intro v5 ev5; obtain rfl : v5 = 0 := ev5.trans (by decide +kernel)
          intro v6 ev6; obtain rfl : v6 = 1 := ev6.trans (by decide +kernel)
          intro v7 ev7; obtain rfl : v7 = 1 := ev7.trans (by decide +kernel)
          refine Exists.intro 40 ?_
          refine br_t (by decide +kernel) ?_
          intro v8 ev8; obtain rfl : v8 = 0 := ev8.trans (by decide +kernel)
          refine Exists.intro 40 ?_
          refine br_t (by decide +kernel) ?_
          intro v9 ev9; obtain rfl : v9 = 0 := ev9.trans (by decide +kernel)
          intro v10 ev10; obtain rfl : v10 = 0 := ev10.trans (by decide +kernel)
          intro v11 ev11; obtain rfl : v11 = 0 := ev11.trans (by decide +kernel)
          intro v12 ev12; obtain rfl : v12 = 0 := ev12.trans (by decide +kernel)
          intro v13 ev13; obtain rfl : v13 = 0 := ev13.trans (by decide +kernel)
          intro v14 ev14; obtain rfl : v14 = 0 := ev14.trans (by decide +kernel)
          intro v15 ev15; obtain rfl : v15 = 0 := ev15.trans (by decide +kernel)
          intro v16 ev16; obtain rfl : v16 = 0 := ev16.trans (by decide +kernel)
          intro v17 ev17; obtain rfl : v17 = 0 := ev17.trans (by decide +kernel)
          intro v18 ev18; obtain rfl : v18 = 0 := ev18.trans (by decide +kernel)
          intro v19 ev19; obtain rfl : v19 = 0 := ev19.trans (by decide +kernel)
          refine br_f (by decide +kernel) ?_
          intro v20 ev20; obtain rfl : v20 = 2 := ev20.trans (by decide +kernel)
          refine And.intro (fun hc21 => ?_) (fun hc21 => ?_)
          · skip
            obtain rfl : p1 = 1 := (fa_eq _ _).mpr (by have l_0 : (1 : Int32).toInt = 1 := (by decide); have l_1 : (2 : Int32).toInt = 2 := (by decide); have l_2 : (30 : Int32).toInt = 30 := (by decide); have g_hc1 := mt (fa_lt p1 1).mpr hc1; have g_hc2 := mt (fa_lt 30 p1).mpr hc2; have g_hc21 := (fa_lt p1 2).mp hc21; omega)
            refine And.intro (g_in (by decide +kernel)) ?_
            intro v22 ev22; obtain rfl : v22 = 1 := ev22.trans (by decide +kernel)
            intro v23 ev23; obtain rfl : v23 = 0 := ev23.trans (by decide +kernel)
            refine Exists.intro 40 ?_
            refine br_t (by decide +kernel) ?_
            refine And.intro (g_in (by decide +kernel)) ?_
            intro v24 ev24; obtain rfl : v24 = 2 := ev24.trans (by decide +kernel)
            refine And.intro (g_in (by decide +kernel)) ?_
            intro v25 ev25; obtain rfl : v25 = 3 := ev25.trans (by decide +kernel)
            intro v26 ev26; obtain rfl : v26 = 0 := ev26.trans (by decide +kernel)
            intro v27 ev27; obtain rfl : v27 = 0 := ev27.trans (by decide +kernel)
            intro v28 ev28; obtain rfl : v28 = 0 := ev28.trans (by decide +kernel)
            intro v29 ev29; obtain rfl : v29 = 0 := ev29.trans (by decide +kernel)
            intro v30 ev30; obtain rfl : v30 = 0 := ev30.trans (by decide +kernel)
            intro v31 ev31; obtain rfl : v31 = 0 := ev31.trans (by decide +kernel)
            intro v32 ev32; obtain rfl : v32 = 0 := ev32.trans (by decide +kernel)
            intro v33 ev33; obtain rfl : v33 = 0 := ev33.trans (by decide +kernel)
            intro v34 ev34; obtain rfl : v34 = 0 := ev34.trans (by decide +kernel)
            exact h _ (((((if_neg (by decide +kernel)).trans (if_neg (by decide +kernel))).trans (if_neg (fun q0 => absurd ((fa_lt p2 0).mp q0) (by have l_0 : (0 : Int32).toInt = 0 := (by decide); have l_1 : (10 : Int32).toInt = 10 := (by decide); have g_hc3 := mt (fa_lt p2 0).mpr hc3; have g_hc4 := mt (fa_lt 10 p2).mpr hc4; omega)))).trans (if_neg (fun q0 => absurd ((fa_lt 10 p2).mp q0) (by have l_0 : (0 : Int32).toInt = 0 := (by decide); have l_1 : (10 : Int32).toInt = 10 := (by decide); have g_hc3 := mt (fa_lt p2 0).mpr hc3; have g_hc4 := mt (fa_lt 10 p2).mpr hc4; omega)))).symm) _ _ _ _
          · skip
            intro v35 ev35; obtain rfl : v35 = 0 := ev35.trans (by decide +kernel)
            intro v36 ev36; obtain rfl : v36 = 2 := ev36.trans (by decide +kernel)
            intro v37 ev37; obtain rfl : v37 = 2 := ev37.trans (by decide +kernel)
            refine Exists.intro 40 ?_
            refine br_t (by decide +kernel) ?_
            intro v38 ev38; obtain rfl : v38 = 0 := ev38.trans (by decide +kernel)
            refine Exists.intro 40 ?_
            refine br_t (by decide +kernel) ?_
            intro v39 ev39; obtain rfl : v39 = 0 := ev39.trans (by decide +kernel)
            intro v40 ev40; obtain rfl : v40 = 0 := ev40.trans (by decide +kernel)
            intro v41 ev41; obtain rfl : v41 = 0 := ev41.trans (by decide +kernel)
            intro v42 ev42; obtain rfl : v42 = 0 := ev42.trans (by decide +kernel)
            intro v43 ev43; obtain rfl : v43 = 0 := ev43.trans (by decide +kernel)
            intro v44 ev44; obtain rfl : v44 = 0 := ev44.trans (by decide +kernel)
            intro v45 ev45; obtain rfl : v45 = 0 := ev45.trans (by decide +kernel)
            intro v46 ev46; obtain rfl : v46 = 0 := ev46.trans (by decide +kernel)
            intro v47 ev47; obtain rfl : v47 = 0 := ev47.trans (by decide +kernel)
            intro v48 ev48; obtain rfl : v48 = 0 := ev48.trans (by decide +kernel)
            intro v49 ev49; obtain rfl : v49 = 0 := ev49.trans (by decide +kernel)
            refine br_f (by decide +kernel) ?_
            intro v50 ev50; obtain rfl : v50 = 3 := ev50.trans (by decide +kernel)
            refine And.intro (fun hc51 => ?_) (fun hc51 => ?_)
            · skip
              obtain rfl : p1 = 2 := (fa_eq _ _).mpr (by have l_0 : (1 : Int32).toInt = 1 := (by decide); have l_1 : (2 : Int32).toInt = 2 := (by decide); have l_2 : (3 : Int32).toInt = 3 := (by decide); have l_3 : (30 : Int32).toInt = 30 := (by decide); have g_hc1 := mt (fa_lt p1 1).mpr hc1; have g_hc2 := mt (fa_lt 30 p1).mpr hc2; have g_hc21 := mt (fa_lt p1 2).mpr hc21; have g_hc51 := (fa_lt p1 3).mp hc51; omega)
              refine And.intro (g_in (by decide +kernel)) ?_
              intro v52 ev52; obtain rfl : v52 = 1 := ev52.trans (by decide +kernel)
              intro v53 ev53; obtain rfl : v53 = 0 := ev53.trans (by decide +kernel)
              refine Exists.intro 40 ?_
              refine br_t (by decide +kernel) ?_
              refine And.intro (g_in (by decide +kernel)) ?_
              intro v54 ev54; obtain rfl : v54 = 2 := ev54.trans (by decide +kernel)
              refine And.intro (g_in (by decide +kernel)) ?_
              intro v55 ev55; obtain rfl : v55 = 3 := ev55.trans (by decide +kernel)
              intro v56 ev56; obtain rfl : v56 = 0 := ev56.trans (by decide +kernel)
              intro v57 ev57; obtain rfl : v57 = 0 := ev57.trans (by decide +kernel)
              intro v58 ev58; obtain rfl : v58 = 0 := ev58.trans (by decide +kernel)
              intro v59 ev59; obtain rfl : v59 = 0 := ev59.trans (by decide +kernel)
              intro v60 ev60; obtain rfl : v60 = 0 := ev60.trans (by decide +kernel)
              intro v61 ev61; obtain rfl : v61 = 0 := ev61.trans (by decide +kernel)
              intro v62 ev62; obtain rfl : v62 = 0 := ev62.trans (by decide +kernel)
              intro v63 ev63; obtain rfl : v63 = 0 := ev63.trans (by decide +kernel)
              intro v64 ev64; obtain rfl : v64 = 0 := ev64.trans (by decide +kernel)
              exact h _ (((((if_neg (by decide +kernel)).trans (if_neg (by decide +kernel))).trans (if_neg (fun q0 => absurd ((fa_lt p2 0).mp q0) (by have l_0 : (0 : Int32).toInt = 0 := (by decide); have l_1 : (10 : Int32).toInt = 10 := (by decide); have g_hc3 := mt (fa_lt p2 0).mpr hc3; have g_hc4 := mt (fa_lt 10 p2).mpr hc4; omega)))).trans (if_neg (fun q0 => absurd ((fa_lt 10 p2).mp q0) (by have l_0 : (0 : Int32).toInt = 0 := (by decide); have l_1 : (10 : Int32).toInt = 10 := (by decide); have g_hc3 := mt (fa_lt p2 0).mpr hc3; have g_hc4 := mt (fa_lt 10 p2).mpr hc4; omega)))).symm) _ _ _ _
            · skip
              intro v65 ev65; obtain rfl : v65 = 0 := ev65.trans (by decide +kernel)
              intro v66 ev66; obtain rfl : v66 = 3 := ev66.trans (by decide +kernel)
              intro v67 ev67; obtain rfl : v67 = 3 := ev67.trans (by decide +kernel)
              refine Exists.intro 40 ?_
              refine br_t (by decide +kernel) ?_
              intro v68 ev68; obtain rfl : v68 = 0 := ev68.trans (by decide +kernel)
              refine Exists.intro 40 ?_
              refine br_t (by decide +kernel) ?_
              intro v69 ev69; obtain rfl : v69 = 0 := ev69.trans (by decide +kernel)
              intro v70 ev70; obtain rfl : v70 = 0 := ev70.trans (by decide +kernel)
              intro v71 ev71; obtain rfl : v71 = 0 := ev71.trans (by decide +kernel)
              intro v72 ev72; obtain rfl : v72 = 0 := ev72.trans (by decide +kernel)
              intro v73 ev73; obtain rfl : v73 = 0 := ev73.trans (by decide +kernel)
              intro v74 ev74; obtain rfl : v74 = 0 := ev74.trans (by decide +kernel)
              intro v75 ev75; obtain rfl : v75 = 0 := ev75.trans (by decide +kernel)
              intro v76 ev76; obtain rfl : v76 = 0 := ev76.trans (by decide +kernel)
              intro v77 ev77; obtain rfl : v77 = 0 := ev77.trans (by decide +kernel)
              intro v78 ev78; obtain rfl : v78 = 0 := ev78.trans (by decide +kernel)
              intro v79 ev79; obtain rfl : v79 = 0 := ev79.trans (by decide +kernel)
              refine br_f (by decide +kernel) ?_
              intro v80 ev80; obtain rfl : v80 = 4 := ev80.trans (by decide +kernel)
              refine And.intro (fun hc81 => ?_) (fun hc81 => ?_)
              · skip
                obtain rfl : p1 = 3 := (fa_eq _ _).mpr (by have l_0 : (1 : Int32).toInt = 1 := (by decide); have l_1 : (2 : Int32).toInt = 2 := (by decide); have l_2 : (3 : Int32).toInt = 3 := (by decide); have l_3 : (30 : Int32).toInt = 30 := (by decide); have l_4 : (4 : Int32).toInt = 4 := (by decide); have g_hc1 := mt (fa_lt p1 1).mpr hc1; have g_hc2 := mt (fa_lt 30 p1).mpr hc2; have g_hc21 := mt (fa_lt p1 2).mpr hc21; have g_hc51 := mt (fa_lt p1 3).mpr hc51; have g_hc81 := (fa_lt p1 4).mp hc81; omega)
                refine And.intro (g_in (by decide +kernel)) ?_
                intro v82 ev82; obtain rfl : v82 = 1 := ev82.trans (by decide +kernel)
                intro v83 ev83; obtain rfl : v83 = 0 := ev83.trans (by decide +kernel)
                refine Exists.intro 40 ?_
                refine br_t (by decide +kernel) ?_
                refine And.intro (g_in (by decide +kernel)) ?_
                intro v84 ev84; obtain rfl : v84 = 2 := ev84.trans (by decide +kernel)
                refine And.intro (g_in (by decide +kernel)) ?_
                intro v85 ev85; obtain rfl : v85 = 3 := ev85.trans (by decide +kernel)
                intro v86 ev86; obtain rfl : v86 = 0 := ev86.trans (by decide +kernel)
                intro v87 ev87; obtain rfl : v87 = 0 := ev87.trans (by decide +kernel)
                intro v88 ev88; obtain rfl : v88 = 0 := ev88.trans (by decide +kernel)
                intro v89 ev89; obtain rfl : v89 = 0 := ev89.trans (by decide +kernel)
                intro v90 ev90; obtain rfl : v90 = 0 := ev90.trans (by decide +kernel)
                intro v91 ev91; obtain rfl : v91 = 0 := ev91.trans (by decide +kernel)
                intro v92 ev92; obtain rfl : v92 = 0 := ev92.trans (by decide +kernel)
                intro v93 ev93; obtain rfl : v93 = 0 := ev93.trans (by decide +kernel)
                intro v94 ev94; obtain rfl : v94 = 0 := ev94.trans (by decide +kernel)
                exact h _ (((((if_neg (by decide +kernel)).trans (if_neg (by decide +kernel))).trans (if_neg (fun q0 => absurd ((fa_lt p2 0).mp q0) (by have l_0 : (0 : Int32).toInt = 0 := (by decide); have l_1 : (10 : Int32).toInt = 10 := (by decide); have g_hc3 := mt (fa_lt p2 0).mpr hc3; have g_hc4 := mt (fa_lt 10 p2).mpr hc4; omega)))).trans (if_neg (fun q0 => absurd ((fa_lt 10 p2).mp q0) (by have l_0 : (0 : Int32).toInt = 0 := (by decide); have l_1 : (10 : Int32).toInt = 10 := (by decide); have g_hc3 := mt (fa_lt p2 0).mpr hc3; have g_hc4 := mt (fa_lt 10 p2).mpr hc4; omega)))).symm) _ _ _ _
              · skip
                intro v95 ev95; obtain rfl : v95 = 0 := ev95.trans (by decide +kernel)
                intro v96 ev96; obtain rfl : v96 = 4 := ev96.trans (by decide +kernel)
                intro v97 ev97; obtain rfl : v97 = 4 := ev97.trans (by decide +kernel)
                refine Exists.intro 40 ?_
                refine br_t (by decide +kernel) ?_
                intro v98 ev98; obtain rfl : v98 = 0 := ev98.trans (by decide +kernel)
                refine Exists.intro 40 ?_
                refine br_t (by decide +kernel) ?_
                intro v99 ev99; obtain rfl : v99 = 0 := ev99.trans (by decide +kernel)
                intro v100 ev100; obtain rfl : v100 = 0 := ev100.trans (by decide +kernel)
                intro v101 ev101; obtain rfl : v101 = 0 := ev101.trans (by decide +kernel)
                intro v102 ev102; obtain rfl : v102 = 0 := ev102.trans (by decide +kernel)
                intro v103 ev103; obtain rfl : v103 = 0 := ev103.trans (by decide +kernel)
                intro v104 ev104; obtain rfl : v104 = 0 := ev104.trans (by decide +kernel)
                intro v105 ev105; obtain rfl : v105 = 0 := ev105.trans (by decide +kernel)
                intro v106 ev106; obtain rfl : v106 = 0 := ev106.trans (by decide +kernel)
                intro v107 ev107; obtain rfl : v107 = 0 := ev107.trans (by decide +kernel)
                intro v108 ev108; obtain rfl : v108 = 0 := ev108.trans (by decide +kernel)
                intro v109 ev109; obtain rfl : v109 = 0 := ev109.trans (by decide +kernel)
                refine br_f (by decide +kernel) ?_
                intro v110 ev110; obtain rfl : v110 = 5 := ev110.trans (by decide +kernel)
                refine And.intro (fun hc111 => ?_) (fun hc111 => ?_)
                · skip
                  obtain rfl : p1 = 4 := (fa_eq _ _).mpr (by have l_0 : (1 : Int32).toInt = 1 := (by decide); have l_1 : (2 : Int32).toInt = 2 := (by decide); have l_2 : (3 : Int32).toInt = 3 := (by decide); have l_3 : (30 : Int32).toInt = 30 := (by decide); have l_4 : (4 : Int32).toInt = 4 := (by decide); have l_5 : (5 : Int32).toInt = 5 := (by decide); have g_hc1 := mt (fa_lt p1 1).mpr hc1; have g_hc2 := mt (fa_lt 30 p1).mpr hc2; have g_hc21 := mt (fa_lt p1 2).mpr hc21; have g_hc51 := mt (fa_lt p1 3).mpr hc51; have g_hc81 := mt (fa_lt p1 4).mpr hc81; have g_hc111 := (fa_lt p1 5).mp hc111; omega)
                  refine And.intro (g_in (by decide +kernel)) ?_
                  intro v112 ev112; obtain rfl : v112 = 1 := ev112.trans (by decide +kernel)
                  intro v113 ev113; obtain rfl : v113 = 0 := ev113.trans (by decide +kernel)
                  refine Exists.intro 40 ?_
                  refine br_t (by decide +kernel) ?_
                  refine And.intro (g_in (by decide +kernel)) ?_
                  intro v114 ev114; obtain rfl : v114 = 2 := ev114.trans (by decide +kernel)
                  refine And.intro (g_in (by decide +kernel)) ?_
                  intro v115 ev115; obtain rfl : v115 = 3 := ev115.trans (by decide +kernel)
                  intro v116 ev116; obtain rfl : v116 = 0 := ev116.trans (by decide +kernel)
                  intro v117 ev117; obtain rfl : v117 = 0 := ev117.trans (by decide +kernel)
                  intro v118 ev118; obtain rfl : v118 = 0 := ev118.trans (by decide +kernel)
                  intro v119 ev119; obtain rfl : v119 = 0 := ev119.trans (by decide +kernel)
                  intro v120 ev120; obtain rfl : v120 = 0 := ev120.trans (by decide +kernel)
                  intro v121 ev121; obtain rfl : v121 = 0 := ev121.trans (by decide +kernel)
                  intro v122 ev122; obtain rfl : v122 = 0 := ev122.trans (by decide +kernel)
                  intro v123 ev123; obtain rfl : v123 = 0 := ev123.trans (by decide +kernel)
                  intro v124 ev124; obtain rfl : v124 = 0 := ev124.trans (by decide +kernel)
                  exact h _ (((((if_neg (by decide +kernel)).trans (if_neg (by decide +kernel))).trans (if_neg (fun q0 => absurd ((fa_lt p2 0).mp q0) (by have l_0 : (0 : Int32).toInt = 0 := (by decide); have l_1 : (10 : Int32).toInt = 10 := (by decide); have g_hc3 := mt (fa_lt p2 0).mpr hc3; have g_hc4 := mt (fa_lt 10 p2).mpr hc4; omega)))).trans (if_neg (fun q0 => absurd ((fa_lt 10 p2).mp q0) (by have l_0 : (0 : Int32).toInt = 0 := (by decide); have l_1 : (10 : Int32).toInt = 10 := (by decide); have g_hc3 := mt (fa_lt p2 0).mpr hc3; have g_hc4 := mt (fa_lt 10 p2).mpr hc4; omega)))).symm) _ _ _ _
                · skip
                  intro v125 ev125; obtain rfl : v125 = 0 := ev125.trans (by decide +kernel)
                  intro v126 ev126; obtain rfl : v126 = 5 := ev126.trans (by decide +kernel)
                  intro v127 ev127; obtain rfl : v127 = 5 := ev127.trans (by decide +kernel)
                  refine Exists.intro 40 ?_
                  refine br_t (by decide +kernel) ?_
                  intro v128 ev128; obtain rfl : v128 = 0 := ev128.trans (by decide +kernel)
                  refine Exists.intro 40 ?_
                  refine br_t (by decide +kernel) ?_
                  intro v129 ev129; obtain rfl : v129 = 0 := ev129.trans (by decide +kernel)
                  intro v130 ev130; obtain rfl : v130 = 0 := ev130.trans (by decide +kernel)
                  intro v131 ev131; obtain rfl : v131 = 0 := ev131.trans (by decide +kernel)
                  intro v132 ev132; obtain rfl : v132 = 0 := ev132.trans (by decide +kernel)
                  intro v133 ev133; obtain rfl : v133 = 0 := ev133.trans (by decide +kernel)
                  intro v134 ev134; obtain rfl : v134 = 0 := ev134.trans (by decide +kernel)
                  intro v135 ev135; obtain rfl : v135 = 0 := ev135.trans (by decide +kernel)
                  intro v136 ev136; obtain rfl : v136 = 0 := ev136.trans (by decide +kernel)
                  intro v137 ev137; obtain rfl : v137 = 0 := ev137.trans (by decide +kernel)
                  intro v138 ev138; obtain rfl : v138 = 0 := ev138.trans (by decide +kernel)
                  intro v139 ev139; obtain rfl : v139 = 0 := ev139.trans (by decide +kernel)
                  refine br_f (by decide +kernel) ?_
                  intro v140 ev140; obtain rfl : v140 = 6 := ev140.trans (by decide +kernel)
                  refine And.intro (fun hc141 => ?_) (fun hc141 => ?_)
                  · skip
                    obtain rfl : p1 = 5 := (fa_eq _ _).mpr (by have l_0 : (1 : Int32).toInt = 1 := (by decide); have l_1 : (2 : Int32).toInt = 2 := (by decide); have l_2 : (3 : Int32).toInt = 3 := (by decide); have l_3 : (30 : Int32).toInt = 30 := (by decide); have l_4 : (4 : Int32).toInt = 4 := (by decide); have l_5 : (5 : Int32).toInt = 5 := (by decide); have l_6 : (6 : Int32).toInt = 6 := (by decide); have g_hc1 := mt (fa_lt p1 1).mpr hc1; have g_hc2 := mt (fa_lt 30 p1).mpr hc2; have g_hc21 := mt (fa_lt p1 2).mpr hc21; have g_hc51 := mt (fa_lt p1 3).mpr hc51; have g_hc81 := mt (fa_lt p1 4).mpr hc81; have g_hc111 := mt (fa_lt p1 5).mpr hc111; have g_hc141 := (fa_lt p1 6).mp hc141; omega)
                    refine And.intro (g_in (by decide +kernel)) ?_
                    intro v142 ev142; obtain rfl : v142 = 1 := ev142.trans (by decide +kernel)
                    intro v143 ev143; obtain rfl : v143 = 0 := ev143.trans (by decide +kernel)
                    refine Exists.intro 40 ?_
                    refine br_t (by decide +kernel) ?_
                    refine And.intro (g_in (by decide +kernel)) ?_
                    intro v144 ev144; obtain rfl : v144 = 2 := ev144.trans (by decide +kernel)
                    refine And.intro (g_in (by decide +kernel)) ?_
                    intro v145 ev145; obtain rfl : v145 = 3 := ev145.trans (by decide +kernel)
                    intro v146 ev146; obtain rfl : v146 = 0 := ev146.trans (by decide +kernel)
                    intro v147 ev147; obtain rfl : v147 = 0 := ev147.trans (by decide +kernel)
                    intro v148 ev148; obtain rfl : v148 = 0 := ev148.trans (by decide +kernel)
                    intro v149 ev149; obtain rfl : v149 = 0 := ev149.trans (by decide +kernel)
                    intro v150 ev150; obtain rfl : v150 = 0 := ev150.trans (by decide +kernel)
                    intro v151 ev151; obtain rfl : v151 = 0 := ev151.trans (by decide +kernel)
                    intro v152 ev152; obtain rfl : v152 = 0 := ev152.trans (by decide +kernel)
                    intro v153 ev153; obtain rfl : v153 = 0 := ev153.trans (by decide +kernel)
                    intro v154 ev154; obtain rfl : v154 = 0 := ev154.trans (by decide +kernel)
                    exact h _ (((((if_neg (by decide +kernel)).trans (if_neg (by decide +kernel))).trans (if_neg (fun q0 => absurd ((fa_lt p2 0).mp q0) (by have l_0 : (0 : Int32).toInt = 0 := (by decide); have l_1 : (10 : Int32).toInt = 10 := (by decide); have g_hc3 := mt (fa_lt p2 0).mpr hc3; have g_hc4 := mt (fa_lt 10 p2).mpr hc4; omega)))).trans (if_neg (fun q0 => absurd ((fa_lt 10 p2).mp q0) (by have l_0 : (0 : Int32).toInt = 0 := (by decide); have l_1 : (10 : Int32).toInt = 10 := (by decide); have g_hc3 := mt (fa_lt p2 0).mpr hc3; have g_hc4 := mt (fa_lt 10 p2).mpr hc4; omega)))).symm) _ _ _ _
                  · skip
                    intro v155 ev155; obtain rfl : v155 = 0 := ev155.trans (by decide +kernel)
                    intro v156 ev156; obtain rfl : v156 = 6 := ev156.trans (by decide +kernel)
                    intro v157 ev157; obtain rfl : v157 = 6 := ev157.trans (by decide +kernel)
                    refine Exists.intro 40 ?_
                    refine br_t (by decide +kernel) ?_
                    intro v158 ev158; obtain rfl : v158 = 0 := ev158.trans (by decide +kernel)
                    refine Exists.intro 40 ?_
                    refine br_t (by decide +kernel) ?_
                    intro v159 ev159; obtain rfl : v159 = 0 := ev159.trans (by decide +kernel)
                    intro v160 ev160; obtain rfl : v160 = 0 := ev160.trans (by decide +kernel)
                    intro v161 ev161; obtain rfl : v161 = 0 := ev161.trans (by decide +kernel)
                    intro v162 ev162; obtain rfl : v162 = 0 := ev162.trans (by decide +kernel)
                    intro v163 ev163; obtain rfl : v163 = 0 := ev163.trans (by decide +kernel)
                    intro v164 ev164; obtain rfl : v164 = 0 := ev164.trans (by decide +kernel)
                    intro v165 ev165; obtain rfl : v165 = 0 := ev165.trans (by decide +kernel)
                    intro v166 ev166; obtain rfl : v166 = 0 := ev166.trans (by decide +kernel)
                    intro v167 ev167; obtain rfl : v167 = 0 := ev167.trans (by decide +kernel)
                    intro v168 ev168; obtain rfl : v168 = 0 := ev168.trans (by decide +kernel)
                    intro v169 ev169; obtain rfl : v169 = 0 := ev169.trans (by decide +kernel)
                    refine br_f (by decide +kernel) ?_
                    intro v170 ev170; obtain rfl : v170 = 7 := ev170.trans (by decide +kernel)
                    refine And.intro (fun hc171 => ?_) (fun hc171 => ?_)
                    · skip
                      obtain rfl : p1 = 6 := (fa_eq _ _).mpr (by have l_0 : (1 : Int32).toInt = 1 := (by decide); have l_1 : (2 : Int32).toInt = 2 := (by decide); have l_2 : (3 : Int32).toInt = 3 := (by decide); have l_3 : (30 : Int32).toInt = 30 := (by decide); have l_4 : (4 : Int32).toInt = 4 := (by decide); have l_5 : (5 : Int32).toInt = 5 := (by decide); have l_6 : (6 : Int32).toInt = 6 := (by decide); have l_7 : (7 : Int32).toInt = 7 := (by decide); have g_hc1 := mt (fa_lt p1 1).mpr hc1; have g_hc2 := mt (fa_lt 30 p1).mpr hc2; have g_hc21 := mt (fa_lt p1 2).mpr hc21; have g_hc51 := mt (fa_lt p1 3).mpr hc51; have g_hc81 := mt (fa_lt p1 4).mpr hc81; have g_hc111 := mt (fa_lt p1 5).mpr hc111; have g_hc141 := mt (fa_lt p1 6).mpr hc141; have g_hc171 := (fa_lt p1 7).mp hc171; omega)
                      refine And.intro (g_in (by decide +kernel)) ?_
                      intro v172 ev172; obtain rfl : v172 = 1 := ev172.trans (by decide +kernel)
                      intro v173 ev173; obtain rfl : v173 = 0 := ev173.trans (by decide +kernel)
                      refine Exists.intro 40 ?_
                      refine br_t (by decide +kernel) ?_
                      refine And.intro (g_in (by decide +kernel)) ?_
                      intro v174 ev174; obtain rfl : v174 = 2 := ev174.trans (by decide +kernel)
                      refine And.intro (g_in (by decide +kernel)) ?_
                      intro v175 ev175; obtain rfl : v175 = 3 := ev175.trans (by decide +kernel)
                      intro v176 ev176; obtain rfl : v176 = 0 := ev176.trans (by decide +kernel)
                      intro v177 ev177; obtain rfl : v177 = 0 := ev177.trans (by decide +kernel)
                      intro v178 ev178; obtain rfl : v178 = 0 := ev178.trans (by decide +kernel)
                      intro v179 ev179; obtain rfl : v179 = 0 := ev179.trans (by decide +kernel)
                      intro v180 ev180; obtain rfl : v180 = 0 := ev180.trans (by decide +kernel)
                      intro v181 ev181; obtain rfl : v181 = 0 := ev181.trans (by decide +kernel)
                      intro v182 ev182; obtain rfl : v182 = 0 := ev182.trans (by decide +kernel)
                      intro v183 ev183; obtain rfl : v183 = 0 := ev183.trans (by decide +kernel)
                      intro v184 ev184; obtain rfl : v184 = 0 := ev184.trans (by decide +kernel)
                      exact h _ (((((if_neg (by decide +kernel)).trans (if_neg (by decide +kernel))).trans (if_neg (fun q0 => absurd ((fa_lt p2 0).mp q0) (by have l_0 : (0 : Int32).toInt = 0 := (by decide); have l_1 : (10 : Int32).toInt = 10 := (by decide); have g_hc3 := mt (fa_lt p2 0).mpr hc3; have g_hc4 := mt (fa_lt 10 p2).mpr hc4; omega)))).trans (if_neg (fun q0 => absurd ((fa_lt 10 p2).mp q0) (by have l_0 : (0 : Int32).toInt = 0 := (by decide); have l_1 : (10 : Int32).toInt = 10 := (by decide); have g_hc3 := mt (fa_lt p2 0).mpr hc3; have g_hc4 := mt (fa_lt 10 p2).mpr hc4; omega)))).symm) _ _ _ _
                    · skip
                      intro v185 ev185; obtain rfl : v185 = 0 := ev185.trans (by decide +kernel)
                      intro v186 ev186; obtain rfl : v186 = 7 := ev186.trans (by decide +kernel)
                      intro v187 ev187; obtain rfl : v187 = 7 := ev187.trans (by decide +kernel)
                      refine Exists.intro 40 ?_
                      refine br_t (by decide +kernel) ?_
                      intro v188 ev188; obtain rfl : v188 = 0 := ev188.trans (by decide +kernel)
                      refine Exists.intro 40 ?_
                      refine br_t (by decide +kernel) ?_
                      intro v189 ev189; obtain rfl : v189 = 0 := ev189.trans (by decide +kernel)
                      intro v190 ev190; obtain rfl : v190 = 0 := ev190.trans (by decide +kernel)
                      intro v191 ev191; obtain rfl : v191 = 0 := ev191.trans (by decide +kernel)
                      intro v192 ev192; obtain rfl : v192 = 0 := ev192.trans (by decide +kernel)
                      intro v193 ev193; obtain rfl : v193 = 0 := ev193.trans (by decide +kernel)
                      intro v194 ev194; obtain rfl : v194 = 0 := ev194.trans (by decide +kernel)
                      intro v195 ev195; obtain rfl : v195 = 0 := ev195.trans (by decide +kernel)
                      intro v196 ev196; obtain rfl : v196 = 0 := ev196.trans (by decide +kernel)
                      intro v197 ev197; obtain rfl : v197 = 0 := ev197.trans (by decide +kernel)
                      intro v198 ev198; obtain rfl : v198 = 0 := ev198.trans (by decide +kernel)
                      intro v199 ev199; obtain rfl : v199 = 0 := ev199.trans (by decide +kernel)
                      refine br_f (by decide +kernel) ?_
                      intro v200 ev200; obtain rfl : v200 = 8 := ev200.trans (by decide +kernel)
                      refine And.intro (fun hc201 => ?_) (fun hc201 => ?_)
                      · skip
                        obtain rfl : p1 = 7 := (fa_eq _ _).mpr (by have l_0 : (1 : Int32).toInt = 1 := (by decide); have l_1 : (2 : Int32).toInt = 2 := (by decide); have l_2 : (3 : Int32).toInt = 3 := (by decide); have l_3 : (30 : Int32).toInt = 30 := (by decide); have l_4 : (4 : Int32).toInt = 4 := (by decide); have l_5 : (5 : Int32).toInt = 5 := (by decide); have l_6 : (6 : Int32).toInt = 6 := (by decide); have l_7 : (7 : Int32).toInt = 7 := (by decide); have l_8 : (8 : Int32).toInt = 8 := (by decide); have g_hc1 := mt (fa_lt p1 1).mpr hc1; have g_hc2 := mt (fa_lt 30 p1).mpr hc2; have g_hc21 := mt (fa_lt p1 2).mpr hc21; have g_hc51 := mt (fa_lt p1 3).mpr hc51; have g_hc81 := mt (fa_lt p1 4).mpr hc81; have g_hc111 := mt (fa_lt p1 5).mpr hc111; have g_hc141 := mt (fa_lt p1 6).mpr hc141; have g_hc171 := mt (fa_lt p1 7).mpr hc171; have g_hc201 := (fa_lt p1 8).mp hc201; omega)
                        refine And.intro (g_in (by decide +kernel)) ?_
                        intro v202 ev202; obtain rfl : v202 = 1 := ev202.trans (by decide +kernel)
                        intro v203 ev203; obtain rfl : v203 = 0 := ev203.trans (by decide +kernel)
                        refine Exists.intro 40 ?_
                        refine br_t (by decide +kernel) ?_
                        refine And.intro (g_in (by decide +kernel)) ?_
                        intro v204 ev204; obtain rfl : v204 = 2 := ev204.trans (by decide +kernel)
                        refine And.intro (g_in (by decide +kernel)) ?_
                        intro v205 ev205; obtain rfl : v205 = 3 := ev205.trans (by decide +kernel)
                        intro v206 ev206; obtain rfl : v206 = 0 := ev206.trans (by decide +kernel)
                        intro v207 ev207; obtain rfl : v207 = 0 := ev207.trans (by decide +kernel)
                        intro v208 ev208; obtain rfl : v208 = 0 := ev208.trans (by decide +kernel)
                        intro v209 ev209; obtain rfl : v209 = 0 := ev209.trans (by decide +kernel)
                        intro v210 ev210; obtain rfl : v210 = 0 := ev210.trans (by decide +kernel)
                        intro v211 ev211; obtain rfl : v211 = 0 := ev211.trans (by decide +kernel)
                        intro v212 ev212; obtain rfl : v212 = 0 := ev212.trans (by decide +kernel)
                        intro v213 ev213; obtain rfl : v213 = 0 := ev213.trans (by decide +kernel)
                        intro v214 ev214; obtain rfl : v214 = 0 := ev214.trans (by decide +kernel)
                        exact h _ (((((if_neg (by decide +kernel)).trans (if_neg (by decide +kernel))).trans (if_neg (fun q0 => absurd ((fa_lt p2 0).mp q0) (by have l_0 : (0 : Int32).toInt = 0 := (by decide); have l_1 : (10 : Int32).toInt = 10 := (by decide); have g_hc3 := mt (fa_lt p2 0).mpr hc3; have g_hc4 := mt (fa_lt 10 p2).mpr hc4; omega)))).trans (if_neg (fun q0 => absurd ((fa_lt 10 p2).mp q0) (by have l_0 : (0 : Int32).toInt = 0 := (by decide); have l_1 : (10 : Int32).toInt = 10 := (by decide); have g_hc3 := mt (fa_lt p2 0).mpr hc3; have g_hc4 := mt (fa_lt 10 p2).mpr hc4; omega)))).symm) _ _ _ _
                      · skip
                        intro v215 ev215; obtain rfl : v215 = 0 := ev215.trans (by decide +kernel)
                        intro v216 ev216; obtain rfl : v216 = 8 := ev216.trans (by decide +kernel)
                        intro v217 ev217; obtain rfl : v217 = 8 := ev217.trans (by decide +kernel)
                        refine Exists.intro 40 ?_
                        refine br_t (by decide +kernel) ?_
                        intro v218 ev218; obtain rfl : v218 = 0 := ev218.trans (by decide +kernel)
                        refine Exists.intro 40 ?_
                        refine br_t (by decide +kernel) ?_
                        intro v219 ev219; obtain rfl : v219 = 0 := ev219.trans (by decide +kernel)
                        intro v220 ev220; obtain rfl : v220 = 0 := ev220.trans (by decide +kernel)
                        intro v221 ev221; obtain rfl : v221 = 0 := ev221.trans (by decide +kernel)
                        intro v222 ev222; obtain rfl : v222 = 0 := ev222.trans (by decide +kernel)
                        intro v223 ev223; obtain rfl : v223 = 0 := ev223.trans (by decide +kernel)
                        intro v224 ev224; obtain rfl : v224 = 0 := ev224.trans (by decide +kernel)
                        intro v225 ev225; obtain rfl : v225 = 0 := ev225.trans (by decide +kernel)
                        intro v226 ev226; obtain rfl : v226 = 0 := ev226.trans (by decide +kernel)
                        intro v227 ev227; obtain rfl : v227 = 0 := ev227.trans (by decide +kernel)
                        intro v228 ev228; obtain rfl : v228 = 0 := ev228.trans (by decide +kernel)
                        intro v229 ev229; obtain rfl : v229 = 0 := ev229.trans (by decide +kernel)
                        refine br_f (by decide +kernel) ?_
                        intro v230 ev230; obtain rfl : v230 = 9 := ev230.trans (by decide +kernel)
                        refine And.intro (fun hc231 => ?_) (fun hc231 => ?_)
                        · skip
                          obtain rfl : p1 = 8 := (fa_eq _ _).mpr (by have l_0 : (1 : Int32).toInt = 1 := (by decide); have l_1 : (2 : Int32).toInt = 2 := (by decide); have l_2 : (3 : Int32).toInt = 3 := (by decide); have l_3 : (30 : Int32).toInt = 30 := (by decide); have l_4 : (4 : Int32).toInt = 4 := (by decide); have l_5 : (5 : Int32).toInt = 5 := (by decide); have l_6 : (6 : Int32).toInt = 6 := (by decide); have l_7 : (7 : Int32).toInt = 7 := (by decide); have l_8 : (8 : Int32).toInt = 8 := (by decide); have l_9 : (9 : Int32).toInt = 9 := (by decide); have g_hc1 := mt (fa_lt p1 1).mpr hc1; have g_hc2 := mt (fa_lt 30 p1).mpr hc2; have g_hc21 := mt (fa_lt p1 2).mpr hc21; have g_hc51 := mt (fa_lt p1 3).mpr hc51; have g_hc81 := mt (fa_lt p1 4).mpr hc81; have g_hc111 := mt (fa_lt p1 5).mpr hc111; have g_hc141 := mt (fa_lt p1 6).mpr hc141; have g_hc171 := mt (fa_lt p1 7).mpr hc171; have g_hc201 := mt (fa_lt p1 8).mpr hc201; have g_hc231 := (fa_lt p1 9).mp hc231; omega)
                          refine And.intro (g_in (by decide +kernel)) ?_
                          intro v232 ev232; obtain rfl : v232 = 1 := ev232.trans (by decide +kernel)
                          intro v233 ev233; obtain rfl : v233 = 0 := ev233.trans (by decide +kernel)
                          refine Exists.intro 40 ?_
                          refine br_t (by decide +kernel) ?_
                          refine And.intro (g_in (by decide +kernel)) ?_
                          intro v234 ev234; obtain rfl : v234 = 2 := ev234.trans (by decide +kernel)
                          refine And.intro (g_in (by decide +kernel)) ?_
                          intro v235 ev235; obtain rfl : v235 = 3 := ev235.trans (by decide +kernel)
                          intro v236 ev236; obtain rfl : v236 = 0 := ev236.trans (by decide +kernel)
                          intro v237 ev237; obtain rfl : v237 = 0 := ev237.trans (by decide +kernel)
                          intro v238 ev238; obtain rfl : v238 = 0 := ev238.trans (by decide +kernel)
                          intro v239 ev239; obtain rfl : v239 = 0 := ev239.trans (by decide +kernel)
                          intro v240 ev240; obtain rfl : v240 = 0 := ev240.trans (by decide +kernel)
                          intro v241 ev241; obtain rfl : v241 = 0 := ev241.trans (by decide +kernel)
                          intro v242 ev242; obtain rfl : v242 = 0 := ev242.trans (by decide +kernel)
                          intro v243 ev243; obtain rfl : v243 = 0 := ev243.trans (by decide +kernel)
                          intro v244 ev244; obtain rfl : v244 = 0 := ev244.trans (by decide +kernel)
                          exact h _ (((((if_neg (by decide +kernel)).trans (if_neg (by decide +kernel))).trans (if_neg (fun q0 => absurd ((fa_lt p2 0).mp q0) (by have l_0 : (0 : Int32).toInt = 0 := (by decide); have l_1 : (10 : Int32).toInt = 10 := (by decide); have g_hc3 := mt (fa_lt p2 0).mpr hc3; have g_hc4 := mt (fa_lt 10 p2).mpr hc4; omega)))).trans (if_neg (fun q0 => absurd ((fa_lt 10 p2).mp q0) (by have l_0 : (0 : Int32).toInt = 0 := (by decide); have l_1 : (10 : Int32).toInt = 10 := (by decide); have g_hc3 := mt (fa_lt p2 0).mpr hc3; have g_hc4 := mt (fa_lt 10 p2).mpr hc4; omega)))).symm) _ _ _ _
                        · skip
                          intro v245 ev245; obtain rfl : v245 = 0 := ev245.trans (by decide +kernel)
                          intro v246 ev246; obtain rfl : v246 = 9 := ev246.trans (by decide +kernel)
                          intro v247 ev247; obtain rfl : v247 = 9 := ev247.trans (by decide +kernel)
                          refine Exists.intro 40 ?_
                          refine br_t (by decide +kernel) ?_
                          intro v248 ev248; obtain rfl : v248 = 0 := ev248.trans (by decide +kernel)
                          refine Exists.intro 40 ?_
                          refine br_t (by decide +kernel) ?_
                          intro v249 ev249; obtain rfl : v249 = 0 := ev249.trans (by decide +kernel)
                          intro v250 ev250; obtain rfl : v250 = 0 := ev250.trans (by decide +kernel)
                          intro v251 ev251; obtain rfl : v251 = 0 := ev251.trans (by decide +kernel)
                          intro v252 ev252; obtain rfl : v252 = 0 := ev252.trans (by decide +kernel)
                          intro v253 ev253; obtain rfl : v253 = 0 := ev253.trans (by decide +kernel)
                          intro v254 ev254; obtain rfl : v254 = 0 := ev254.trans (by decide +kernel)
                          intro v255 ev255; obtain rfl : v255 = 0 := ev255.trans (by decide +kernel)
                          intro v256 ev256; obtain rfl : v256 = 0 := ev256.trans (by decide +kernel)
                          intro v257 ev257; obtain rfl : v257 = 0 := ev257.trans (by decide +kernel)
                          intro v258 ev258; obtain rfl : v258 = 0 := ev258.trans (by decide +kernel)
                          intro v259 ev259; obtain rfl : v259 = 0 := ev259.trans (by decide +kernel)
                          refine br_f (by decide +kernel) ?_
                          intro v260 ev260; obtain rfl : v260 = 10 := ev260.trans (by decide +kernel)
                          refine And.intro (fun hc261 => ?_) (fun hc261 => ?_)
                          · skip
                            obtain rfl : p1 = 9 := (fa_eq _ _).mpr (by have l_0 : (1 : Int32).toInt = 1 := (by decide); have l_1 : (10 : Int32).toInt = 10 := (by decide); have l_2 : (2 : Int32).toInt = 2 := (by decide); have l_3 : (3 : Int32).toInt = 3 := (by decide); have l_4 : (30 : Int32).toInt = 30 := (by decide); have l_5 : (4 : Int32).toInt = 4 := (by decide); have l_6 : (5 : Int32).toInt = 5 := (by decide); have l_7 : (6 : Int32).toInt = 6 := (by decide); have l_8 : (7 : Int32).toInt = 7 := (by decide); have l_9 : (8 : Int32).toInt = 8 := (by decide); have l_10 : (9 : Int32).toInt = 9 := (by decide); have g_hc1 := mt (fa_lt p1 1).mpr hc1; have g_hc2 := mt (fa_lt 30 p1).mpr hc2; have g_hc21 := mt (fa_lt p1 2).mpr hc21; have g_hc51 := mt (fa_lt p1 3).mpr hc51; have g_hc81 := mt (fa_lt p1 4).mpr hc81; have g_hc111 := mt (fa_lt p1 5).mpr hc111; have g_hc141 := mt (fa_lt p1 6).mpr hc141; have g_hc171 := mt (fa_lt p1 7).mpr hc171; have g_hc201 := mt (fa_lt p1 8).mpr hc201; have g_hc231 := mt (fa_lt p1 9).mpr hc231; have g_hc261 := (fa_lt p1 10).mp hc261; omega)
                            refine And.intro (g_in (by decide +kernel)) ?_
                            intro v262 ev262; obtain rfl : v262 = 1 := ev262.trans (by decide +kernel)
                            intro v263 ev263; obtain rfl : v263 = 0 := ev263.trans (by decide +kernel)
                            refine Exists.intro 40 ?_
                            refine br_t (by decide +kernel) ?_
                            refine And.intro (g_in (by decide +kernel)) ?_
                            intro v264 ev264; obtain rfl : v264 = 2 := ev264.trans (by decide +kernel)
                            refine And.intro (g_in (by decide +kernel)) ?_
                            intro v265 ev265; obtain rfl : v265 = 3 := ev265.trans (by decide +kernel)
                            intro v266 ev266; obtain rfl : v266 = 0 := ev266.trans (by decide +kernel)
                            intro v267 ev267; obtain rfl : v267 = 0 := ev267.trans (by decide +kernel)
                            intro v268 ev268; obtain rfl : v268 = 0 := ev268.trans (by decide +kernel)
                            intro v269 ev269; obtain rfl : v269 = 0 := ev269.trans (by decide +kernel)
                            intro v270 ev270; obtain rfl : v270 = 0 := ev270.trans (by decide +kernel)
                            intro v271 ev271; obtain rfl : v271 = 0 := ev271.trans (by decide +kernel)
                            intro v272 ev272; obtain rfl : v272 = 0 := ev272.trans (by decide +kernel)
                            intro v273 ev273; obtain rfl : v273 = 0 := ev273.trans (by decide +kernel)
                            intro v274 ev274; obtain rfl : v274 = 0 := ev274.trans (by decide +kernel)
                            exact h _ (((((if_neg (by decide +kernel)).trans (if_neg (by decide +kernel))).trans (if_neg (fun q0 => absurd ((fa_lt p2 0).mp q0) (by have l_0 : (0 : Int32).toInt = 0 := (by decide); have l_1 : (10 : Int32).toInt = 10 := (by decide); have g_hc3 := mt (fa_lt p2 0).mpr hc3; have g_hc4 := mt (fa_lt 10 p2).mpr hc4; omega)))).trans (if_neg (fun q0 => absurd ((fa_lt 10 p2).mp q0) (by have l_0 : (0 : Int32).toInt = 0 := (by decide); have l_1 : (10 : Int32).toInt = 10 := (by decide); have g_hc3 := mt (fa_lt p2 0).mpr hc3; have g_hc4 := mt (fa_lt 10 p2).mpr hc4; omega)))).symm) _ _ _ _
                          · skip
                            intro v275 ev275; obtain rfl : v275 = 0 := ev275.trans (by decide +kernel)
                            intro v276 ev276; obtain rfl : v276 = 10 := ev276.trans (by decide +kernel)
                            intro v277 ev277; obtain rfl : v277 = 9 := ev277.trans (by decide +kernel)
                            refine Exists.intro 40 ?_
                            refine br_t (by decide +kernel) ?_
                            intro v278 ev278; obtain rfl : v278 = 0 := ev278.trans (by decide +kernel)
                            refine Exists.intro 40 ?_
                            refine br_t (by decide +kernel) ?_
                            intro v279 ev279; obtain rfl : v279 = 0 := ev279.trans (by decide +kernel)
                            intro v280 ev280; obtain rfl : v280 = 0 := ev280.trans (by decide +kernel)
                            intro v281 ev281; obtain rfl : v281 = 0 := ev281.trans (by decide +kernel)
                            intro v282 ev282; obtain rfl : v282 = 0 := ev282.trans (by decide +kernel)
                            intro v283 ev283; obtain rfl : v283 = 0 := ev283.trans (by decide +kernel)
                            intro v284 ev284; obtain rfl : v284 = 0 := ev284.trans (by decide +kernel)
                            intro v285 ev285; obtain rfl : v285 = 0 := ev285.trans (by decide +kernel)
                            intro v286 ev286; obtain rfl : v286 = 0 := ev286.trans (by decide +kernel)
                            intro v287 ev287; obtain rfl : v287 = 0 := ev287.trans (by decide +kernel)
                            intro v288 ev288; obtain rfl : v288 = 0 := ev288.trans (by decide +kernel)
                            intro v289 ev289; obtain rfl : v289 = 0 := ev289.trans (by decide +kernel)
                            refine br_f (by decide +kernel) ?_
                            intro v290 ev290; obtain rfl : v290 = 11 := ev290.trans (by decide +kernel)
                            refine And.intro (fun hc291 => ?_) (fun hc291 => ?_)
                            · skip
                              obtain rfl : p1 = 10 := (fa_eq _ _).mpr (by have l_0 : (1 : Int32).toInt = 1 := (by decide); have l_1 : (10 : Int32).toInt = 10 := (by decide); have l_2 : (11 : Int32).toInt = 11 := (by decide); have l_3 : (2 : Int32).toInt = 2 := (by decide); have l_4 : (3 : Int32).toInt = 3 := (by decide); have l_5 : (30 : Int32).toInt = 30 := (by decide); have l_6 : (4 : Int32).toInt = 4 := (by decide); have l_7 : (5 : Int32).toInt = 5 := (by decide); have l_8 : (6 : Int32).toInt = 6 := (by decide); have l_9 : (7 : Int32).toInt = 7 := (by decide); have l_10 : (8 : Int32).toInt = 8 := (by decide); have l_11 : (9 : Int32).toInt = 9 := (by decide); have g_hc1 := mt (fa_lt p1 1).mpr hc1; have g_hc2 := mt (fa_lt 30 p1).mpr hc2; have g_hc21 := mt (fa_lt p1 2).mpr hc21; have g_hc51 := mt (fa_lt p1 3).mpr hc51; have g_hc81 := mt (fa_lt p1 4).mpr hc81; have g_hc111 := mt (fa_lt p1 5).mpr hc111; have g_hc141 := mt (fa_lt p1 6).mpr hc141; have g_hc171 := mt (fa_lt p1 7).mpr hc171; have g_hc201 := mt (fa_lt p1 8).mpr hc201; have g_hc231 := mt (fa_lt p1 9).mpr hc231; have g_hc261 := mt (fa_lt p1 10).mpr hc261; have g_hc291 := (fa_lt p1 11).mp hc291; omega)
                              refine And.intro (g_in (by decide +kernel)) ?_
                              intro v292 ev292; obtain rfl : v292 = 1 := ev292.trans (by decide +kernel)
                              intro v293 ev293; obtain rfl : v293 = 0 := ev293.trans (by decide +kernel)
                              refine Exists.intro 40 ?_
                              refine br_t (by decide +kernel) ?_
                              refine And.intro (g_in (by decide +kernel)) ?_
                              intro v294 ev294; obtain rfl : v294 = 2 := ev294.trans (by decide +kernel)
                              refine And.intro (g_in (by decide +kernel)) ?_
                              intro v295 ev295; obtain rfl : v295 = 3 := ev295.trans (by decide +kernel)
                              intro v296 ev296; obtain rfl : v296 = 0 := ev296.trans (by decide +kernel)
                              intro v297 ev297; obtain rfl : v297 = 0 := ev297.trans (by decide +kernel)
                              intro v298 ev298; obtain rfl : v298 = 0 := ev298.trans (by decide +kernel)
                              intro v299 ev299; obtain rfl : v299 = 0 := ev299.trans (by decide +kernel)
                              intro v300 ev300; obtain rfl : v300 = 0 := ev300.trans (by decide +kernel)
                              intro v301 ev301; obtain rfl : v301 = 0 := ev301.trans (by decide +kernel)
                              intro v302 ev302; obtain rfl : v302 = 0 := ev302.trans (by decide +kernel)
                              intro v303 ev303; obtain rfl : v303 = 0 := ev303.trans (by decide +kernel)
                              intro v304 ev304; obtain rfl : v304 = 0 := ev304.trans (by decide +kernel)
                              exact h _ (((((if_neg (by decide +kernel)).trans (if_neg (by decide +kernel))).trans (if_neg (fun q0 => absurd ((fa_lt p2 0).mp q0) (by have l_0 : (0 : Int32).toInt = 0 := (by decide); have l_1 : (10 : Int32).toInt = 10 := (by decide); have g_hc3 := mt (fa_lt p2 0).mpr hc3; have g_hc4 := mt (fa_lt 10 p2).mpr hc4; omega)))).trans (if_neg (fun q0 => absurd ((fa_lt 10 p2).mp q0) (by have l_0 : (0 : Int32).toInt = 0 := (by decide); have l_1 : (10 : Int32).toInt = 10 := (by decide); have g_hc3 := mt (fa_lt p2 0).mpr hc3; have g_hc4 := mt (fa_lt 10 p2).mpr hc4; omega)))).symm) _ _ _ _
                            · skip
                              intro v305 ev305; obtain rfl : v305 = 0 := ev305.trans (by decide +kernel)
                              intro v306 ev306; obtain rfl : v306 = 11 := ev306.trans (by decide +kernel)
                              intro v307 ev307; obtain rfl : v307 = 9 := ev307.trans (by decide +kernel)
                              refine Exists.intro 40 ?_
                              refine br_t (by decide +kernel) ?_
                              intro v308 ev308; obtain rfl : v308 = 0 := ev308.trans (by decide +kernel)
                              refine Exists.intro 40 ?_
                              refine br_t (by decide +kernel) ?_
                              intro v309 ev309; obtain rfl : v309 = 0 := ev309.trans (by decide +kernel)
                              intro v310 ev310; obtain rfl : v310 = 0 := ev310.trans (by decide +kernel)
                              intro v311 ev311; obtain rfl : v311 = 0 := ev311.trans (by decide +kernel)
                              intro v312 ev312; obtain rfl : v312 = 0 := ev312.trans (by decide +kernel)
                              intro v313 ev313; obtain rfl : v313 = 0 := ev313.trans (by decide +kernel)
                              intro v314 ev314; obtain rfl : v314 = 0 := ev314.trans (by decide +kernel)
                              intro v315 ev315; obtain rfl : v315 = 0 := ev315.trans (by decide +kernel)
                              intro v316 ev316; obtain rfl : v316 = 0 := ev316.trans (by decide +kernel)
                              intro v317 ev317; obtain rfl : v317 = 0 := ev317.trans (by decide +kernel)
                              intro v318 ev318; obtain rfl : v318 = 0 := ev318.trans (by decide +kernel)
                              intro v319 ev319; obtain rfl : v319 = 0 := ev319.trans (by decide +kernel)
                              refine br_f (by decide +kernel) ?_
                              intro v320 ev320; obtain rfl : v320 = 12 := ev320.trans (by decide +kernel)
                              refine And.intro (fun hc321 => ?_) (fun hc321 => ?_)
                              · skip
                                obtain rfl : p1 = 11 := (fa_eq _ _).mpr (by have l_0 : (1 : Int32).toInt = 1 := (by decide); have l_1 : (10 : Int32).toInt = 10 := (by decide); have l_2 : (11 : Int32).toInt = 11 := (by decide); have l_3 : (12 : Int32).toInt = 12 := (by decide); have l_4 : (2 : Int32).toInt = 2 := (by decide); have l_5 : (3 : Int32).toInt = 3 := (by decide); have l_6 : (30 : Int32).toInt = 30 := (by decide); have l_7 : (4 : Int32).toInt = 4 := (by decide); have l_8 : (5 : Int32).toInt = 5 := (by decide); have l_9 : (6 : Int32).toInt = 6 := (by decide); have l_10 : (7 : Int32).toInt = 7 := (by decide); have l_11 : (8 : Int32).toInt = 8 := (by decide); have l_12 : (9 : Int32).toInt = 9 := (by decide); have g_hc1 := mt (fa_lt p1 1).mpr hc1; have g_hc2 := mt (fa_lt 30 p1).mpr hc2; have g_hc21 := mt (fa_lt p1 2).mpr hc21; have g_hc51 := mt (fa_lt p1 3).mpr hc51; have g_hc81 := mt (fa_lt p1 4).mpr hc81; have g_hc111 := mt (fa_lt p1 5).mpr hc111; have g_hc141 := mt (fa_lt p1 6).mpr hc141; have g_hc171 := mt (fa_lt p1 7).mpr hc171; have g_hc201 := mt (fa_lt p1 8).mpr hc201; have g_hc231 := mt (fa_lt p1 9).mpr hc231; have g_hc261 := mt (fa_lt p1 10).mpr hc261; have g_hc291 := mt (fa_lt p1 11).mpr hc291; have g_hc321 := (fa_lt p1 12).mp hc321; omega)
                                refine And.intro (g_in (by decide +kernel)) ?_
                                intro v322 ev322; obtain rfl : v322 = 1 := ev322.trans (by decide +kernel)
                                intro v323 ev323; obtain rfl : v323 = 0 := ev323.trans (by decide +kernel)
                                refine Exists.intro 40 ?_
                                refine br_t (by decide +kernel) ?_
                                refine And.intro (g_in (by decide +kernel)) ?_
                                intro v324 ev324; obtain rfl : v324 = 2 := ev324.trans (by decide +kernel)
                                refine And.intro (g_in (by decide +kernel)) ?_
                                intro v325 ev325; obtain rfl : v325 = 3 := ev325.trans (by decide +kernel)
                                intro v326 ev326; obtain rfl : v326 = 0 := ev326.trans (by decide +kernel)
                                intro v327 ev327; obtain rfl : v327 = 0 := ev327.trans (by decide +kernel)
                                intro v328 ev328; obtain rfl : v328 = 0 := ev328.trans (by decide +kernel)
                                intro v329 ev329; obtain rfl : v329 = 0 := ev329.trans (by decide +kernel)
                                intro v330 ev330; obtain rfl : v330 = 0 := ev330.trans (by decide +kernel)
                                intro v331 ev331; obtain rfl : v331 = 0 := ev331.trans (by decide +kernel)
                                intro v332 ev332; obtain rfl : v332 = 0 := ev332.trans (by decide +kernel)
                                intro v333 ev333; obtain rfl : v333 = 0 := ev333.trans (by decide +kernel)
                                intro v334 ev334; obtain rfl : v334 = 0 := ev334.trans (by decide +kernel)
                                exact h _ (((((if_neg (by decide +kernel)).trans (if_neg (by decide +kernel))).trans (if_neg (fun q0 => absurd ((fa_lt p2 0).mp q0) (by have l_0 : (0 : Int32).toInt = 0 := (by decide); have l_1 : (10 : Int32).toInt = 10 := (by decide); have g_hc3 := mt (fa_lt p2 0).mpr hc3; have g_hc4 := mt (fa_lt 10 p2).mpr hc4; omega)))).trans (if_neg (fun q0 => absurd ((fa_lt 10 p2).mp q0) (by have l_0 : (0 : Int32).toInt = 0 := (by decide); have l_1 : (10 : Int32).toInt = 10 := (by decide); have g_hc3 := mt (fa_lt p2 0).mpr hc3; have g_hc4 := mt (fa_lt 10 p2).mpr hc4; omega)))).symm) _ _ _ _
                              · skip
                                intro v335 ev335; obtain rfl : v335 = 0 := ev335.trans (by decide +kernel)
                                intro v336 ev336; obtain rfl : v336 = 12 := ev336.trans (by decide +kernel)
                                intro v337 ev337; obtain rfl : v337 = 9 := ev337.trans (by decide +kernel)
                                refine Exists.intro 40 ?_
                                refine br_t (by decide +kernel) ?_
                                intro v338 ev338; obtain rfl : v338 = 0 := ev338.trans (by decide +kernel)
                                refine Exists.intro 40 ?_
                                refine br_t (by decide +kernel) ?_
                                intro v339 ev339; obtain rfl : v339 = 0 := ev339.trans (by decide +kernel)
                                intro v340 ev340; obtain rfl : v340 = 0 := ev340.trans (by decide +kernel)
                                intro v341 ev341; obtain rfl : v341 = 0 := ev341.trans (by decide +kernel)
                                intro v342 ev342; obtain rfl : v342 = 0 := ev342.trans (by decide +kernel)
                                intro v343 ev343; obtain rfl : v343 = 0 := ev343.trans (by decide +kernel)
                                intro v344 ev344; obtain rfl : v344 = 0 := ev344.trans (by decide +kernel)
                                intro v345 ev345; obtain rfl : v345 = 0 := ev345.trans (by decide +kernel)
                                intro v346 ev346; obtain rfl : v346 = 0 := ev346.trans (by decide +kernel)
                                intro v347 ev347; obtain rfl : v347 = 0 := ev347.trans (by decide +kernel)
                                intro v348 ev348; obtain rfl : v348 = 0 := ev348.trans (by decide +kernel)
                                intro v349 ev349; obtain rfl : v349 = 0 := ev349.trans (by decide +kernel)
                                refine br_f (by decide +kernel) ?_
                                intro v350 ev350; obtain rfl : v350 = 13 := ev350.trans (by decide +kernel)
                                refine And.intro (fun hc351 => ?_) (fun hc351 => ?_)
                                · skip
                                  obtain rfl : p1 = 12 := (fa_eq _ _).mpr (by have l_0 : (1 : Int32).toInt = 1 := (by decide); have l_1 : (10 : Int32).toInt = 10 := (by decide); have l_2 : (11 : Int32).toInt = 11 := (by decide); have l_3 : (12 : Int32).toInt = 12 := (by decide); have l_4 : (13 : Int32).toInt = 13 := (by decide); have l_5 : (2 : Int32).toInt = 2 := (by decide); have l_6 : (3 : Int32).toInt = 3 := (by decide); have l_7 : (30 : Int32).toInt = 30 := (by decide); have l_8 : (4 : Int32).toInt = 4 := (by decide); have l_9 : (5 : Int32).toInt = 5 := (by decide); have l_10 : (6 : Int32).toInt = 6 := (by decide); have l_11 : (7 : Int32).toInt = 7 := (by decide); have l_12 : (8 : Int32).toInt = 8 := (by decide); have l_13 : (9 : Int32).toInt = 9 := (by decide); have g_hc1 := mt (fa_lt p1 1).mpr hc1; have g_hc2 := mt (fa_lt 30 p1).mpr hc2; have g_hc21 := mt (fa_lt p1 2).mpr hc21; have g_hc51 := mt (fa_lt p1 3).mpr hc51; have g_hc81 := mt (fa_lt p1 4).mpr hc81; have g_hc111 := mt (fa_lt p1 5).mpr hc111; have g_hc141 := mt (fa_lt p1 6).mpr hc141; have g_hc171 := mt (fa_lt p1 7).mpr hc171; have g_hc201 := mt (fa_lt p1 8).mpr hc201; have g_hc231 := mt (fa_lt p1 9).mpr hc231; have g_hc261 := mt (fa_lt p1 10).mpr hc261; have g_hc291 := mt (fa_lt p1 11).mpr hc291; have g_hc321 := mt (fa_lt p1 12).mpr hc321; have g_hc351 := (fa_lt p1 13).mp hc351; omega)
                                  refine And.intro (g_in (by decide +kernel)) ?_
                                  intro v352 ev352; obtain rfl : v352 = 1 := ev352.trans (by decide +kernel)
                                  intro v353 ev353; obtain rfl : v353 = 0 := ev353.trans (by decide +kernel)
                                  refine Exists.intro 40 ?_
                                  refine br_t (by decide +kernel) ?_
                                  refine And.intro (g_in (by decide +kernel)) ?_
                                  intro v354 ev354; obtain rfl : v354 = 2 := ev354.trans (by decide +kernel)
                                  refine And.intro (g_in (by decide +kernel)) ?_
                                  intro v355 ev355; obtain rfl : v355 = 3 := ev355.trans (by decide +kernel)
                                  intro v356 ev356; obtain rfl : v356 = 0 := ev356.trans (by decide +kernel)
                                  intro v357 ev357; obtain rfl : v357 = 0 := ev357.trans (by decide +kernel)
                                  intro v358 ev358; obtain rfl : v358 = 0 := ev358.trans (by decide +kernel)
                                  intro v359 ev359; obtain rfl : v359 = 0 := ev359.trans (by decide +kernel)
                                  intro v360 ev360; obtain rfl : v360 = 0 := ev360.trans (by decide +kernel)
                                  intro v361 ev361; obtain rfl : v361 = 0 := ev361.trans (by decide +kernel)
                                  intro v362 ev362; obtain rfl : v362 = 0 := ev362.trans (by decide +kernel)
                                  intro v363 ev363; obtain rfl : v363 = 0 := ev363.trans (by decide +kernel)
                                  intro v364 ev364; obtain rfl : v364 = 0 := ev364.trans (by decide +kernel)
                                  exact h _ (((((if_neg (by decide +kernel)).trans (if_neg (by decide +kernel))).trans (if_neg (fun q0 => absurd ((fa_lt p2 0).mp q0) (by have l_0 : (0 : Int32).toInt = 0 := (by decide); have l_1 : (10 : Int32).toInt = 10 := (by decide); have g_hc3 := mt (fa_lt p2 0).mpr hc3; have g_hc4 := mt (fa_lt 10 p2).mpr hc4; omega)))).trans (if_neg (fun q0 => absurd ((fa_lt 10 p2).mp q0) (by have l_0 : (0 : Int32).toInt = 0 := (by decide); have l_1 : (10 : Int32).toInt = 10 := (by decide); have g_hc3 := mt (fa_lt p2 0).mpr hc3; have g_hc4 := mt (fa_lt 10 p2).mpr hc4; omega)))).symm) _ _ _ _
                                · skip
                                  intro v365 ev365; obtain rfl : v365 = 0 := ev365.trans (by decide +kernel)
                                  intro v366 ev366; obtain rfl : v366 = 13 := ev366.trans (by decide +kernel)
                                  intro v367 ev367; obtain rfl : v367 = 9 := ev367.trans (by decide +kernel)
                                  refine Exists.intro 40 ?_
                                  refine br_t (by decide +kernel) ?_
                                  intro v368 ev368; obtain rfl : v368 = 0 := ev368.trans (by decide +kernel)
                                  refine Exists.intro 40 ?_
                                  refine br_t (by decide +kernel) ?_
                                  intro v369 ev369; obtain rfl : v369 = 0 := ev369.trans (by decide +kernel)
                                  intro v370 ev370; obtain rfl : v370 = 0 := ev370.trans (by decide +kernel)
                                  intro v371 ev371; obtain rfl : v371 = 0 := ev371.trans (by decide +kernel)
                                  intro v372 ev372; obtain rfl : v372 = 0 := ev372.trans (by decide +kernel)
                                  intro v373 ev373; obtain rfl : v373 = 0 := ev373.trans (by decide +kernel)
                                  intro v374 ev374; obtain rfl : v374 = 0 := ev374.trans (by decide +kernel)
                                  intro v375 ev375; obtain rfl : v375 = 0 := ev375.trans (by decide +kernel)
                                  intro v376 ev376; obtain rfl : v376 = 0 := ev376.trans (by decide +kernel)
                                  intro v377 ev377; obtain rfl : v377 = 0 := ev377.trans (by decide +kernel)
                                  intro v378 ev378; obtain rfl : v378 = 0 := ev378.trans (by decide +kernel)
                                  intro v379 ev379; obtain rfl : v379 = 0 := ev379.trans (by decide +kernel)
                                  refine br_f (by decide +kernel) ?_
                                  intro v380 ev380; obtain rfl : v380 = 14 := ev380.trans (by decide +kernel)
                                  refine And.intro (fun hc381 => ?_) (fun hc381 => ?_)
                                  · skip
                                    obtain rfl : p1 = 13 := (fa_eq _ _).mpr (by have l_0 : (1 : Int32).toInt = 1 := (by decide); have l_1 : (10 : Int32).toInt = 10 := (by decide); have l_2 : (11 : Int32).toInt = 11 := (by decide); have l_3 : (12 : Int32).toInt = 12 := (by decide); have l_4 : (13 : Int32).toInt = 13 := (by decide); have l_5 : (14 : Int32).toInt = 14 := (by decide); have l_6 : (2 : Int32).toInt = 2 := (by decide); have l_7 : (3 : Int32).toInt = 3 := (by decide); have l_8 : (30 : Int32).toInt = 30 := (by decide); have l_9 : (4 : Int32).toInt = 4 := (by decide); have l_10 : (5 : Int32).toInt = 5 := (by decide); have l_11 : (6 : Int32).toInt = 6 := (by decide); have l_12 : (7 : Int32).toInt = 7 := (by decide); have l_13 : (8 : Int32).toInt = 8 := (by decide); have l_14 : (9 : Int32).toInt = 9 := (by decide); have g_hc1 := mt (fa_lt p1 1).mpr hc1; have g_hc2 := mt (fa_lt 30 p1).mpr hc2; have g_hc21 := mt (fa_lt p1 2).mpr hc21; have g_hc51 := mt (fa_lt p1 3).mpr hc51; have g_hc81 := mt (fa_lt p1 4).mpr hc81; have g_hc111 := mt (fa_lt p1 5).mpr hc111; have g_hc141 := mt (fa_lt p1 6).mpr hc141; have g_hc171 := mt (fa_lt p1 7).mpr hc171; have g_hc201 := mt (fa_lt p1 8).mpr hc201; have g_hc231 := mt (fa_lt p1 9).mpr hc231; have g_hc261 := mt (fa_lt p1 10).mpr hc261; have g_hc291 := mt (fa_lt p1 11).mpr hc291; have g_hc321 := mt (fa_lt p1 12).mpr hc321; have g_hc351 := mt (fa_lt p1 13).mpr hc351; have g_hc381 := (fa_lt p1 14).mp hc381; omega)
                                    refine And.intro (g_in (by decide +kernel)) ?_
                                    intro v382 ev382; obtain rfl : v382 = 1 := ev382.trans (by decide +kernel)
                                    intro v383 ev383; obtain rfl : v383 = 0 := ev383.trans (by decide +kernel)
                                    refine Exists.intro 40 ?_
                                    refine br_t (by decide +kernel) ?_
                                    refine And.intro (g_in (by decide +kernel)) ?_
                                    intro v384 ev384; obtain rfl : v384 = 2 := ev384.trans (by decide +kernel)
                                    refine And.intro (g_in (by decide +kernel)) ?_
                                    intro v385 ev385; obtain rfl : v385 = 3 := ev385.trans (by decide +kernel)
                                    intro v386 ev386; obtain rfl : v386 = 0 := ev386.trans (by decide +kernel)
                                    intro v387 ev387; obtain rfl : v387 = 0 := ev387.trans (by decide +kernel)
                                    intro v388 ev388; obtain rfl : v388 = 0 := ev388.trans (by decide +kernel)
                                    intro v389 ev389; obtain rfl : v389 = 0 := ev389.trans (by decide +kernel)
                                    intro v390 ev390; obtain rfl : v390 = 0 := ev390.trans (by decide +kernel)
                                    intro v391 ev391; obtain rfl : v391 = 0 := ev391.trans (by decide +kernel)
                                    intro v392 ev392; obtain rfl : v392 = 0 := ev392.trans (by decide +kernel)
                                    intro v393 ev393; obtain rfl : v393 = 0 := ev393.trans (by decide +kernel)
                                    intro v394 ev394; obtain rfl : v394 = 0 := ev394.trans (by decide +kernel)
                                    exact h _ (((((if_neg (by decide +kernel)).trans (if_neg (by decide +kernel))).trans (if_neg (fun q0 => absurd ((fa_lt p2 0).mp q0) (by have l_0 : (0 : Int32).toInt = 0 := (by decide); have l_1 : (10 : Int32).toInt = 10 := (by decide); have g_hc3 := mt (fa_lt p2 0).mpr hc3; have g_hc4 := mt (fa_lt 10 p2).mpr hc4; omega)))).trans (if_neg (fun q0 => absurd ((fa_lt 10 p2).mp q0) (by have l_0 : (0 : Int32).toInt = 0 := (by decide); have l_1 : (10 : Int32).toInt = 10 := (by decide); have g_hc3 := mt (fa_lt p2 0).mpr hc3; have g_hc4 := mt (fa_lt 10 p2).mpr hc4; omega)))).symm) _ _ _ _
                                  · skip
                                    intro v395 ev395; obtain rfl : v395 = 0 := ev395.trans (by decide +kernel)
                                    intro v396 ev396; obtain rfl : v396 = 14 := ev396.trans (by decide +kernel)
                                    intro v397 ev397; obtain rfl : v397 = 9 := ev397.trans (by decide +kernel)
                                    refine Exists.intro 40 ?_
                                    refine br_t (by decide +kernel) ?_
                                    intro v398 ev398; obtain rfl : v398 = 0 := ev398.trans (by decide +kernel)
                                    refine Exists.intro 40 ?_
                                    refine br_t (by decide +kernel) ?_
                                    intro v399 ev399; obtain rfl : v399 = 0 := ev399.trans (by decide +kernel)
                                    intro v400 ev400; obtain rfl : v400 = 0 := ev400.trans (by decide +kernel)
                                    intro v401 ev401; obtain rfl : v401 = 0 := ev401.trans (by decide +kernel)
                                    intro v402 ev402; obtain rfl : v402 = 0 := ev402.trans (by decide +kernel)
                                    intro v403 ev403; obtain rfl : v403 = 0 := ev403.trans (by decide +kernel)
                                    intro v404 ev404; obtain rfl : v404 = 0 := ev404.trans (by decide +kernel)
                                    intro v405 ev405; obtain rfl : v405 = 0 := ev405.trans (by decide +kernel)
                                    intro v406 ev406; obtain rfl : v406 = 0 := ev406.trans (by decide +kernel)
                                    intro v407 ev407; obtain rfl : v407 = 0 := ev407.trans (by decide +kernel)
                                    intro v408 ev408; obtain rfl : v408 = 0 := ev408.trans (by decide +kernel)
                                    intro v409 ev409; obtain rfl : v409 = 0 := ev409.trans (by decide +kernel)
                                    refine br_f (by decide +kernel) ?_
                                    intro v410 ev410; obtain rfl : v410 = 15 := ev410.trans (by decide +kernel)
                                    refine And.intro (fun hc411 => ?_) (fun hc411 => ?_)
                                    · skip
                                      obtain rfl : p1 = 14 := (fa_eq _ _).mpr (by have l_0 : (1 : Int32).toInt = 1 := (by decide); have l_1 : (10 : Int32).toInt = 10 := (by decide); have l_2 : (11 : Int32).toInt = 11 := (by decide); have l_3 : (12 : Int32).toInt = 12 := (by decide); have l_4 : (13 : Int32).toInt = 13 := (by decide); have l_5 : (14 : Int32).toInt = 14 := (by decide); have l_6 : (15 : Int32).toInt = 15 := (by decide); have l_7 : (2 : Int32).toInt = 2 := (by decide); have l_8 : (3 : Int32).toInt = 3 := (by decide); have l_9 : (30 : Int32).toInt = 30 := (by decide); have l_10 : (4 : Int32).toInt = 4 := (by decide); have l_11 : (5 : Int32).toInt = 5 := (by decide); have l_12 : (6 : Int32).toInt = 6 := (by decide); have l_13 : (7 : Int32).toInt = 7 := (by decide); have l_14 : (8 : Int32).toInt = 8 := (by decide); have l_15 : (9 : Int32).toInt = 9 := (by decide); have g_hc1 := mt (fa_lt p1 1).mpr hc1; have g_hc2 := mt (fa_lt 30 p1).mpr hc2; have g_hc21 := mt (fa_lt p1 2).mpr hc21; have g_hc51 := mt (fa_lt p1 3).mpr hc51; have g_hc81 := mt (fa_lt p1 4).mpr hc81; have g_hc111 := mt (fa_lt p1 5).mpr hc111; have g_hc141 := mt (fa_lt p1 6).mpr hc141; have g_hc171 := mt (fa_lt p1 7).mpr hc171; have g_hc201 := mt (fa_lt p1 8).mpr hc201; have g_hc231 := mt (fa_lt p1 9).mpr hc231; have g_hc261 := mt (fa_lt p1 10).mpr hc261; have g_hc291 := mt (fa_lt p1 11).mpr hc291; have g_hc321 := mt (fa_lt p1 12).mpr hc321; have g_hc351 := mt (fa_lt p1 13).mpr hc351; have g_hc381 := mt (fa_lt p1 14).mpr hc381; have g_hc411 := (fa_lt p1 15).mp hc411; omega)
                                      refine And.intro (g_in (by decide +kernel)) ?_
                                      intro v412 ev412; obtain rfl : v412 = 1 := ev412.trans (by decide +kernel)
                                      intro v413 ev413; obtain rfl : v413 = 0 := ev413.trans (by decide +kernel)
                                      refine Exists.intro 40 ?_
                                      refine br_t (by decide +kernel) ?_
                                      refine And.intro (g_in (by decide +kernel)) ?_
                                      intro v414 ev414; obtain rfl : v414 = 2 := ev414.trans (by decide +kernel)
                                      refine And.intro (g_in (by decide +kernel)) ?_
                                      intro v415 ev415; obtain rfl : v415 = 3 := ev415.trans (by decide +kernel)
                                      intro v416 ev416; obtain rfl : v416 = 0 := ev416.trans (by decide +kernel)
                                      intro v417 ev417; obtain rfl : v417 = 0 := ev417.trans (by decide +kernel)
                                      intro v418 ev418; obtain rfl : v418 = 0 := ev418.trans (by decide +kernel)
                                      intro v419 ev419; obtain rfl : v419 = 0 := ev419.trans (by decide +kernel)
                                      intro v420 ev420; obtain rfl : v420 = 0 := ev420.trans (by decide +kernel)
                                      intro v421 ev421; obtain rfl : v421 = 0 := ev421.trans (by decide +kernel)
                                      intro v422 ev422; obtain rfl : v422 = 0 := ev422.trans (by decide +kernel)
                                      intro v423 ev423; obtain rfl : v423 = 0 := ev423.trans (by decide +kernel)
                                      intro v424 ev424; obtain rfl : v424 = 0 := ev424.trans (by decide +kernel)
                                      exact h _ (((((if_neg (by decide +kernel)).trans (if_neg (by decide +kernel))).trans (if_neg (fun q0 => absurd ((fa_lt p2 0).mp q0) (by have l_0 : (0 : Int32).toInt = 0 := (by decide); have l_1 : (10 : Int32).toInt = 10 := (by decide); have g_hc3 := mt (fa_lt p2 0).mpr hc3; have g_hc4 := mt (fa_lt 10 p2).mpr hc4; omega)))).trans (if_neg (fun q0 => absurd ((fa_lt 10 p2).mp q0) (by have l_0 : (0 : Int32).toInt = 0 := (by decide); have l_1 : (10 : Int32).toInt = 10 := (by decide); have g_hc3 := mt (fa_lt p2 0).mpr hc3; have g_hc4 := mt (fa_lt 10 p2).mpr hc4; omega)))).symm) _ _ _ _
                                    · skip
                                      intro v425 ev425; obtain rfl : v425 = 0 := ev425.trans (by decide +kernel)
                                      intro v426 ev426; obtain rfl : v426 = 15 := ev426.trans (by decide +kernel)
                                      intro v427 ev427; obtain rfl : v427 = 9 := ev427.trans (by decide +kernel)
                                      refine Exists.intro 40 ?_
                                      refine br_t (by decide +kernel) ?_
                                      intro v428 ev428; obtain rfl : v428 = 0 := ev428.trans (by decide +kernel)
                                      refine Exists.intro 40 ?_
                                      refine br_t (by decide +kernel) ?_
                                      intro v429 ev429; obtain rfl : v429 = 0 := ev429.trans (by decide +kernel)
                                      intro v430 ev430; obtain rfl : v430 = 0 := ev430.trans (by decide +kernel)
                                      intro v431 ev431; obtain rfl : v431 = 0 := ev431.trans (by decide +kernel)
                                      intro v432 ev432; obtain rfl : v432 = 0 := ev432.trans (by decide +kernel)
                                      intro v433 ev433; obtain rfl : v433 = 0 := ev433.trans (by decide +kernel)
                                      intro v434 ev434; obtain rfl : v434 = 0 := ev434.trans (by decide +kernel)
                                      intro v435 ev435; obtain rfl : v435 = 0 := ev435.trans (by decide +kernel)
                                      intro v436 ev436; obtain rfl : v436 = 0 := ev436.trans (by decide +kernel)
                                      intro v437 ev437; obtain rfl : v437 = 0 := ev437.trans (by decide +kernel)
                                      intro v438 ev438; obtain rfl : v438 = 0 := ev438.trans (by decide +kernel)
                                      intro v439 ev439; obtain rfl : v439 = 0 := ev439.trans (by decide +kernel)
                                      refine br_f (by decide +kernel) ?_
                                      intro v440 ev440; obtain rfl : v440 = 16 := ev440.trans (by decide +kernel)
                                      refine And.intro (fun hc441 => ?_) (fun hc441 => ?_)
                                      · skip
                                        obtain rfl : p1 = 15 := (fa_eq _ _).mpr (by have l_0 : (1 : Int32).toInt = 1 := (by decide); have l_1 : (10 : Int32).toInt = 10 := (by decide); have l_2 : (11 : Int32).toInt = 11 := (by decide); have l_3 : (12 : Int32).toInt = 12 := (by decide); have l_4 : (13 : Int32).toInt = 13 := (by decide); have l_5 : (14 : Int32).toInt = 14 := (by decide); have l_6 : (15 : Int32).toInt = 15 := (by decide); have l_7 : (16 : Int32).toInt = 16 := (by decide); have l_8 : (2 : Int32).toInt = 2 := (by decide); have l_9 : (3 : Int32).toInt = 3 := (by decide); have l_10 : (30 : Int32).toInt = 30 := (by decide); have l_11 : (4 : Int32).toInt = 4 := (by decide); have l_12 : (5 : Int32).toInt = 5 := (by decide); have l_13 : (6 : Int32).toInt = 6 := (by decide); have l_14 : (7 : Int32).toInt = 7 := (by decide); have l_15 : (8 : Int32).toInt = 8 := (by decide); have l_16 : (9 : Int32).toInt = 9 := (by decide); have g_hc1 := mt (fa_lt p1 1).mpr hc1; have g_hc2 := mt (fa_lt 30 p1).mpr hc2; have g_hc21 := mt (fa_lt p1 2).mpr hc21; have g_hc51 := mt (fa_lt p1 3).mpr hc51; have g_hc81 := mt (fa_lt p1 4).mpr hc81; have g_hc111 := mt (fa_lt p1 5).mpr hc111; have g_hc141 := mt (fa_lt p1 6).mpr hc141; have g_hc171 := mt (fa_lt p1 7).mpr hc171; have g_hc201 := mt (fa_lt p1 8).mpr hc201; have g_hc231 := mt (fa_lt p1 9).mpr hc231; have g_hc261 := mt (fa_lt p1 10).mpr hc261; have g_hc291 := mt (fa_lt p1 11).mpr hc291; have g_hc321 := mt (fa_lt p1 12).mpr hc321; have g_hc351 := mt (fa_lt p1 13).mpr hc351; have g_hc381 := mt (fa_lt p1 14).mpr hc381; have g_hc411 := mt (fa_lt p1 15).mpr hc411; have g_hc441 := (fa_lt p1 16).mp hc441; omega)
                                        refine And.intro (g_in (by decide +kernel)) ?_
                                        intro v442 ev442; obtain rfl : v442 = 1 := ev442.trans (by decide +kernel)
                                        intro v443 ev443; obtain rfl : v443 = 0 := ev443.trans (by decide +kernel)
                                        refine Exists.intro 40 ?_
                                        refine br_t (by decide +kernel) ?_
                                        refine And.intro (g_in (by decide +kernel)) ?_
                                        intro v444 ev444; obtain rfl : v444 = 2 := ev444.trans (by decide +kernel)
                                        refine And.intro (g_in (by decide +kernel)) ?_
                                        intro v445 ev445; obtain rfl : v445 = 3 := ev445.trans (by decide +kernel)
                                        intro v446 ev446; obtain rfl : v446 = 0 := ev446.trans (by decide +kernel)
                                        intro v447 ev447; obtain rfl : v447 = 0 := ev447.trans (by decide +kernel)
                                        intro v448 ev448; obtain rfl : v448 = 0 := ev448.trans (by decide +kernel)
                                        intro v449 ev449; obtain rfl : v449 = 0 := ev449.trans (by decide +kernel)
                                        intro v450 ev450; obtain rfl : v450 = 0 := ev450.trans (by decide +kernel)
                                        intro v451 ev451; obtain rfl : v451 = 0 := ev451.trans (by decide +kernel)
                                        intro v452 ev452; obtain rfl : v452 = 0 := ev452.trans (by decide +kernel)
                                        intro v453 ev453; obtain rfl : v453 = 0 := ev453.trans (by decide +kernel)
                                        intro v454 ev454; obtain rfl : v454 = 0 := ev454.trans (by decide +kernel)
                                        exact h _ (((((if_neg (by decide +kernel)).trans (if_neg (by decide +kernel))).trans (if_neg (fun q0 => absurd ((fa_lt p2 0).mp q0) (by have l_0 : (0 : Int32).toInt = 0 := (by decide); have l_1 : (10 : Int32).toInt = 10 := (by decide); have g_hc3 := mt (fa_lt p2 0).mpr hc3; have g_hc4 := mt (fa_lt 10 p2).mpr hc4; omega)))).trans (if_neg (fun q0 => absurd ((fa_lt 10 p2).mp q0) (by have l_0 : (0 : Int32).toInt = 0 := (by decide); have l_1 : (10 : Int32).toInt = 10 := (by decide); have g_hc3 := mt (fa_lt p2 0).mpr hc3; have g_hc4 := mt (fa_lt 10 p2).mpr hc4; omega)))).symm) _ _ _ _
                                      · skip
                                        intro v455 ev455; obtain rfl : v455 = 0 := ev455.trans (by decide +kernel)
                                        intro v456 ev456; obtain rfl : v456 = 16 := ev456.trans (by decide +kernel)
                                        intro v457 ev457; obtain rfl : v457 = 9 := ev457.trans (by decide +kernel)
                                        refine Exists.intro 40 ?_
                                        refine br_t (by decide +kernel) ?_
                                        intro v458 ev458; obtain rfl : v458 = 0 := ev458.trans (by decide +kernel)
                                        refine Exists.intro 40 ?_
                                        refine br_t (by decide +kernel) ?_
                                        intro v459 ev459; obtain rfl : v459 = 0 := ev459.trans (by decide +kernel)
                                        intro v460 ev460; obtain rfl : v460 = 0 := ev460.trans (by decide +kernel)
                                        intro v461 ev461; obtain rfl : v461 = 0 := ev461.trans (by decide +kernel)
                                        intro v462 ev462; obtain rfl : v462 = 0 := ev462.trans (by decide +kernel)
                                        intro v463 ev463; obtain rfl : v463 = 0 := ev463.trans (by decide +kernel)
                                        intro v464 ev464; obtain rfl : v464 = 0 := ev464.trans (by decide +kernel)
                                        intro v465 ev465; obtain rfl : v465 = 0 := ev465.trans (by decide +kernel)
                                        intro v466 ev466; obtain rfl : v466 = 0 := ev466.trans (by decide +kernel)
                                        intro v467 ev467; obtain rfl : v467 = 0 := ev467.trans (by decide +kernel)
                                        intro v468 ev468; obtain rfl : v468 = 0 := ev468.trans (by decide +kernel)
                                        intro v469 ev469; obtain rfl : v469 = 0 := ev469.trans (by decide +kernel)
                                        refine br_f (by decide +kernel) ?_
                                        intro v470 ev470; obtain rfl : v470 = 17 := ev470.trans (by decide +kernel)
                                        refine And.intro (fun hc471 => ?_) (fun hc471 => ?_)
                                        · skip
                                          obtain rfl : p1 = 16 := (fa_eq _ _).mpr (by have l_0 : (1 : Int32).toInt = 1 := (by decide); have l_1 : (10 : Int32).toInt = 10 := (by decide); have l_2 : (11 : Int32).toInt = 11 := (by decide); have l_3 : (12 : Int32).toInt = 12 := (by decide); have l_4 : (13 : Int32).toInt = 13 := (by decide); have l_5 : (14 : Int32).toInt = 14 := (by decide); have l_6 : (15 : Int32).toInt = 15 := (by decide); have l_7 : (16 : Int32).toInt = 16 := (by decide); have l_8 : (17 : Int32).toInt = 17 := (by decide); have l_9 : (2 : Int32).toInt = 2 := (by decide); have l_10 : (3 : Int32).toInt = 3 := (by decide); have l_11 : (30 : Int32).toInt = 30 := (by decide); have l_12 : (4 : Int32).toInt = 4 := (by decide); have l_13 : (5 : Int32).toInt = 5 := (by decide); have l_14 : (6 : Int32).toInt = 6 := (by decide); have l_15 : (7 : Int32).toInt = 7 := (by decide); have l_16 : (8 : Int32).toInt = 8 := (by decide); have l_17 : (9 : Int32).toInt = 9 := (by decide); have g_hc1 := mt (fa_lt p1 1).mpr hc1; have g_hc2 := mt (fa_lt 30 p1).mpr hc2; have g_hc21 := mt (fa_lt p1 2).mpr hc21; have g_hc51 := mt (fa_lt p1 3).mpr hc51; have g_hc81 := mt (fa_lt p1 4).mpr hc81; have g_hc111 := mt (fa_lt p1 5).mpr hc111; have g_hc141 := mt (fa_lt p1 6).mpr hc141; have g_hc171 := mt (fa_lt p1 7).mpr hc171; have g_hc201 := mt (fa_lt p1 8).mpr hc201; have g_hc231 := mt (fa_lt p1 9).mpr hc231; have g_hc261 := mt (fa_lt p1 10).mpr hc261; have g_hc291 := mt (fa_lt p1 11).mpr hc291; have g_hc321 := mt (fa_lt p1 12).mpr hc321; have g_hc351 := mt (fa_lt p1 13).mpr hc351; have g_hc381 := mt (fa_lt p1 14).mpr hc381; have g_hc411 := mt (fa_lt p1 15).mpr hc411; have g_hc441 := mt (fa_lt p1 16).mpr hc441; have g_hc471 := (fa_lt p1 17).mp hc471; omega)
                                          refine And.intro (g_in (by decide +kernel)) ?_
                                          intro v472 ev472; obtain rfl : v472 = 1 := ev472.trans (by decide +kernel)
                                          intro v473 ev473; obtain rfl : v473 = 0 := ev473.trans (by decide +kernel)
                                          refine Exists.intro 40 ?_
                                          refine br_t (by decide +kernel) ?_
                                          refine And.intro (g_in (by decide +kernel)) ?_
                                          intro v474 ev474; obtain rfl : v474 = 2 := ev474.trans (by decide +kernel)
                                          refine And.intro (g_in (by decide +kernel)) ?_
                                          intro v475 ev475; obtain rfl : v475 = 3 := ev475.trans (by decide +kernel)
                                          intro v476 ev476; obtain rfl : v476 = 0 := ev476.trans (by decide +kernel)
                                          intro v477 ev477; obtain rfl : v477 = 0 := ev477.trans (by decide +kernel)
                                          intro v478 ev478; obtain rfl : v478 = 0 := ev478.trans (by decide +kernel)
                                          intro v479 ev479; obtain rfl : v479 = 0 := ev479.trans (by decide +kernel)
                                          intro v480 ev480; obtain rfl : v480 = 0 := ev480.trans (by decide +kernel)
                                          intro v481 ev481; obtain rfl : v481 = 0 := ev481.trans (by decide +kernel)
                                          intro v482 ev482; obtain rfl : v482 = 0 := ev482.trans (by decide +kernel)
                                          intro v483 ev483; obtain rfl : v483 = 0 := ev483.trans (by decide +kernel)
                                          intro v484 ev484; obtain rfl : v484 = 0 := ev484.trans (by decide +kernel)
                                          exact h _ (((((if_neg (by decide +kernel)).trans (if_neg (by decide +kernel))).trans (if_neg (fun q0 => absurd ((fa_lt p2 0).mp q0) (by have l_0 : (0 : Int32).toInt = 0 := (by decide); have l_1 : (10 : Int32).toInt = 10 := (by decide); have g_hc3 := mt (fa_lt p2 0).mpr hc3; have g_hc4 := mt (fa_lt 10 p2).mpr hc4; omega)))).trans (if_neg (fun q0 => absurd ((fa_lt 10 p2).mp q0) (by have l_0 : (0 : Int32).toInt = 0 := (by decide); have l_1 : (10 : Int32).toInt = 10 := (by decide); have g_hc3 := mt (fa_lt p2 0).mpr hc3; have g_hc4 := mt (fa_lt 10 p2).mpr hc4; omega)))).symm) _ _ _ _
                                        · skip
                                          intro v485 ev485; obtain rfl : v485 = 0 := ev485.trans (by decide +kernel)
                                          intro v486 ev486; obtain rfl : v486 = 17 := ev486.trans (by decide +kernel)
                                          intro v487 ev487; obtain rfl : v487 = 9 := ev487.trans (by decide +kernel)
                                          refine Exists.intro 40 ?_
                                          refine br_t (by decide +kernel) ?_
                                          intro v488 ev488; obtain rfl : v488 = 0 := ev488.trans (by decide +kernel)
                                          refine Exists.intro 40 ?_
                                          refine br_t (by decide +kernel) ?_
                                          intro v489 ev489; obtain rfl : v489 = 0 := ev489.trans (by decide +kernel)
                                          intro v490 ev490; obtain rfl : v490 = 0 := ev490.trans (by decide +kernel)
                                          intro v491 ev491; obtain rfl : v491 = 0 := ev491.trans (by decide +kernel)
                                          intro v492 ev492; obtain rfl : v492 = 0 := ev492.trans (by decide +kernel)
                                          intro v493 ev493; obtain rfl : v493 = 0 := ev493.trans (by decide +kernel)
                                          intro v494 ev494; obtain rfl : v494 = 0 := ev494.trans (by decide +kernel)
                                          intro v495 ev495; obtain rfl : v495 = 0 := ev495.trans (by decide +kernel)
                                          intro v496 ev496; obtain rfl : v496 = 0 := ev496.trans (by decide +kernel)
                                          intro v497 ev497; obtain rfl : v497 = 0 := ev497.trans (by decide +kernel)
                                          intro v498 ev498; obtain rfl : v498 = 0 := ev498.trans (by decide +kernel)
                                          intro v499 ev499; obtain rfl : v499 = 0 := ev499.trans (by decide +kernel)
                                          refine br_f (by decide +kernel) ?_
                                          intro v500 ev500; obtain rfl : v500 = 18 := ev500.trans (by decide +kernel)
                                          refine And.intro (fun hc501 => ?_) (fun hc501 => ?_)
                                          · skip
                                            obtain rfl : p1 = 17 := (fa_eq _ _).mpr (by have l_0 : (1 : Int32).toInt = 1 := (by decide); have l_1 : (10 : Int32).toInt = 10 := (by decide); have l_2 : (11 : Int32).toInt = 11 := (by decide); have l_3 : (12 : Int32).toInt = 12 := (by decide); have l_4 : (13 : Int32).toInt = 13 := (by decide); have l_5 : (14 : Int32).toInt = 14 := (by decide); have l_6 : (15 : Int32).toInt = 15 := (by decide); have l_7 : (16 : Int32).toInt = 16 := (by decide); have l_8 : (17 : Int32).toInt = 17 := (by decide); have l_9 : (18 : Int32).toInt = 18 := (by decide); have l_10 : (2 : Int32).toInt = 2 := (by decide); have l_11 : (3 : Int32).toInt = 3 := (by decide); have l_12 : (30 : Int32).toInt = 30 := (by decide); have l_13 : (4 : Int32).toInt = 4 := (by decide); have l_14 : (5 : Int32).toInt = 5 := (by decide); have l_15 : (6 : Int32).toInt = 6 := (by decide); have l_16 : (7 : Int32).toInt = 7 := (by decide); have l_17 : (8 : Int32).toInt = 8 := (by decide); have l_18 : (9 : Int32).toInt = 9 := (by decide); have g_hc1 := mt (fa_lt p1 1).mpr hc1; have g_hc2 := mt (fa_lt 30 p1).mpr hc2; have g_hc21 := mt (fa_lt p1 2).mpr hc21; have g_hc51 := mt (fa_lt p1 3).mpr hc51; have g_hc81 := mt (fa_lt p1 4).mpr hc81; have g_hc111 := mt (fa_lt p1 5).mpr hc111; have g_hc141 := mt (fa_lt p1 6).mpr hc141; have g_hc171 := mt (fa_lt p1 7).mpr hc171; have g_hc201 := mt (fa_lt p1 8).mpr hc201; have g_hc231 := mt (fa_lt p1 9).mpr hc231; have g_hc261 := mt (fa_lt p1 10).mpr hc261; have g_hc291 := mt (fa_lt p1 11).mpr hc291; have g_hc321 := mt (fa_lt p1 12).mpr hc321; have g_hc351 := mt (fa_lt p1 13).mpr hc351; have g_hc381 := mt (fa_lt p1 14).mpr hc381; have g_hc411 := mt (fa_lt p1 15).mpr hc411; have g_hc441 := mt (fa_lt p1 16).mpr hc441; have g_hc471 := mt (fa_lt p1 17).mpr hc471; have g_hc501 := (fa_lt p1 18).mp hc501; omega)
                                            refine And.intro (g_in (by decide +kernel)) ?_
                                            intro v502 ev502; obtain rfl : v502 = 1 := ev502.trans (by decide +kernel)
                                            intro v503 ev503; obtain rfl : v503 = 0 := ev503.trans (by decide +kernel)
                                            refine Exists.intro 40 ?_
                                            refine br_t (by decide +kernel) ?_
                                            refine And.intro (g_in (by decide +kernel)) ?_
                                            intro v504 ev504; obtain rfl : v504 = 2 := ev504.trans (by decide +kernel)
                                            refine And.intro (g_in (by decide +kernel)) ?_
                                            intro v505 ev505; obtain rfl : v505 = 3 := ev505.trans (by decide +kernel)
                                            intro v506 ev506; obtain rfl : v506 = 0 := ev506.trans (by decide +kernel)
                                            intro v507 ev507; obtain rfl : v507 = 0 := ev507.trans (by decide +kernel)
                                            intro v508 ev508; obtain rfl : v508 = 0 := ev508.trans (by decide +kernel)
                                            intro v509 ev509; obtain rfl : v509 = 0 := ev509.trans (by decide +kernel)
                                            intro v510 ev510; obtain rfl : v510 = 0 := ev510.trans (by decide +kernel)
                                            intro v511 ev511; obtain rfl : v511 = 0 := ev511.trans (by decide +kernel)
                                            intro v512 ev512; obtain rfl : v512 = 0 := ev512.trans (by decide +kernel)
                                            intro v513 ev513; obtain rfl : v513 = 0 := ev513.trans (by decide +kernel)
                                            intro v514 ev514; obtain rfl : v514 = 0 := ev514.trans (by decide +kernel)
                                            exact h _ (((((if_neg (by decide +kernel)).trans (if_neg (by decide +kernel))).trans (if_neg (fun q0 => absurd ((fa_lt p2 0).mp q0) (by have l_0 : (0 : Int32).toInt = 0 := (by decide); have l_1 : (10 : Int32).toInt = 10 := (by decide); have g_hc3 := mt (fa_lt p2 0).mpr hc3; have g_hc4 := mt (fa_lt 10 p2).mpr hc4; omega)))).trans (if_neg (fun q0 => absurd ((fa_lt 10 p2).mp q0) (by have l_0 : (0 : Int32).toInt = 0 := (by decide); have l_1 : (10 : Int32).toInt = 10 := (by decide); have g_hc3 := mt (fa_lt p2 0).mpr hc3; have g_hc4 := mt (fa_lt 10 p2).mpr hc4; omega)))).symm) _ _ _ _
                                          · skip
                                            intro v515 ev515; obtain rfl : v515 = 0 := ev515.trans (by decide +kernel)
                                            intro v516 ev516; obtain rfl : v516 = 18 := ev516.trans (by decide +kernel)
                                            intro v517 ev517; obtain rfl : v517 = 9 := ev517.trans (by decide +kernel)
                                            refine Exists.intro 40 ?_
                                            refine br_t (by decide +kernel) ?_
                                            intro v518 ev518; obtain rfl : v518 = 0 := ev518.trans (by decide +kernel)
                                            refine Exists.intro 40 ?_
                                            refine br_t (by decide +kernel) ?_
                                            intro v519 ev519; obtain rfl : v519 = 0 := ev519.trans (by decide +kernel)
                                            intro v520 ev520; obtain rfl : v520 = 0 := ev520.trans (by decide +kernel)
                                            intro v521 ev521; obtain rfl : v521 = 0 := ev521.trans (by decide +kernel)
                                            intro v522 ev522; obtain rfl : v522 = 0 := ev522.trans (by decide +kernel)
                                            intro v523 ev523; obtain rfl : v523 = 0 := ev523.trans (by decide +kernel)
                                            intro v524 ev524; obtain rfl : v524 = 0 := ev524.trans (by decide +kernel)
                                            intro v525 ev525; obtain rfl : v525 = 0 := ev525.trans (by decide +kernel)
                                            intro v526 ev526; obtain rfl : v526 = 0 := ev526.trans (by decide +kernel)
                                            intro v527 ev527; obtain rfl : v527 = 0 := ev527.trans (by decide +kernel)
                                            intro v528 ev528; obtain rfl : v528 = 0 := ev528.trans (by decide +kernel)
                                            intro v529 ev529; obtain rfl : v529 = 0 := ev529.trans (by decide +kernel)
                                            refine br_f (by decide +kernel) ?_
                                            intro v530 ev530; obtain rfl : v530 = 19 := ev530.trans (by decide +kernel)
                                            refine And.intro (fun hc531 => ?_) (fun hc531 => ?_)
                                            · skip
                                              obtain rfl : p1 = 18 := (fa_eq _ _).mpr (by have l_0 : (1 : Int32).toInt = 1 := (by decide); have l_1 : (10 : Int32).toInt = 10 := (by decide); have l_2 : (11 : Int32).toInt = 11 := (by decide); have l_3 : (12 : Int32).toInt = 12 := (by decide); have l_4 : (13 : Int32).toInt = 13 := (by decide); have l_5 : (14 : Int32).toInt = 14 := (by decide); have l_6 : (15 : Int32).toInt = 15 := (by decide); have l_7 : (16 : Int32).toInt = 16 := (by decide); have l_8 : (17 : Int32).toInt = 17 := (by decide); have l_9 : (18 : Int32).toInt = 18 := (by decide); have l_10 : (19 : Int32).toInt = 19 := (by decide); have l_11 : (2 : Int32).toInt = 2 := (by decide); have l_12 : (3 : Int32).toInt = 3 := (by decide); have l_13 : (30 : Int32).toInt = 30 := (by decide); have l_14 : (4 : Int32).toInt = 4 := (by decide); have l_15 : (5 : Int32).toInt = 5 := (by decide); have l_16 : (6 : Int32).toInt = 6 := (by decide); have l_17 : (7 : Int32).toInt = 7 := (by decide); have l_18 : (8 : Int32).toInt = 8 := (by decide); have l_19 : (9 : Int32).toInt = 9 := (by decide); have g_hc1 := mt (fa_lt p1 1).mpr hc1; have g_hc2 := mt (fa_lt 30 p1).mpr hc2; have g_hc21 := mt (fa_lt p1 2).mpr hc21; have g_hc51 := mt (fa_lt p1 3).mpr hc51; have g_hc81 := mt (fa_lt p1 4).mpr hc81; have g_hc111 := mt (fa_lt p1 5).mpr hc111; have g_hc141 := mt (fa_lt p1 6).mpr hc141; have g_hc171 := mt (fa_lt p1 7).mpr hc171; have g_hc201 := mt (fa_lt p1 8).mpr hc201; have g_hc231 := mt (fa_lt p1 9).mpr hc231; have g_hc261 := mt (fa_lt p1 10).mpr hc261; have g_hc291 := mt (fa_lt p1 11).mpr hc291; have g_hc321 := mt (fa_lt p1 12).mpr hc321; have g_hc351 := mt (fa_lt p1 13).mpr hc351; have g_hc381 := mt (fa_lt p1 14).mpr hc381; have g_hc411 := mt (fa_lt p1 15).mpr hc411; have g_hc441 := mt (fa_lt p1 16).mpr hc441; have g_hc471 := mt (fa_lt p1 17).mpr hc471; have g_hc501 := mt (fa_lt p1 18).mpr hc501; have g_hc531 := (fa_lt p1 19).mp hc531; omega)
                                              refine And.intro (g_in (by decide +kernel)) ?_
                                              intro v532 ev532; obtain rfl : v532 = 1 := ev532.trans (by decide +kernel)
                                              intro v533 ev533; obtain rfl : v533 = 0 := ev533.trans (by decide +kernel)
                                              refine Exists.intro 40 ?_
                                              refine br_t (by decide +kernel) ?_
                                              refine And.intro (g_in (by decide +kernel)) ?_
                                              intro v534 ev534; obtain rfl : v534 = 2 := ev534.trans (by decide +kernel)
                                              refine And.intro (g_in (by decide +kernel)) ?_
                                              intro v535 ev535; obtain rfl : v535 = 3 := ev535.trans (by decide +kernel)
                                              intro v536 ev536; obtain rfl : v536 = 0 := ev536.trans (by decide +kernel)
                                              intro v537 ev537; obtain rfl : v537 = 0 := ev537.trans (by decide +kernel)
                                              intro v538 ev538; obtain rfl : v538 = 0 := ev538.trans (by decide +kernel)
                                              intro v539 ev539; obtain rfl : v539 = 0 := ev539.trans (by decide +kernel)
                                              intro v540 ev540; obtain rfl : v540 = 0 := ev540.trans (by decide +kernel)
                                              intro v541 ev541; obtain rfl : v541 = 0 := ev541.trans (by decide +kernel)
                                              intro v542 ev542; obtain rfl : v542 = 0 := ev542.trans (by decide +kernel)
                                              intro v543 ev543; obtain rfl : v543 = 0 := ev543.trans (by decide +kernel)
                                              intro v544 ev544; obtain rfl : v544 = 0 := ev544.trans (by decide +kernel)
                                              exact h _ (((((if_neg (by decide +kernel)).trans (if_neg (by decide +kernel))).trans (if_neg (fun q0 => absurd ((fa_lt p2 0).mp q0) (by have l_0 : (0 : Int32).toInt = 0 := (by decide); have l_1 : (10 : Int32).toInt = 10 := (by decide); have g_hc3 := mt (fa_lt p2 0).mpr hc3; have g_hc4 := mt (fa_lt 10 p2).mpr hc4; omega)))).trans (if_neg (fun q0 => absurd ((fa_lt 10 p2).mp q0) (by have l_0 : (0 : Int32).toInt = 0 := (by decide); have l_1 : (10 : Int32).toInt = 10 := (by decide); have g_hc3 := mt (fa_lt p2 0).mpr hc3; have g_hc4 := mt (fa_lt 10 p2).mpr hc4; omega)))).symm) _ _ _ _
                                            · skip
                                              intro v545 ev545; obtain rfl : v545 = 0 := ev545.trans (by decide +kernel)
                                              intro v546 ev546; obtain rfl : v546 = 19 := ev546.trans (by decide +kernel)
                                              intro v547 ev547; obtain rfl : v547 = 9 := ev547.trans (by decide +kernel)
                                              refine Exists.intro 40 ?_
                                              refine br_t (by decide +kernel) ?_
                                              intro v548 ev548; obtain rfl : v548 = 0 := ev548.trans (by decide +kernel)
                                              refine Exists.intro 40 ?_
                                              refine br_t (by decide +kernel) ?_
                                              intro v549 ev549; obtain rfl : v549 = 0 := ev549.trans (by decide +kernel)
                                              intro v550 ev550; obtain rfl : v550 = 0 := ev550.trans (by decide +kernel)
                                              intro v551 ev551; obtain rfl : v551 = 0 := ev551.trans (by decide +kernel)
                                              intro v552 ev552; obtain rfl : v552 = 0 := ev552.trans (by decide +kernel)
                                              intro v553 ev553; obtain rfl : v553 = 0 := ev553.trans (by decide +kernel)
                                              intro v554 ev554; obtain rfl : v554 = 0 := ev554.trans (by decide +kernel)
                                              intro v555 ev555; obtain rfl : v555 = 0 := ev555.trans (by decide +kernel)
                                              intro v556 ev556; obtain rfl : v556 = 0 := ev556.trans (by decide +kernel)
                                              intro v557 ev557; obtain rfl : v557 = 0 := ev557.trans (by decide +kernel)
                                              intro v558 ev558; obtain rfl : v558 = 0 := ev558.trans (by decide +kernel)
                                              intro v559 ev559; obtain rfl : v559 = 0 := ev559.trans (by decide +kernel)
                                              refine br_f (by decide +kernel) ?_
                                              intro v560 ev560; obtain rfl : v560 = 20 := ev560.trans (by decide +kernel)
                                              refine And.intro (fun hc561 => ?_) (fun hc561 => ?_)
                                              · skip
                                                obtain rfl : p1 = 19 := (fa_eq _ _).mpr (by have l_0 : (1 : Int32).toInt = 1 := (by decide); have l_1 : (10 : Int32).toInt = 10 := (by decide); have l_2 : (11 : Int32).toInt = 11 := (by decide); have l_3 : (12 : Int32).toInt = 12 := (by decide); have l_4 : (13 : Int32).toInt = 13 := (by decide); have l_5 : (14 : Int32).toInt = 14 := (by decide); have l_6 : (15 : Int32).toInt = 15 := (by decide); have l_7 : (16 : Int32).toInt = 16 := (by decide); have l_8 : (17 : Int32).toInt = 17 := (by decide); have l_9 : (18 : Int32).toInt = 18 := (by decide); have l_10 : (19 : Int32).toInt = 19 := (by decide); have l_11 : (2 : Int32).toInt = 2 := (by decide); have l_12 : (20 : Int32).toInt = 20 := (by decide); have l_13 : (3 : Int32).toInt = 3 := (by decide); have l_14 : (30 : Int32).toInt = 30 := (by decide); have l_15 : (4 : Int32).toInt = 4 := (by decide); have l_16 : (5 : Int32).toInt = 5 := (by decide); have l_17 : (6 : Int32).toInt = 6 := (by decide); have l_18 : (7 : Int32).toInt = 7 := (by decide); have l_19 : (8 : Int32).toInt = 8 := (by decide); have l_20 : (9 : Int32).toInt = 9 := (by decide); have g_hc1 := mt (fa_lt p1 1).mpr hc1; have g_hc2 := mt (fa_lt 30 p1).mpr hc2; have g_hc21 := mt (fa_lt p1 2).mpr hc21; have g_hc51 := mt (fa_lt p1 3).mpr hc51; have g_hc81 := mt (fa_lt p1 4).mpr hc81; have g_hc111 := mt (fa_lt p1 5).mpr hc111; have g_hc141 := mt (fa_lt p1 6).mpr hc141; have g_hc171 := mt (fa_lt p1 7).mpr hc171; have g_hc201 := mt (fa_lt p1 8).mpr hc201; have g_hc231 := mt (fa_lt p1 9).mpr hc231; have g_hc261 := mt (fa_lt p1 10).mpr hc261; have g_hc291 := mt (fa_lt p1 11).mpr hc291; have g_hc321 := mt (fa_lt p1 12).mpr hc321; have g_hc351 := mt (fa_lt p1 13).mpr hc351; have g_hc381 := mt (fa_lt p1 14).mpr hc381; have g_hc411 := mt (fa_lt p1 15).mpr hc411; have g_hc441 := mt (fa_lt p1 16).mpr hc441; have g_hc471 := mt (fa_lt p1 17).mpr hc471; have g_hc501 := mt (fa_lt p1 18).mpr hc501; have g_hc531 := mt (fa_lt p1 19).mpr hc531; have g_hc561 := (fa_lt p1 20).mp hc561; omega)
                                                refine And.intro (g_in (by decide +kernel)) ?_
                                                intro v562 ev562; obtain rfl : v562 = 1 := ev562.trans (by decide +kernel)
                                                intro v563 ev563; obtain rfl : v563 = 0 := ev563.trans (by decide +kernel)
                                                refine Exists.intro 40 ?_
                                                refine br_t (by decide +kernel) ?_
                                                refine And.intro (g_in (by decide +kernel)) ?_
                                                intro v564 ev564; obtain rfl : v564 = 2 := ev564.trans (by decide +kernel)
                                                refine And.intro (g_in (by decide +kernel)) ?_
                                                intro v565 ev565; obtain rfl : v565 = 3 := ev565.trans (by decide +kernel)
                                                intro v566 ev566; obtain rfl : v566 = 0 := ev566.trans (by decide +kernel)
                                                intro v567 ev567; obtain rfl : v567 = 0 := ev567.trans (by decide +kernel)
                                                intro v568 ev568; obtain rfl : v568 = 0 := ev568.trans (by decide +kernel)
                                                intro v569 ev569; obtain rfl : v569 = 0 := ev569.trans (by decide +kernel)
                                                intro v570 ev570; obtain rfl : v570 = 0 := ev570.trans (by decide +kernel)
                                                intro v571 ev571; obtain rfl : v571 = 0 := ev571.trans (by decide +kernel)
                                                intro v572 ev572; obtain rfl : v572 = 0 := ev572.trans (by decide +kernel)
                                                intro v573 ev573; obtain rfl : v573 = 0 := ev573.trans (by decide +kernel)
                                                intro v574 ev574; obtain rfl : v574 = 0 := ev574.trans (by decide +kernel)
                                                exact h _ (((((if_neg (by decide +kernel)).trans (if_neg (by decide +kernel))).trans (if_neg (fun q0 => absurd ((fa_lt p2 0).mp q0) (by have l_0 : (0 : Int32).toInt = 0 := (by decide); have l_1 : (10 : Int32).toInt = 10 := (by decide); have g_hc3 := mt (fa_lt p2 0).mpr hc3; have g_hc4 := mt (fa_lt 10 p2).mpr hc4; omega)))).trans (if_neg (fun q0 => absurd ((fa_lt 10 p2).mp q0) (by have l_0 : (0 : Int32).toInt = 0 := (by decide); have l_1 : (10 : Int32).toInt = 10 := (by decide); have g_hc3 := mt (fa_lt p2 0).mpr hc3; have g_hc4 := mt (fa_lt 10 p2).mpr hc4; omega)))).symm) _ _ _ _
                                              · skip
                                                intro v575 ev575; obtain rfl : v575 = 0 := ev575.trans (by decide +kernel)
                                                intro v576 ev576; obtain rfl : v576 = 20 := ev576.trans (by decide +kernel)
                                                intro v577 ev577; obtain rfl : v577 = 9 := ev577.trans (by decide +kernel)
                                                refine Exists.intro 40 ?_
                                                refine br_t (by decide +kernel) ?_
                                                intro v578 ev578; obtain rfl : v578 = 0 := ev578.trans (by decide +kernel)
                                                refine Exists.intro 40 ?_
                                                refine br_t (by decide +kernel) ?_
                                                intro v579 ev579; obtain rfl : v579 = 0 := ev579.trans (by decide +kernel)
                                                intro v580 ev580; obtain rfl : v580 = 0 := ev580.trans (by decide +kernel)
                                                intro v581 ev581; obtain rfl : v581 = 0 := ev581.trans (by decide +kernel)
                                                intro v582 ev582; obtain rfl : v582 = 0 := ev582.trans (by decide +kernel)
                                                intro v583 ev583; obtain rfl : v583 = 0 := ev583.trans (by decide +kernel)
                                                intro v584 ev584; obtain rfl : v584 = 0 := ev584.trans (by decide +kernel)
                                                intro v585 ev585; obtain rfl : v585 = 0 := ev585.trans (by decide +kernel)
                                                intro v586 ev586; obtain rfl : v586 = 0 := ev586.trans (by decide +kernel)
                                                intro v587 ev587; obtain rfl : v587 = 0 := ev587.trans (by decide +kernel)
                                                intro v588 ev588; obtain rfl : v588 = 0 := ev588.trans (by decide +kernel)
                                                intro v589 ev589; obtain rfl : v589 = 0 := ev589.trans (by decide +kernel)
                                                refine br_f (by decide +kernel) ?_
                                                intro v590 ev590; obtain rfl : v590 = 21 := ev590.trans (by decide +kernel)
                                                refine And.intro (fun hc591 => ?_) (fun hc591 => ?_)
                                                · skip
                                                  obtain rfl : p1 = 20 := (fa_eq _ _).mpr (by have l_0 : (1 : Int32).toInt = 1 := (by decide); have l_1 : (10 : Int32).toInt = 10 := (by decide); have l_2 : (11 : Int32).toInt = 11 := (by decide); have l_3 : (12 : Int32).toInt = 12 := (by decide); have l_4 : (13 : Int32).toInt = 13 := (by decide); have l_5 : (14 : Int32).toInt = 14 := (by decide); have l_6 : (15 : Int32).toInt = 15 := (by decide); have l_7 : (16 : Int32).toInt = 16 := (by decide); have l_8 : (17 : Int32).toInt = 17 := (by decide); have l_9 : (18 : Int32).toInt = 18 := (by decide); have l_10 : (19 : Int32).toInt = 19 := (by decide); have l_11 : (2 : Int32).toInt = 2 := (by decide); have l_12 : (20 : Int32).toInt = 20 := (by decide); have l_13 : (21 : Int32).toInt = 21 := (by decide); have l_14 : (3 : Int32).toInt = 3 := (by decide); have l_15 : (30 : Int32).toInt = 30 := (by decide); have l_16 : (4 : Int32).toInt = 4 := (by decide); have l_17 : (5 : Int32).toInt = 5 := (by decide); have l_18 : (6 : Int32).toInt = 6 := (by decide); have l_19 : (7 : Int32).toInt = 7 := (by decide); have l_20 : (8 : Int32).toInt = 8 := (by decide); have l_21 : (9 : Int32).toInt = 9 := (by decide); have g_hc1 := mt (fa_lt p1 1).mpr hc1; have g_hc2 := mt (fa_lt 30 p1).mpr hc2; have g_hc21 := mt (fa_lt p1 2).mpr hc21; have g_hc51 := mt (fa_lt p1 3).mpr hc51; have g_hc81 := mt (fa_lt p1 4).mpr hc81; have g_hc111 := mt (fa_lt p1 5).mpr hc111; have g_hc141 := mt (fa_lt p1 6).mpr hc141; have g_hc171 := mt (fa_lt p1 7).mpr hc171; have g_hc201 := mt (fa_lt p1 8).mpr hc201; have g_hc231 := mt (fa_lt p1 9).mpr hc231; have g_hc261 := mt (fa_lt p1 10).mpr hc261; have g_hc291 := mt (fa_lt p1 11).mpr hc291; have g_hc321 := mt (fa_lt p1 12).mpr hc321; have g_hc351 := mt (fa_lt p1 13).mpr hc351; have g_hc381 := mt (fa_lt p1 14).mpr hc381; have g_hc411 := mt (fa_lt p1 15).mpr hc411; have g_hc441 := mt (fa_lt p1 16).mpr hc441; have g_hc471 := mt (fa_lt p1 17).mpr hc471; have g_hc501 := mt (fa_lt p1 18).mpr hc501; have g_hc531 := mt (fa_lt p1 19).mpr hc531; have g_hc561 := mt (fa_lt p1 20).mpr hc561; have g_hc591 := (fa_lt p1 21).mp hc591; omega)
                                                  refine And.intro (g_in (by decide +kernel)) ?_
                                                  intro v592 ev592; obtain rfl : v592 = 1 := ev592.trans (by decide +kernel)
                                                  intro v593 ev593; obtain rfl : v593 = 0 := ev593.trans (by decide +kernel)
                                                  refine Exists.intro 40 ?_
                                                  refine br_t (by decide +kernel) ?_
                                                  refine And.intro (g_in (by decide +kernel)) ?_
                                                  intro v594 ev594; obtain rfl : v594 = 2 := ev594.trans (by decide +kernel)
                                                  refine And.intro (g_in (by decide +kernel)) ?_
                                                  intro v595 ev595; obtain rfl : v595 = 3 := ev595.trans (by decide +kernel)
                                                  intro v596 ev596; obtain rfl : v596 = 0 := ev596.trans (by decide +kernel)
                                                  intro v597 ev597; obtain rfl : v597 = 0 := ev597.trans (by decide +kernel)
                                                  intro v598 ev598; obtain rfl : v598 = 0 := ev598.trans (by decide +kernel)
                                                  intro v599 ev599; obtain rfl : v599 = 0 := ev599.trans (by decide +kernel)
                                                  intro v600 ev600; obtain rfl : v600 = 0 := ev600.trans (by decide +kernel)
                                                  intro v601 ev601; obtain rfl : v601 = 0 := ev601.trans (by decide +kernel)
                                                  intro v602 ev602; obtain rfl : v602 = 0 := ev602.trans (by decide +kernel)
                                                  intro v603 ev603; obtain rfl : v603 = 0 := ev603.trans (by decide +kernel)
                                                  intro v604 ev604; obtain rfl : v604 = 0 := ev604.trans (by decide +kernel)
                                                  exact h _ (((((if_neg (by decide +kernel)).trans (if_neg (by decide +kernel))).trans (if_neg (fun q0 => absurd ((fa_lt p2 0).mp q0) (by have l_0 : (0 : Int32).toInt = 0 := (by decide); have l_1 : (10 : Int32).toInt = 10 := (by decide); have g_hc3 := mt (fa_lt p2 0).mpr hc3; have g_hc4 := mt (fa_lt 10 p2).mpr hc4; omega)))).trans (if_neg (fun q0 => absurd ((fa_lt 10 p2).mp q0) (by have l_0 : (0 : Int32).toInt = 0 := (by decide); have l_1 : (10 : Int32).toInt = 10 := (by decide); have g_hc3 := mt (fa_lt p2 0).mpr hc3; have g_hc4 := mt (fa_lt 10 p2).mpr hc4; omega)))).symm) _ _ _ _
                                                · skip
                                                  intro v605 ev605; obtain rfl : v605 = 0 := ev605.trans (by decide +kernel)
                                                  intro v606 ev606; obtain rfl : v606 = 21 := ev606.trans (by decide +kernel)
                                                  intro v607 ev607; obtain rfl : v607 = 9 := ev607.trans (by decide +kernel)
                                                  refine Exists.intro 40 ?_
                                                  refine br_t (by decide +kernel) ?_
                                                  intro v608 ev608; obtain rfl : v608 = 0 := ev608.trans (by decide +kernel)
                                                  refine Exists.intro 40 ?_
                                                  refine br_t (by decide +kernel) ?_
                                                  intro v609 ev609; obtain rfl : v609 = 0 := ev609.trans (by decide +kernel)
                                                  intro v610 ev610; obtain rfl : v610 = 0 := ev610.trans (by decide +kernel)
                                                  intro v611 ev611; obtain rfl : v611 = 0 := ev611.trans (by decide +kernel)
                                                  intro v612 ev612; obtain rfl : v612 = 0 := ev612.trans (by decide +kernel)
                                                  intro v613 ev613; obtain rfl : v613 = 0 := ev613.trans (by decide +kernel)
                                                  intro v614 ev614; obtain rfl : v614 = 0 := ev614.trans (by decide +kernel)
                                                  intro v615 ev615; obtain rfl : v615 = 0 := ev615.trans (by decide +kernel)
                                                  intro v616 ev616; obtain rfl : v616 = 0 := ev616.trans (by decide +kernel)
                                                  intro v617 ev617; obtain rfl : v617 = 0 := ev617.trans (by decide +kernel)
                                                  intro v618 ev618; obtain rfl : v618 = 0 := ev618.trans (by decide +kernel)
                                                  intro v619 ev619; obtain rfl : v619 = 0 := ev619.trans (by decide +kernel)
                                                  refine br_f (by decide +kernel) ?_
                                                  intro v620 ev620; obtain rfl : v620 = 22 := ev620.trans (by decide +kernel)
                                                  refine And.intro (fun hc621 => ?_) (fun hc621 => ?_)
                                                  · skip
                                                    obtain rfl : p1 = 21 := (fa_eq _ _).mpr (by have l_0 : (1 : Int32).toInt = 1 := (by decide); have l_1 : (10 : Int32).toInt = 10 := (by decide); have l_2 : (11 : Int32).toInt = 11 := (by decide); have l_3 : (12 : Int32).toInt = 12 := (by decide); have l_4 : (13 : Int32).toInt = 13 := (by decide); have l_5 : (14 : Int32).toInt = 14 := (by decide); have l_6 : (15 : Int32).toInt = 15 := (by decide); have l_7 : (16 : Int32).toInt = 16 := (by decide); have l_8 : (17 : Int32).toInt = 17 := (by decide); have l_9 : (18 : Int32).toInt = 18 := (by decide); have l_10 : (19 : Int32).toInt = 19 := (by decide); have l_11 : (2 : Int32).toInt = 2 := (by decide); have l_12 : (20 : Int32).toInt = 20 := (by decide); have l_13 : (21 : Int32).toInt = 21 := (by decide); have l_14 : (22 : Int32).toInt = 22 := (by decide); have l_15 : (3 : Int32).toInt = 3 := (by decide); have l_16 : (30 : Int32).toInt = 30 := (by decide); have l_17 : (4 : Int32).toInt = 4 := (by decide); have l_18 : (5 : Int32).toInt = 5 := (by decide); have l_19 : (6 : Int32).toInt = 6 := (by decide); have l_20 : (7 : Int32).toInt = 7 := (by decide); have l_21 : (8 : Int32).toInt = 8 := (by decide); have l_22 : (9 : Int32).toInt = 9 := (by decide); have g_hc1 := mt (fa_lt p1 1).mpr hc1; have g_hc2 := mt (fa_lt 30 p1).mpr hc2; have g_hc21 := mt (fa_lt p1 2).mpr hc21; have g_hc51 := mt (fa_lt p1 3).mpr hc51; have g_hc81 := mt (fa_lt p1 4).mpr hc81; have g_hc111 := mt (fa_lt p1 5).mpr hc111; have g_hc141 := mt (fa_lt p1 6).mpr hc141; have g_hc171 := mt (fa_lt p1 7).mpr hc171; have g_hc201 := mt (fa_lt p1 8).mpr hc201; have g_hc231 := mt (fa_lt p1 9).mpr hc231; have g_hc261 := mt (fa_lt p1 10).mpr hc261; have g_hc291 := mt (fa_lt p1 11).mpr hc291; have g_hc321 := mt (fa_lt p1 12).mpr hc321; have g_hc351 := mt (fa_lt p1 13).mpr hc351; have g_hc381 := mt (fa_lt p1 14).mpr hc381; have g_hc411 := mt (fa_lt p1 15).mpr hc411; have g_hc441 := mt (fa_lt p1 16).mpr hc441; have g_hc471 := mt (fa_lt p1 17).mpr hc471; have g_hc501 := mt (fa_lt p1 18).mpr hc501; have g_hc531 := mt (fa_lt p1 19).mpr hc531; have g_hc561 := mt (fa_lt p1 20).mpr hc561; have g_hc591 := mt (fa_lt p1 21).mpr hc591; have g_hc621 := (fa_lt p1 22).mp hc621; omega)
                                                    refine And.intro (g_in (by decide +kernel)) ?_
                                                    intro v622 ev622; obtain rfl : v622 = 1 := ev622.trans (by decide +kernel)
                                                    intro v623 ev623; obtain rfl : v623 = 0 := ev623.trans (by decide +kernel)
                                                    refine Exists.intro 40 ?_
                                                    refine br_t (by decide +kernel) ?_
                                                    refine And.intro (g_in (by decide +kernel)) ?_
                                                    intro v624 ev624; obtain rfl : v624 = 2 := ev624.trans (by decide +kernel)
                                                    refine And.intro (g_in (by decide +kernel)) ?_
                                                    intro v625 ev625; obtain rfl : v625 = 3 := ev625.trans (by decide +kernel)
                                                    intro v626 ev626; obtain rfl : v626 = 0 := ev626.trans (by decide +kernel)
                                                    intro v627 ev627; obtain rfl : v627 = 0 := ev627.trans (by decide +kernel)
                                                    intro v628 ev628; obtain rfl : v628 = 0 := ev628.trans (by decide +kernel)
                                                    intro v629 ev629; obtain rfl : v629 = 0 := ev629.trans (by decide +kernel)
                                                    intro v630 ev630; obtain rfl : v630 = 0 := ev630.trans (by decide +kernel)
                                                    intro v631 ev631; obtain rfl : v631 = 0 := ev631.trans (by decide +kernel)
                                                    intro v632 ev632; obtain rfl : v632 = 0 := ev632.trans (by decide +kernel)
                                                    intro v633 ev633; obtain rfl : v633 = 0 := ev633.trans (by decide +kernel)
                                                    intro v634 ev634; obtain rfl : v634 = 0 := ev634.trans (by decide +kernel)
                                                    exact h _ (((((if_neg (by decide +kernel)).trans (if_neg (by decide +kernel))).trans (if_neg (fun q0 => absurd ((fa_lt p2 0).mp q0) (by have l_0 : (0 : Int32).toInt = 0 := (by decide); have l_1 : (10 : Int32).toInt = 10 := (by decide); have g_hc3 := mt (fa_lt p2 0).mpr hc3; have g_hc4 := mt (fa_lt 10 p2).mpr hc4; omega)))).trans (if_neg (fun q0 => absurd ((fa_lt 10 p2).mp q0) (by have l_0 : (0 : Int32).toInt = 0 := (by decide); have l_1 : (10 : Int32).toInt = 10 := (by decide); have g_hc3 := mt (fa_lt p2 0).mpr hc3; have g_hc4 := mt (fa_lt 10 p2).mpr hc4; omega)))).symm) _ _ _ _
                                                  · skip
                                                    intro v635 ev635; obtain rfl : v635 = 0 := ev635.trans (by decide +kernel)
                                                    intro v636 ev636; obtain rfl : v636 = 22 := ev636.trans (by decide +kernel)
                                                    intro v637 ev637; obtain rfl : v637 = 9 := ev637.trans (by decide +kernel)
                                                    refine Exists.intro 40 ?_
                                                    refine br_t (by decide +kernel) ?_
                                                    intro v638 ev638; obtain rfl : v638 = 0 := ev638.trans (by decide +kernel)
                                                    refine Exists.intro 40 ?_
                                                    refine br_t (by decide +kernel) ?_
                                                    intro v639 ev639; obtain rfl : v639 = 0 := ev639.trans (by decide +kernel)
                                                    intro v640 ev640; obtain rfl : v640 = 0 := ev640.trans (by decide +kernel)
                                                    intro v641 ev641; obtain rfl : v641 = 0 := ev641.trans (by decide +kernel)
                                                    intro v642 ev642; obtain rfl : v642 = 0 := ev642.trans (by decide +kernel)
                                                    intro v643 ev643; obtain rfl : v643 = 0 := ev643.trans (by decide +kernel)
                                                    intro v644 ev644; obtain rfl : v644 = 0 := ev644.trans (by decide +kernel)
                                                    intro v645 ev645; obtain rfl : v645 = 0 := ev645.trans (by decide +kernel)
                                                    intro v646 ev646; obtain rfl : v646 = 0 := ev646.trans (by decide +kernel)
                                                    intro v647 ev647; obtain rfl : v647 = 0 := ev647.trans (by decide +kernel)
                                                    intro v648 ev648; obtain rfl : v648 = 0 := ev648.trans (by decide +kernel)
                                                    intro v649 ev649; obtain rfl : v649 = 0 := ev649.trans (by decide +kernel)
                                                    refine br_f (by decide +kernel) ?_
                                                    intro v650 ev650; obtain rfl : v650 = 23 := ev650.trans (by decide +kernel)
                                                    refine And.intro (fun hc651 => ?_) (fun hc651 => ?_)
                                                    · skip
                                                      obtain rfl : p1 = 22 := (fa_eq _ _).mpr (by have l_0 : (1 : Int32).toInt = 1 := (by decide); have l_1 : (10 : Int32).toInt = 10 := (by decide); have l_2 : (11 : Int32).toInt = 11 := (by decide); have l_3 : (12 : Int32).toInt = 12 := (by decide); have l_4 : (13 : Int32).toInt = 13 := (by decide); have l_5 : (14 : Int32).toInt = 14 := (by decide); have l_6 : (15 : Int32).toInt = 15 := (by decide); have l_7 : (16 : Int32).toInt = 16 := (by decide); have l_8 : (17 : Int32).toInt = 17 := (by decide); have l_9 : (18 : Int32).toInt = 18 := (by decide); have l_10 : (19 : Int32).toInt = 19 := (by decide); have l_11 : (2 : Int32).toInt = 2 := (by decide); have l_12 : (20 : Int32).toInt = 20 := (by decide); have l_13 : (21 : Int32).toInt = 21 := (by decide); have l_14 : (22 : Int32).toInt = 22 := (by decide); have l_15 : (23 : Int32).toInt = 23 := (by decide); have l_16 : (3 : Int32).toInt = 3 := (by decide); have l_17 : (30 : Int32).toInt = 30 := (by decide); have l_18 : (4 : Int32).toInt = 4 := (by decide); have l_19 : (5 : Int32).toInt = 5 := (by decide); have l_20 : (6 : Int32).toInt = 6 := (by decide); have l_21 : (7 : Int32).toInt = 7 := (by decide); have l_22 : (8 : Int32).toInt = 8 := (by decide); have l_23 : (9 : Int32).toInt = 9 := (by decide); have g_hc1 := mt (fa_lt p1 1).mpr hc1; have g_hc2 := mt (fa_lt 30 p1).mpr hc2; have g_hc21 := mt (fa_lt p1 2).mpr hc21; have g_hc51 := mt (fa_lt p1 3).mpr hc51; have g_hc81 := mt (fa_lt p1 4).mpr hc81; have g_hc111 := mt (fa_lt p1 5).mpr hc111; have g_hc141 := mt (fa_lt p1 6).mpr hc141; have g_hc171 := mt (fa_lt p1 7).mpr hc171; have g_hc201 := mt (fa_lt p1 8).mpr hc201; have g_hc231 := mt (fa_lt p1 9).mpr hc231; have g_hc261 := mt (fa_lt p1 10).mpr hc261; have g_hc291 := mt (fa_lt p1 11).mpr hc291; have g_hc321 := mt (fa_lt p1 12).mpr hc321; have g_hc351 := mt (fa_lt p1 13).mpr hc351; have g_hc381 := mt (fa_lt p1 14).mpr hc381; have g_hc411 := mt (fa_lt p1 15).mpr hc411; have g_hc441 := mt (fa_lt p1 16).mpr hc441; have g_hc471 := mt (fa_lt p1 17).mpr hc471; have g_hc501 := mt (fa_lt p1 18).mpr hc501; have g_hc531 := mt (fa_lt p1 19).mpr hc531; have g_hc561 := mt (fa_lt p1 20).mpr hc561; have g_hc591 := mt (fa_lt p1 21).mpr hc591; have g_hc621 := mt (fa_lt p1 22).mpr hc621; have g_hc651 := (fa_lt p1 23).mp hc651; omega)
                                                      refine And.intro (g_in (by decide +kernel)) ?_
                                                      intro v652 ev652; obtain rfl : v652 = 1 := ev652.trans (by decide +kernel)
                                                      intro v653 ev653; obtain rfl : v653 = 0 := ev653.trans (by decide +kernel)
                                                      refine Exists.intro 40 ?_
                                                      refine br_t (by decide +kernel) ?_
                                                      refine And.intro (g_in (by decide +kernel)) ?_
                                                      intro v654 ev654; obtain rfl : v654 = 2 := ev654.trans (by decide +kernel)
                                                      refine And.intro (g_in (by decide +kernel)) ?_
                                                      intro v655 ev655; obtain rfl : v655 = 3 := ev655.trans (by decide +kernel)
                                                      intro v656 ev656; obtain rfl : v656 = 0 := ev656.trans (by decide +kernel)
                                                      intro v657 ev657; obtain rfl : v657 = 0 := ev657.trans (by decide +kernel)
                                                      intro v658 ev658; obtain rfl : v658 = 0 := ev658.trans (by decide +kernel)
                                                      intro v659 ev659; obtain rfl : v659 = 0 := ev659.trans (by decide +kernel)
                                                      intro v660 ev660; obtain rfl : v660 = 0 := ev660.trans (by decide +kernel)
                                                      intro v661 ev661; obtain rfl : v661 = 0 := ev661.trans (by decide +kernel)
                                                      intro v662 ev662; obtain rfl : v662 = 0 := ev662.trans (by decide +kernel)
                                                      intro v663 ev663; obtain rfl : v663 = 0 := ev663.trans (by decide +kernel)
                                                      intro v664 ev664; obtain rfl : v664 = 0 := ev664.trans (by decide +kernel)
                                                      exact h _ (((((if_neg (by decide +kernel)).trans (if_neg (by decide +kernel))).trans (if_neg (fun q0 => absurd ((fa_lt p2 0).mp q0) (by have l_0 : (0 : Int32).toInt = 0 := (by decide); have l_1 : (10 : Int32).toInt = 10 := (by decide); have g_hc3 := mt (fa_lt p2 0).mpr hc3; have g_hc4 := mt (fa_lt 10 p2).mpr hc4; omega)))).trans (if_neg (fun q0 => absurd ((fa_lt 10 p2).mp q0) (by have l_0 : (0 : Int32).toInt = 0 := (by decide); have l_1 : (10 : Int32).toInt = 10 := (by decide); have g_hc3 := mt (fa_lt p2 0).mpr hc3; have g_hc4 := mt (fa_lt 10 p2).mpr hc4; omega)))).symm) _ _ _ _
                                                    · skip
                                                      intro v665 ev665; obtain rfl : v665 = 0 := ev665.trans (by decide +kernel)
                                                      intro v666 ev666; obtain rfl : v666 = 23 := ev666.trans (by decide +kernel)
                                                      intro v667 ev667; obtain rfl : v667 = 9 := ev667.trans (by decide +kernel)
                                                      refine Exists.intro 40 ?_
                                                      refine br_t (by decide +kernel) ?_
                                                      intro v668 ev668; obtain rfl : v668 = 0 := ev668.trans (by decide +kernel)
                                                      refine Exists.intro 40 ?_
                                                      refine br_t (by decide +kernel) ?_
                                                      intro v669 ev669; obtain rfl : v669 = 0 := ev669.trans (by decide +kernel)
                                                      intro v670 ev670; obtain rfl : v670 = 0 := ev670.trans (by decide +kernel)
                                                      intro v671 ev671; obtain rfl : v671 = 0 := ev671.trans (by decide +kernel)
                                                      intro v672 ev672; obtain rfl : v672 = 0 := ev672.trans (by decide +kernel)
                                                      intro v673 ev673; obtain rfl : v673 = 0 := ev673.trans (by decide +kernel)
                                                      intro v674 ev674; obtain rfl : v674 = 0 := ev674.trans (by decide +kernel)
                                                      intro v675 ev675; obtain rfl : v675 = 0 := ev675.trans (by decide +kernel)
                                                      intro v676 ev676; obtain rfl : v676 = 0 := ev676.trans (by decide +kernel)
                                                      intro v677 ev677; obtain rfl : v677 = 0 := ev677.trans (by decide +kernel)
                                                      intro v678 ev678; obtain rfl : v678 = 0 := ev678.trans (by decide +kernel)
                                                      intro v679 ev679; obtain rfl : v679 = 0 := ev679.trans (by decide +kernel)
                                                      refine br_f (by decide +kernel) ?_
                                                      intro v680 ev680; obtain rfl : v680 = 24 := ev680.trans (by decide +kernel)
                                                      refine And.intro (fun hc681 => ?_) (fun hc681 => ?_)
                                                      · skip
                                                        obtain rfl : p1 = 23 := (fa_eq _ _).mpr (by have l_0 : (1 : Int32).toInt = 1 := (by decide); have l_1 : (10 : Int32).toInt = 10 := (by decide); have l_2 : (11 : Int32).toInt = 11 := (by decide); have l_3 : (12 : Int32).toInt = 12 := (by decide); have l_4 : (13 : Int32).toInt = 13 := (by decide); have l_5 : (14 : Int32).toInt = 14 := (by decide); have l_6 : (15 : Int32).toInt = 15 := (by decide); have l_7 : (16 : Int32).toInt = 16 := (by decide); have l_8 : (17 : Int32).toInt = 17 := (by decide); have l_9 : (18 : Int32).toInt = 18 := (by decide); have l_10 : (19 : Int32).toInt = 19 := (by decide); have l_11 : (2 : Int32).toInt = 2 := (by decide); have l_12 : (20 : Int32).toInt = 20 := (by decide); have l_13 : (21 : Int32).toInt = 21 := (by decide); have l_14 : (22 : Int32).toInt = 22 := (by decide); have l_15 : (23 : Int32).toInt = 23 := (by decide); have l_16 : (24 : Int32).toInt = 24 := (by decide); have l_17 : (3 : Int32).toInt = 3 := (by decide); have l_18 : (30 : Int32).toInt = 30 := (by decide); have l_19 : (4 : Int32).toInt = 4 := (by decide); have l_20 : (5 : Int32).toInt = 5 := (by decide); have l_21 : (6 : Int32).toInt = 6 := (by decide); have l_22 : (7 : Int32).toInt = 7 := (by decide); have l_23 : (8 : Int32).toInt = 8 := (by decide); have l_24 : (9 : Int32).toInt = 9 := (by decide); have g_hc1 := mt (fa_lt p1 1).mpr hc1; have g_hc2 := mt (fa_lt 30 p1).mpr hc2; have g_hc21 := mt (fa_lt p1 2).mpr hc21; have g_hc51 := mt (fa_lt p1 3).mpr hc51; have g_hc81 := mt (fa_lt p1 4).mpr hc81; have g_hc111 := mt (fa_lt p1 5).mpr hc111; have g_hc141 := mt (fa_lt p1 6).mpr hc141; have g_hc171 := mt (fa_lt p1 7).mpr hc171; have g_hc201 := mt (fa_lt p1 8).mpr hc201; have g_hc231 := mt (fa_lt p1 9).mpr hc231; have g_hc261 := mt (fa_lt p1 10).mpr hc261; have g_hc291 := mt (fa_lt p1 11).mpr hc291; have g_hc321 := mt (fa_lt p1 12).mpr hc321; have g_hc351 := mt (fa_lt p1 13).mpr hc351; have g_hc381 := mt (fa_lt p1 14).mpr hc381; have g_hc411 := mt (fa_lt p1 15).mpr hc411; have g_hc441 := mt (fa_lt p1 16).mpr hc441; have g_hc471 := mt (fa_lt p1 17).mpr hc471; have g_hc501 := mt (fa_lt p1 18).mpr hc501; have g_hc531 := mt (fa_lt p1 19).mpr hc531; have g_hc561 := mt (fa_lt p1 20).mpr hc561; have g_hc591 := mt (fa_lt p1 21).mpr hc591; have g_hc621 := mt (fa_lt p1 22).mpr hc621; have g_hc651 := mt (fa_lt p1 23).mpr hc651; have g_hc681 := (fa_lt p1 24).mp hc681; omega)
                                                        refine And.intro (g_in (by decide +kernel)) ?_
                                                        intro v682 ev682; obtain rfl : v682 = 1 := ev682.trans (by decide +kernel)
                                                        intro v683 ev683; obtain rfl : v683 = 0 := ev683.trans (by decide +kernel)
                                                        refine Exists.intro 40 ?_
                                                        refine br_t (by decide +kernel) ?_
                                                        refine And.intro (g_in (by decide +kernel)) ?_
                                                        intro v684 ev684; obtain rfl : v684 = 2 := ev684.trans (by decide +kernel)
                                                        refine And.intro (g_in (by decide +kernel)) ?_
                                                        intro v685 ev685; obtain rfl : v685 = 3 := ev685.trans (by decide +kernel)
                                                        intro v686 ev686; obtain rfl : v686 = 0 := ev686.trans (by decide +kernel)
                                                        intro v687 ev687; obtain rfl : v687 = 0 := ev687.trans (by decide +kernel)
                                                        intro v688 ev688; obtain rfl : v688 = 0 := ev688.trans (by decide +kernel)
                                                        intro v689 ev689; obtain rfl : v689 = 0 := ev689.trans (by decide +kernel)
                                                        intro v690 ev690; obtain rfl : v690 = 0 := ev690.trans (by decide +kernel)
                                                        intro v691 ev691; obtain rfl : v691 = 0 := ev691.trans (by decide +kernel)
                                                        intro v692 ev692; obtain rfl : v692 = 0 := ev692.trans (by decide +kernel)
                                                        intro v693 ev693; obtain rfl : v693 = 0 := ev693.trans (by decide +kernel)
                                                        intro v694 ev694; obtain rfl : v694 = 0 := ev694.trans (by decide +kernel)
                                                        exact h _ (((((if_neg (by decide +kernel)).trans (if_neg (by decide +kernel))).trans (if_neg (fun q0 => absurd ((fa_lt p2 0).mp q0) (by have l_0 : (0 : Int32).toInt = 0 := (by decide); have l_1 : (10 : Int32).toInt = 10 := (by decide); have g_hc3 := mt (fa_lt p2 0).mpr hc3; have g_hc4 := mt (fa_lt 10 p2).mpr hc4; omega)))).trans (if_neg (fun q0 => absurd ((fa_lt 10 p2).mp q0) (by have l_0 : (0 : Int32).toInt = 0 := (by decide); have l_1 : (10 : Int32).toInt = 10 := (by decide); have g_hc3 := mt (fa_lt p2 0).mpr hc3; have g_hc4 := mt (fa_lt 10 p2).mpr hc4; omega)))).symm) _ _ _ _
                                                      · skip
                                                        intro v695 ev695; obtain rfl : v695 = 0 := ev695.trans (by decide +kernel)
                                                        intro v696 ev696; obtain rfl : v696 = 24 := ev696.trans (by decide +kernel)
                                                        intro v697 ev697; obtain rfl : v697 = 9 := ev697.trans (by decide +kernel)
                                                        refine Exists.intro 40 ?_
                                                        refine br_t (by decide +kernel) ?_
                                                        intro v698 ev698; obtain rfl : v698 = 0 := ev698.trans (by decide +kernel)
                                                        refine Exists.intro 40 ?_
                                                        refine br_t (by decide +kernel) ?_
                                                        intro v699 ev699; obtain rfl : v699 = 0 := ev699.trans (by decide +kernel)
                                                        intro v700 ev700; obtain rfl : v700 = 0 := ev700.trans (by decide +kernel)
                                                        intro v701 ev701; obtain rfl : v701 = 0 := ev701.trans (by decide +kernel)
                                                        intro v702 ev702; obtain rfl : v702 = 0 := ev702.trans (by decide +kernel)
                                                        intro v703 ev703; obtain rfl : v703 = 0 := ev703.trans (by decide +kernel)
                                                        intro v704 ev704; obtain rfl : v704 = 0 := ev704.trans (by decide +kernel)
                                                        intro v705 ev705; obtain rfl : v705 = 0 := ev705.trans (by decide +kernel)
                                                        intro v706 ev706; obtain rfl : v706 = 0 := ev706.trans (by decide +kernel)
                                                        intro v707 ev707; obtain rfl : v707 = 0 := ev707.trans (by decide +kernel)
                                                        intro v708 ev708; obtain rfl : v708 = 0 := ev708.trans (by decide +kernel)
                                                        intro v709 ev709; obtain rfl : v709 = 0 := ev709.trans (by decide +kernel)
                                                        refine br_f (by decide +kernel) ?_
                                                        intro v710 ev710; obtain rfl : v710 = 25 := ev710.trans (by decide +kernel)
                                                        refine And.intro (fun hc711 => ?_) (fun hc711 => ?_)
                                                        · skip
                                                          obtain rfl : p1 = 24 := (fa_eq _ _).mpr (by have l_0 : (1 : Int32).toInt = 1 := (by decide); have l_1 : (10 : Int32).toInt = 10 := (by decide); have l_2 : (11 : Int32).toInt = 11 := (by decide); have l_3 : (12 : Int32).toInt = 12 := (by decide); have l_4 : (13 : Int32).toInt = 13 := (by decide); have l_5 : (14 : Int32).toInt = 14 := (by decide); have l_6 : (15 : Int32).toInt = 15 := (by decide); have l_7 : (16 : Int32).toInt = 16 := (by decide); have l_8 : (17 : Int32).toInt = 17 := (by decide); have l_9 : (18 : Int32).toInt = 18 := (by decide); have l_10 : (19 : Int32).toInt = 19 := (by decide); have l_11 : (2 : Int32).toInt = 2 := (by decide); have l_12 : (20 : Int32).toInt = 20 := (by decide); have l_13 : (21 : Int32).toInt = 21 := (by decide); have l_14 : (22 : Int32).toInt = 22 := (by decide); have l_15 : (23 : Int32).toInt = 23 := (by decide); have l_16 : (24 : Int32).toInt = 24 := (by decide); have l_17 : (25 : Int32).toInt = 25 := (by decide); have l_18 : (3 : Int32).toInt = 3 := (by decide); have l_19 : (30 : Int32).toInt = 30 := (by decide); have l_20 : (4 : Int32).toInt = 4 := (by decide); have l_21 : (5 : Int32).toInt = 5 := (by decide); have l_22 : (6 : Int32).toInt = 6 := (by decide); have l_23 : (7 : Int32).toInt = 7 := (by decide); have l_24 : (8 : Int32).toInt = 8 := (by decide); have l_25 : (9 : Int32).toInt = 9 := (by decide); have g_hc1 := mt (fa_lt p1 1).mpr hc1; have g_hc2 := mt (fa_lt 30 p1).mpr hc2; have g_hc21 := mt (fa_lt p1 2).mpr hc21; have g_hc51 := mt (fa_lt p1 3).mpr hc51; have g_hc81 := mt (fa_lt p1 4).mpr hc81; have g_hc111 := mt (fa_lt p1 5).mpr hc111; have g_hc141 := mt (fa_lt p1 6).mpr hc141; have g_hc171 := mt (fa_lt p1 7).mpr hc171; have g_hc201 := mt (fa_lt p1 8).mpr hc201; have g_hc231 := mt (fa_lt p1 9).mpr hc231; have g_hc261 := mt (fa_lt p1 10).mpr hc261; have g_hc291 := mt (fa_lt p1 11).mpr hc291; have g_hc321 := mt (fa_lt p1 12).mpr hc321; have g_hc351 := mt (fa_lt p1 13).mpr hc351; have g_hc381 := mt (fa_lt p1 14).mpr hc381; have g_hc411 := mt (fa_lt p1 15).mpr hc411; have g_hc441 := mt (fa_lt p1 16).mpr hc441; have g_hc471 := mt (fa_lt p1 17).mpr hc471; have g_hc501 := mt (fa_lt p1 18).mpr hc501; have g_hc531 := mt (fa_lt p1 19).mpr hc531; have g_hc561 := mt (fa_lt p1 20).mpr hc561; have g_hc591 := mt (fa_lt p1 21).mpr hc591; have g_hc621 := mt (fa_lt p1 22).mpr hc621; have g_hc651 := mt (fa_lt p1 23).mpr hc651; have g_hc681 := mt (fa_lt p1 24).mpr hc681; have g_hc711 := (fa_lt p1 25).mp hc711; omega)
                                                          refine And.intro (g_in (by decide +kernel)) ?_
                                                          intro v712 ev712; obtain rfl : v712 = 1 := ev712.trans (by decide +kernel)
                                                          intro v713 ev713; obtain rfl : v713 = 0 := ev713.trans (by decide +kernel)
                                                          refine Exists.intro 40 ?_
                                                          refine br_t (by decide +kernel) ?_
                                                          refine And.intro (g_in (by decide +kernel)) ?_
                                                          intro v714 ev714; obtain rfl : v714 = 2 := ev714.trans (by decide +kernel)
                                                          refine And.intro (g_in (by decide +kernel)) ?_
                                                          intro v715 ev715; obtain rfl : v715 = 3 := ev715.trans (by decide +kernel)
                                                          intro v716 ev716; obtain rfl : v716 = 0 := ev716.trans (by decide +kernel)
                                                          intro v717 ev717; obtain rfl : v717 = 0 := ev717.trans (by decide +kernel)
                                                          intro v718 ev718; obtain rfl : v718 = 0 := ev718.trans (by decide +kernel)
                                                          intro v719 ev719; obtain rfl : v719 = 0 := ev719.trans (by decide +kernel)
                                                          intro v720 ev720; obtain rfl : v720 = 0 := ev720.trans (by decide +kernel)
                                                          intro v721 ev721; obtain rfl : v721 = 0 := ev721.trans (by decide +kernel)
                                                          intro v722 ev722; obtain rfl : v722 = 0 := ev722.trans (by decide +kernel)
                                                          intro v723 ev723; obtain rfl : v723 = 0 := ev723.trans (by decide +kernel)
                                                          intro v724 ev724; obtain rfl : v724 = 0 := ev724.trans (by decide +kernel)
                                                          exact h _ (((((if_neg (by decide +kernel)).trans (if_neg (by decide +kernel))).trans (if_neg (fun q0 => absurd ((fa_lt p2 0).mp q0) (by have l_0 : (0 : Int32).toInt = 0 := (by decide); have l_1 : (10 : Int32).toInt = 10 := (by decide); have g_hc3 := mt (fa_lt p2 0).mpr hc3; have g_hc4 := mt (fa_lt 10 p2).mpr hc4; omega)))).trans (if_neg (fun q0 => absurd ((fa_lt 10 p2).mp q0) (by have l_0 : (0 : Int32).toInt = 0 := (by decide); have l_1 : (10 : Int32).toInt = 10 := (by decide); have g_hc3 := mt (fa_lt p2 0).mpr hc3; have g_hc4 := mt (fa_lt 10 p2).mpr hc4; omega)))).symm) _ _ _ _
                                                        · skip
                                                          intro v725 ev725; obtain rfl : v725 = 0 := ev725.trans (by decide +kernel)
                                                          intro v726 ev726; obtain rfl : v726 = 25 := ev726.trans (by decide +kernel)
                                                          intro v727 ev727; obtain rfl : v727 = 9 := ev727.trans (by decide +kernel)
                                                          refine Exists.intro 40 ?_
                                                          refine br_t (by decide +kernel) ?_
                                                          intro v728 ev728; obtain rfl : v728 = 0 := ev728.trans (by decide +kernel)
                                                          refine Exists.intro 40 ?_
                                                          refine br_t (by decide +kernel) ?_
                                                          intro v729 ev729; obtain rfl : v729 = 0 := ev729.trans (by decide +kernel)
                                                          intro v730 ev730; obtain rfl : v730 = 0 := ev730.trans (by decide +kernel)
                                                          intro v731 ev731; obtain rfl : v731 = 0 := ev731.trans (by decide +kernel)
                                                          intro v732 ev732; obtain rfl : v732 = 0 := ev732.trans (by decide +kernel)
                                                          intro v733 ev733; obtain rfl : v733 = 0 := ev733.trans (by decide +kernel)
                                                          intro v734 ev734; obtain rfl : v734 = 0 := ev734.trans (by decide +kernel)
                                                          intro v735 ev735; obtain rfl : v735 = 0 := ev735.trans (by decide +kernel)
                                                          intro v736 ev736; obtain rfl : v736 = 0 := ev736.trans (by decide +kernel)
                                                          intro v737 ev737; obtain rfl : v737 = 0 := ev737.trans (by decide +kernel)
                                                          intro v738 ev738; obtain rfl : v738 = 0 := ev738.trans (by decide +kernel)
                                                          intro v739 ev739; obtain rfl : v739 = 0 := ev739.trans (by decide +kernel)
                                                          refine br_f (by decide +kernel) ?_
                                                          intro v740 ev740; obtain rfl : v740 = 26 := ev740.trans (by decide +kernel)
                                                          refine And.intro (fun hc741 => ?_) (fun hc741 => ?_)
                                                          · skip
                                                            obtain rfl : p1 = 25 := (fa_eq _ _).mpr (by have l_0 : (1 : Int32).toInt = 1 := (by decide); have l_1 : (10 : Int32).toInt = 10 := (by decide); have l_2 : (11 : Int32).toInt = 11 := (by decide); have l_3 : (12 : Int32).toInt = 12 := (by decide); have l_4 : (13 : Int32).toInt = 13 := (by decide); have l_5 : (14 : Int32).toInt = 14 := (by decide); have l_6 : (15 : Int32).toInt = 15 := (by decide); have l_7 : (16 : Int32).toInt = 16 := (by decide); have l_8 : (17 : Int32).toInt = 17 := (by decide); have l_9 : (18 : Int32).toInt = 18 := (by decide); have l_10 : (19 : Int32).toInt = 19 := (by decide); have l_11 : (2 : Int32).toInt = 2 := (by decide); have l_12 : (20 : Int32).toInt = 20 := (by decide); have l_13 : (21 : Int32).toInt = 21 := (by decide); have l_14 : (22 : Int32).toInt = 22 := (by decide); have l_15 : (23 : Int32).toInt = 23 := (by decide); have l_16 : (24 : Int32).toInt = 24 := (by decide); have l_17 : (25 : Int32).toInt = 25 := (by decide); have l_18 : (26 : Int32).toInt = 26 := (by decide); have l_19 : (3 : Int32).toInt = 3 := (by decide); have l_20 : (30 : Int32).toInt = 30 := (by decide); have l_21 : (4 : Int32).toInt = 4 := (by decide); have l_22 : (5 : Int32).toInt = 5 := (by decide); have l_23 : (6 : Int32).toInt = 6 := (by decide); have l_24 : (7 : Int32).toInt = 7 := (by decide); have l_25 : (8 : Int32).toInt = 8 := (by decide); have l_26 : (9 : Int32).toInt = 9 := (by decide); have g_hc1 := mt (fa_lt p1 1).mpr hc1; have g_hc2 := mt (fa_lt 30 p1).mpr hc2; have g_hc21 := mt (fa_lt p1 2).mpr hc21; have g_hc51 := mt (fa_lt p1 3).mpr hc51; have g_hc81 := mt (fa_lt p1 4).mpr hc81; have g_hc111 := mt (fa_lt p1 5).mpr hc111; have g_hc141 := mt (fa_lt p1 6).mpr hc141; have g_hc171 := mt (fa_lt p1 7).mpr hc171; have g_hc201 := mt (fa_lt p1 8).mpr hc201; have g_hc231 := mt (fa_lt p1 9).mpr hc231; have g_hc261 := mt (fa_lt p1 10).mpr hc261; have g_hc291 := mt (fa_lt p1 11).mpr hc291; have g_hc321 := mt (fa_lt p1 12).mpr hc321; have g_hc351 := mt (fa_lt p1 13).mpr hc351; have g_hc381 := mt (fa_lt p1 14).mpr hc381; have g_hc411 := mt (fa_lt p1 15).mpr hc411; have g_hc441 := mt (fa_lt p1 16).mpr hc441; have g_hc471 := mt (fa_lt p1 17).mpr hc471; have g_hc501 := mt (fa_lt p1 18).mpr hc501; have g_hc531 := mt (fa_lt p1 19).mpr hc531; have g_hc561 := mt (fa_lt p1 20).mpr hc561; have g_hc591 := mt (fa_lt p1 21).mpr hc591; have g_hc621 := mt (fa_lt p1 22).mpr hc621; have g_hc651 := mt (fa_lt p1 23).mpr hc651; have g_hc681 := mt (fa_lt p1 24).mpr hc681; have g_hc711 := mt (fa_lt p1 25).mpr hc711; have g_hc741 := (fa_lt p1 26).mp hc741; omega)
                                                            refine And.intro (g_in (by decide +kernel)) ?_
                                                            intro v742 ev742; obtain rfl : v742 = 1 := ev742.trans (by decide +kernel)
                                                            intro v743 ev743; obtain rfl : v743 = 0 := ev743.trans (by decide +kernel)
                                                            refine Exists.intro 40 ?_
                                                            refine br_t (by decide +kernel) ?_
                                                            refine And.intro (g_in (by decide +kernel)) ?_
                                                            intro v744 ev744; obtain rfl : v744 = 2 := ev744.trans (by decide +kernel)
                                                            refine And.intro (g_in (by decide +kernel)) ?_
                                                            intro v745 ev745; obtain rfl : v745 = 3 := ev745.trans (by decide +kernel)
                                                            intro v746 ev746; obtain rfl : v746 = 0 := ev746.trans (by decide +kernel)
                                                            intro v747 ev747; obtain rfl : v747 = 0 := ev747.trans (by decide +kernel)
                                                            intro v748 ev748; obtain rfl : v748 = 0 := ev748.trans (by decide +kernel)
                                                            intro v749 ev749; obtain rfl : v749 = 0 := ev749.trans (by decide +kernel)
                                                            intro v750 ev750; obtain rfl : v750 = 0 := ev750.trans (by decide +kernel)
                                                            intro v751 ev751; obtain rfl : v751 = 0 := ev751.trans (by decide +kernel)
                                                            intro v752 ev752; obtain rfl : v752 = 0 := ev752.trans (by decide +kernel)
                                                            intro v753 ev753; obtain rfl : v753 = 0 := ev753.trans (by decide +kernel)
                                                            intro v754 ev754; obtain rfl : v754 = 0 := ev754.trans (by decide +kernel)
                                                            exact h _ (((((if_neg (by decide +kernel)).trans (if_neg (by decide +kernel))).trans (if_neg (fun q0 => absurd ((fa_lt p2 0).mp q0) (by have l_0 : (0 : Int32).toInt = 0 := (by decide); have l_1 : (10 : Int32).toInt = 10 := (by decide); have g_hc3 := mt (fa_lt p2 0).mpr hc3; have g_hc4 := mt (fa_lt 10 p2).mpr hc4; omega)))).trans (if_neg (fun q0 => absurd ((fa_lt 10 p2).mp q0) (by have l_0 : (0 : Int32).toInt = 0 := (by decide); have l_1 : (10 : Int32).toInt = 10 := (by decide); have g_hc3 := mt (fa_lt p2 0).mpr hc3; have g_hc4 := mt (fa_lt 10 p2).mpr hc4; omega)))).symm) _ _ _ _
                                                          · skip
                                                            intro v755 ev755; obtain rfl : v755 = 0 := ev755.trans (by decide +kernel)
                                                            intro v756 ev756; obtain rfl : v756 = 26 := ev756.trans (by decide +kernel)
                                                            intro v757 ev757; obtain rfl : v757 = 9 := ev757.trans (by decide +kernel)
                                                            refine Exists.intro 40 ?_
                                                            refine br_t (by decide +kernel) ?_
                                                            intro v758 ev758; obtain rfl : v758 = 0 := ev758.trans (by decide +kernel)
                                                            refine Exists.intro 40 ?_
                                                            refine br_t (by decide +kernel) ?_
                                                            intro v759 ev759; obtain rfl : v759 = 0 := ev759.trans (by decide +kernel)
                                                            intro v760 ev760; obtain rfl : v760 = 0 := ev760.trans (by decide +kernel)
                                                            intro v761 ev761; obtain rfl : v761 = 0 := ev761.trans (by decide +kernel)
                                                            intro v762 ev762; obtain rfl : v762 = 0 := ev762.trans (by decide +kernel)
                                                            intro v763 ev763; obtain rfl : v763 = 0 := ev763.trans (by decide +kernel)
                                                            intro v764 ev764; obtain rfl : v764 = 0 := ev764.trans (by decide +kernel)
                                                            intro v765 ev765; obtain rfl : v765 = 0 := ev765.trans (by decide +kernel)
                                                            intro v766 ev766; obtain rfl : v766 = 0 := ev766.trans (by decide +kernel)
                                                            intro v767 ev767; obtain rfl : v767 = 0 := ev767.trans (by decide +kernel)
                                                            intro v768 ev768; obtain rfl : v768 = 0 := ev768.trans (by decide +kernel)
                                                            intro v769 ev769; obtain rfl : v769 = 0 := ev769.trans (by decide +kernel)
                                                            refine br_f (by decide +kernel) ?_
                                                            intro v770 ev770; obtain rfl : v770 = 27 := ev770.trans (by decide +kernel)
                                                            refine And.intro (fun hc771 => ?_) (fun hc771 => ?_)
                                                            · skip
                                                              obtain rfl : p1 = 26 := (fa_eq _ _).mpr (by have l_0 : (1 : Int32).toInt = 1 := (by decide); have l_1 : (10 : Int32).toInt = 10 := (by decide); have l_2 : (11 : Int32).toInt = 11 := (by decide); have l_3 : (12 : Int32).toInt = 12 := (by decide); have l_4 : (13 : Int32).toInt = 13 := (by decide); have l_5 : (14 : Int32).toInt = 14 := (by decide); have l_6 : (15 : Int32).toInt = 15 := (by decide); have l_7 : (16 : Int32).toInt = 16 := (by decide); have l_8 : (17 : Int32).toInt = 17 := (by decide); have l_9 : (18 : Int32).toInt = 18 := (by decide); have l_10 : (19 : Int32).toInt = 19 := (by decide); have l_11 : (2 : Int32).toInt = 2 := (by decide); have l_12 : (20 : Int32).toInt = 20 := (by decide); have l_13 : (21 : Int32).toInt = 21 := (by decide); have l_14 : (22 : Int32).toInt = 22 := (by decide); have l_15 : (23 : Int32).toInt = 23 := (by decide); have l_16 : (24 : Int32).toInt = 24 := (by decide); have l_17 : (25 : Int32).toInt = 25 := (by decide); have l_18 : (26 : Int32).toInt = 26 := (by decide); have l_19 : (27 : Int32).toInt = 27 := (by decide); have l_20 : (3 : Int32).toInt = 3 := (by decide); have l_21 : (30 : Int32).toInt = 30 := (by decide); have l_22 : (4 : Int32).toInt = 4 := (by decide); have l_23 : (5 : Int32).toInt = 5 := (by decide); have l_24 : (6 : Int32).toInt = 6 := (by decide); have l_25 : (7 : Int32).toInt = 7 := (by decide); have l_26 : (8 : Int32).toInt = 8 := (by decide); have l_27 : (9 : Int32).toInt = 9 := (by decide); have g_hc1 := mt (fa_lt p1 1).mpr hc1; have g_hc2 := mt (fa_lt 30 p1).mpr hc2; have g_hc21 := mt (fa_lt p1 2).mpr hc21; have g_hc51 := mt (fa_lt p1 3).mpr hc51; have g_hc81 := mt (fa_lt p1 4).mpr hc81; have g_hc111 := mt (fa_lt p1 5).mpr hc111; have g_hc141 := mt (fa_lt p1 6).mpr hc141; have g_hc171 := mt (fa_lt p1 7).mpr hc171; have g_hc201 := mt (fa_lt p1 8).mpr hc201; have g_hc231 := mt (fa_lt p1 9).mpr hc231; have g_hc261 := mt (fa_lt p1 10).mpr hc261; have g_hc291 := mt (fa_lt p1 11).mpr hc291; have g_hc321 := mt (fa_lt p1 12).mpr hc321; have g_hc351 := mt (fa_lt p1 13).mpr hc351; have g_hc381 := mt (fa_lt p1 14).mpr hc381; have g_hc411 := mt (fa_lt p1 15).mpr hc411; have g_hc441 := mt (fa_lt p1 16).mpr hc441; have g_hc471 := mt (fa_lt p1 17).mpr hc471; have g_hc501 := mt (fa_lt p1 18).mpr hc501; have g_hc531 := mt (fa_lt p1 19).mpr hc531; have g_hc561 := mt (fa_lt p1 20).mpr hc561; have g_hc591 := mt (fa_lt p1 21).mpr hc591; have g_hc621 := mt (fa_lt p1 22).mpr hc621; have g_hc651 := mt (fa_lt p1 23).mpr hc651; have g_hc681 := mt (fa_lt p1 24).mpr hc681; have g_hc711 := mt (fa_lt p1 25).mpr hc711; have g_hc741 := mt (fa_lt p1 26).mpr hc741; have g_hc771 := (fa_lt p1 27).mp hc771; omega)
                                                              refine And.intro (g_in (by decide +kernel)) ?_
                                                              intro v772 ev772; obtain rfl : v772 = 1 := ev772.trans (by decide +kernel)
                                                              intro v773 ev773; obtain rfl : v773 = 0 := ev773.trans (by decide +kernel)
                                                              refine Exists.intro 40 ?_
                                                              refine br_t (by decide +kernel) ?_
                                                              refine And.intro (g_in (by decide +kernel)) ?_
                                                              intro v774 ev774; obtain rfl : v774 = 2 := ev774.trans (by decide +kernel)
                                                              refine And.intro (g_in (by decide +kernel)) ?_
                                                              intro v775 ev775; obtain rfl : v775 = 3 := ev775.trans (by decide +kernel)
                                                              intro v776 ev776; obtain rfl : v776 = 0 := ev776.trans (by decide +kernel)
                                                              intro v777 ev777; obtain rfl : v777 = 0 := ev777.trans (by decide +kernel)
                                                              intro v778 ev778; obtain rfl : v778 = 0 := ev778.trans (by decide +kernel)
                                                              intro v779 ev779; obtain rfl : v779 = 0 := ev779.trans (by decide +kernel)
                                                              intro v780 ev780; obtain rfl : v780 = 0 := ev780.trans (by decide +kernel)
                                                              intro v781 ev781; obtain rfl : v781 = 0 := ev781.trans (by decide +kernel)
                                                              intro v782 ev782; obtain rfl : v782 = 0 := ev782.trans (by decide +kernel)
                                                              intro v783 ev783; obtain rfl : v783 = 0 := ev783.trans (by decide +kernel)
                                                              intro v784 ev784; obtain rfl : v784 = 0 := ev784.trans (by decide +kernel)
                                                              exact h _ (((((if_neg (by decide +kernel)).trans (if_neg (by decide +kernel))).trans (if_neg (fun q0 => absurd ((fa_lt p2 0).mp q0) (by have l_0 : (0 : Int32).toInt = 0 := (by decide); have l_1 : (10 : Int32).toInt = 10 := (by decide); have g_hc3 := mt (fa_lt p2 0).mpr hc3; have g_hc4 := mt (fa_lt 10 p2).mpr hc4; omega)))).trans (if_neg (fun q0 => absurd ((fa_lt 10 p2).mp q0) (by have l_0 : (0 : Int32).toInt = 0 := (by decide); have l_1 : (10 : Int32).toInt = 10 := (by decide); have g_hc3 := mt (fa_lt p2 0).mpr hc3; have g_hc4 := mt (fa_lt 10 p2).mpr hc4; omega)))).symm) _ _ _ _
                                                            · skip
                                                              intro v785 ev785; obtain rfl : v785 = 0 := ev785.trans (by decide +kernel)
                                                              intro v786 ev786; obtain rfl : v786 = 27 := ev786.trans (by decide +kernel)
                                                              intro v787 ev787; obtain rfl : v787 = 9 := ev787.trans (by decide +kernel)
                                                              refine Exists.intro 40 ?_
                                                              refine br_t (by decide +kernel) ?_
                                                              intro v788 ev788; obtain rfl : v788 = 0 := ev788.trans (by decide +kernel)
                                                              refine Exists.intro 40 ?_
                                                              refine br_t (by decide +kernel) ?_
                                                              intro v789 ev789; obtain rfl : v789 = 0 := ev789.trans (by decide +kernel)
                                                              intro v790 ev790; obtain rfl : v790 = 0 := ev790.trans (by decide +kernel)
                                                              intro v791 ev791; obtain rfl : v791 = 0 := ev791.trans (by decide +kernel)
                                                              intro v792 ev792; obtain rfl : v792 = 0 := ev792.trans (by decide +kernel)
                                                              intro v793 ev793; obtain rfl : v793 = 0 := ev793.trans (by decide +kernel)
                                                              intro v794 ev794; obtain rfl : v794 = 0 := ev794.trans (by decide +kernel)
                                                              intro v795 ev795; obtain rfl : v795 = 0 := ev795.trans (by decide +kernel)
                                                              intro v796 ev796; obtain rfl : v796 = 0 := ev796.trans (by decide +kernel)
                                                              intro v797 ev797; obtain rfl : v797 = 0 := ev797.trans (by decide +kernel)
                                                              intro v798 ev798; obtain rfl : v798 = 0 := ev798.trans (by decide +kernel)
                                                              intro v799 ev799; obtain rfl : v799 = 0 := ev799.trans (by decide +kernel)
                                                              refine br_f (by decide +kernel) ?_
                                                              intro v800 ev800; obtain rfl : v800 = 28 := ev800.trans (by decide +kernel)
                                                              refine And.intro (fun hc801 => ?_) (fun hc801 => ?_)
                                                              · skip
                                                                obtain rfl : p1 = 27 := (fa_eq _ _).mpr (by have l_0 : (1 : Int32).toInt = 1 := (by decide); have l_1 : (10 : Int32).toInt = 10 := (by decide); have l_2 : (11 : Int32).toInt = 11 := (by decide); have l_3 : (12 : Int32).toInt = 12 := (by decide); have l_4 : (13 : Int32).toInt = 13 := (by decide); have l_5 : (14 : Int32).toInt = 14 := (by decide); have l_6 : (15 : Int32).toInt = 15 := (by decide); have l_7 : (16 : Int32).toInt = 16 := (by decide); have l_8 : (17 : Int32).toInt = 17 := (by decide); have l_9 : (18 : Int32).toInt = 18 := (by decide); have l_10 : (19 : Int32).toInt = 19 := (by decide); have l_11 : (2 : Int32).toInt = 2 := (by decide); have l_12 : (20 : Int32).toInt = 20 := (by decide); have l_13 : (21 : Int32).toInt = 21 := (by decide); have l_14 : (22 : Int32).toInt = 22 := (by decide); have l_15 : (23 : Int32).toInt = 23 := (by decide); have l_16 : (24 : Int32).toInt = 24 := (by decide); have l_17 : (25 : Int32).toInt = 25 := (by decide); have l_18 : (26 : Int32).toInt = 26 := (by decide); have l_19 : (27 : Int32).toInt = 27 := (by decide); have l_20 : (28 : Int32).toInt = 28 := (by decide); have l_21 : (3 : Int32).toInt = 3 := (by decide); have l_22 : (30 : Int32).toInt = 30 := (by decide); have l_23 : (4 : Int32).toInt = 4 := (by decide); have l_24 : (5 : Int32).toInt = 5 := (by decide); have l_25 : (6 : Int32).toInt = 6 := (by decide); have l_26 : (7 : Int32).toInt = 7 := (by decide); have l_27 : (8 : Int32).toInt = 8 := (by decide); have l_28 : (9 : Int32).toInt = 9 := (by decide); have g_hc1 := mt (fa_lt p1 1).mpr hc1; have g_hc2 := mt (fa_lt 30 p1).mpr hc2; have g_hc21 := mt (fa_lt p1 2).mpr hc21; have g_hc51 := mt (fa_lt p1 3).mpr hc51; have g_hc81 := mt (fa_lt p1 4).mpr hc81; have g_hc111 := mt (fa_lt p1 5).mpr hc111; have g_hc141 := mt (fa_lt p1 6).mpr hc141; have g_hc171 := mt (fa_lt p1 7).mpr hc171; have g_hc201 := mt (fa_lt p1 8).mpr hc201; have g_hc231 := mt (fa_lt p1 9).mpr hc231; have g_hc261 := mt (fa_lt p1 10).mpr hc261; have g_hc291 := mt (fa_lt p1 11).mpr hc291; have g_hc321 := mt (fa_lt p1 12).mpr hc321; have g_hc351 := mt (fa_lt p1 13).mpr hc351; have g_hc381 := mt (fa_lt p1 14).mpr hc381; have g_hc411 := mt (fa_lt p1 15).mpr hc411; have g_hc441 := mt (fa_lt p1 16).mpr hc441; have g_hc471 := mt (fa_lt p1 17).mpr hc471; have g_hc501 := mt (fa_lt p1 18).mpr hc501; have g_hc531 := mt (fa_lt p1 19).mpr hc531; have g_hc561 := mt (fa_lt p1 20).mpr hc561; have g_hc591 := mt (fa_lt p1 21).mpr hc591; have g_hc621 := mt (fa_lt p1 22).mpr hc621; have g_hc651 := mt (fa_lt p1 23).mpr hc651; have g_hc681 := mt (fa_lt p1 24).mpr hc681; have g_hc711 := mt (fa_lt p1 25).mpr hc711; have g_hc741 := mt (fa_lt p1 26).mpr hc741; have g_hc771 := mt (fa_lt p1 27).mpr hc771; have g_hc801 := (fa_lt p1 28).mp hc801; omega)
                                                                refine And.intro (g_in (by decide +kernel)) ?_
                                                                intro v802 ev802; obtain rfl : v802 = 1 := ev802.trans (by decide +kernel)
                                                                intro v803 ev803; obtain rfl : v803 = 0 := ev803.trans (by decide +kernel)
                                                                refine Exists.intro 40 ?_
                                                                refine br_t (by decide +kernel) ?_
                                                                refine And.intro (g_in (by decide +kernel)) ?_
                                                                intro v804 ev804; obtain rfl : v804 = 2 := ev804.trans (by decide +kernel)
                                                                refine And.intro (g_in (by decide +kernel)) ?_
                                                                intro v805 ev805; obtain rfl : v805 = 3 := ev805.trans (by decide +kernel)
                                                                intro v806 ev806; obtain rfl : v806 = 0 := ev806.trans (by decide +kernel)
                                                                intro v807 ev807; obtain rfl : v807 = 0 := ev807.trans (by decide +kernel)
                                                                intro v808 ev808; obtain rfl : v808 = 0 := ev808.trans (by decide +kernel)
                                                                intro v809 ev809; obtain rfl : v809 = 0 := ev809.trans (by decide +kernel)
                                                                intro v810 ev810; obtain rfl : v810 = 0 := ev810.trans (by decide +kernel)
                                                                intro v811 ev811; obtain rfl : v811 = 0 := ev811.trans (by decide +kernel)
                                                                intro v812 ev812; obtain rfl : v812 = 0 := ev812.trans (by decide +kernel)
                                                                intro v813 ev813; obtain rfl : v813 = 0 := ev813.trans (by decide +kernel)
                                                                intro v814 ev814; obtain rfl : v814 = 0 := ev814.trans (by decide +kernel)
                                                                exact h _ (((((if_neg (by decide +kernel)).trans (if_neg (by decide +kernel))).trans (if_neg (fun q0 => absurd ((fa_lt p2 0).mp q0) (by have l_0 : (0 : Int32).toInt = 0 := (by decide); have l_1 : (10 : Int32).toInt = 10 := (by decide); have g_hc3 := mt (fa_lt p2 0).mpr hc3; have g_hc4 := mt (fa_lt 10 p2).mpr hc4; omega)))).trans (if_neg (fun q0 => absurd ((fa_lt 10 p2).mp q0) (by have l_0 : (0 : Int32).toInt = 0 := (by decide); have l_1 : (10 : Int32).toInt = 10 := (by decide); have g_hc3 := mt (fa_lt p2 0).mpr hc3; have g_hc4 := mt (fa_lt 10 p2).mpr hc4; omega)))).symm) _ _ _ _
                                                              · skip
                                                                intro v815 ev815; obtain rfl : v815 = 0 := ev815.trans (by decide +kernel)
                                                                intro v816 ev816; obtain rfl : v816 = 28 := ev816.trans (by decide +kernel)
                                                                intro v817 ev817; obtain rfl : v817 = 9 := ev817.trans (by decide +kernel)
                                                                refine Exists.intro 40 ?_
                                                                refine br_t (by decide +kernel) ?_
                                                                intro v818 ev818; obtain rfl : v818 = 0 := ev818.trans (by decide +kernel)
                                                                refine Exists.intro 40 ?_
                                                                refine br_t (by decide +kernel) ?_
                                                                intro v819 ev819; obtain rfl : v819 = 0 := ev819.trans (by decide +kernel)
                                                                intro v820 ev820; obtain rfl : v820 = 0 := ev820.trans (by decide +kernel)
                                                                intro v821 ev821; obtain rfl : v821 = 0 := ev821.trans (by decide +kernel)
                                                                intro v822 ev822; obtain rfl : v822 = 0 := ev822.trans (by decide +kernel)
                                                                intro v823 ev823; obtain rfl : v823 = 0 := ev823.trans (by decide +kernel)
                                                                intro v824 ev824; obtain rfl : v824 = 0 := ev824.trans (by decide +kernel)
                                                                intro v825 ev825; obtain rfl : v825 = 0 := ev825.trans (by decide +kernel)
                                                                intro v826 ev826; obtain rfl : v826 = 0 := ev826.trans (by decide +kernel)
                                                                intro v827 ev827; obtain rfl : v827 = 0 := ev827.trans (by decide +kernel)
                                                                intro v828 ev828; obtain rfl : v828 = 0 := ev828.trans (by decide +kernel)
                                                                intro v829 ev829; obtain rfl : v829 = 0 := ev829.trans (by decide +kernel)
                                                                refine br_f (by decide +kernel) ?_
                                                                intro v830 ev830; obtain rfl : v830 = 29 := ev830.trans (by decide +kernel)
                                                                refine And.intro (fun hc831 => ?_) (fun hc831 => ?_)
                                                                · skip
                                                                  obtain rfl : p1 = 28 := (fa_eq _ _).mpr (by have l_0 : (1 : Int32).toInt = 1 := (by decide); have l_1 : (10 : Int32).toInt = 10 := (by decide); have l_2 : (11 : Int32).toInt = 11 := (by decide); have l_3 : (12 : Int32).toInt = 12 := (by decide); have l_4 : (13 : Int32).toInt = 13 := (by decide); have l_5 : (14 : Int32).toInt = 14 := (by decide); have l_6 : (15 : Int32).toInt = 15 := (by decide); have l_7 : (16 : Int32).toInt = 16 := (by decide); have l_8 : (17 : Int32).toInt = 17 := (by decide); have l_9 : (18 : Int32).toInt = 18 := (by decide); have l_10 : (19 : Int32).toInt = 19 := (by decide); have l_11 : (2 : Int32).toInt = 2 := (by decide); have l_12 : (20 : Int32).toInt = 20 := (by decide); have l_13 : (21 : Int32).toInt = 21 := (by decide); have l_14 : (22 : Int32).toInt = 22 := (by decide); have l_15 : (23 : Int32).toInt = 23 := (by decide); have l_16 : (24 : Int32).toInt = 24 := (by decide); have l_17 : (25 : Int32).toInt = 25 := (by decide); have l_18 : (26 : Int32).toInt = 26 := (by decide); have l_19 : (27 : Int32).toInt = 27 := (by decide); have l_20 : (28 : Int32).toInt = 28 := (by decide); have l_21 : (29 : Int32).toInt = 29 := (by decide); have l_22 : (3 : Int32).toInt = 3 := (by decide); have l_23 : (30 : Int32).toInt = 30 := (by decide); have l_24 : (4 : Int32).toInt = 4 := (by decide); have l_25 : (5 : Int32).toInt = 5 := (by decide); have l_26 : (6 : Int32).toInt = 6 := (by decide); have l_27 : (7 : Int32).toInt = 7 := (by decide); have l_28 : (8 : Int32).toInt = 8 := (by decide); have l_29 : (9 : Int32).toInt = 9 := (by decide); have g_hc1 := mt (fa_lt p1 1).mpr hc1; have g_hc2 := mt (fa_lt 30 p1).mpr hc2; have g_hc21 := mt (fa_lt p1 2).mpr hc21; have g_hc51 := mt (fa_lt p1 3).mpr hc51; have g_hc81 := mt (fa_lt p1 4).mpr hc81; have g_hc111 := mt (fa_lt p1 5).mpr hc111; have g_hc141 := mt (fa_lt p1 6).mpr hc141; have g_hc171 := mt (fa_lt p1 7).mpr hc171; have g_hc201 := mt (fa_lt p1 8).mpr hc201; have g_hc231 := mt (fa_lt p1 9).mpr hc231; have g_hc261 := mt (fa_lt p1 10).mpr hc261; have g_hc291 := mt (fa_lt p1 11).mpr hc291; have g_hc321 := mt (fa_lt p1 12).mpr hc321; have g_hc351 := mt (fa_lt p1 13).mpr hc351; have g_hc381 := mt (fa_lt p1 14).mpr hc381; have g_hc411 := mt (fa_lt p1 15).mpr hc411; have g_hc441 := mt (fa_lt p1 16).mpr hc441; have g_hc471 := mt (fa_lt p1 17).mpr hc471; have g_hc501 := mt (fa_lt p1 18).mpr hc501; have g_hc531 := mt (fa_lt p1 19).mpr hc531; have g_hc561 := mt (fa_lt p1 20).mpr hc561; have g_hc591 := mt (fa_lt p1 21).mpr hc591; have g_hc621 := mt (fa_lt p1 22).mpr hc621; have g_hc651 := mt (fa_lt p1 23).mpr hc651; have g_hc681 := mt (fa_lt p1 24).mpr hc681; have g_hc711 := mt (fa_lt p1 25).mpr hc711; have g_hc741 := mt (fa_lt p1 26).mpr hc741; have g_hc771 := mt (fa_lt p1 27).mpr hc771; have g_hc801 := mt (fa_lt p1 28).mpr hc801; have g_hc831 := (fa_lt p1 29).mp hc831; omega)
                                                                  refine And.intro (g_in (by decide +kernel)) ?_
                                                                  intro v832 ev832; obtain rfl : v832 = 1 := ev832.trans (by decide +kernel)
                                                                  intro v833 ev833; obtain rfl : v833 = 0 := ev833.trans (by decide +kernel)
                                                                  refine Exists.intro 40 ?_
                                                                  refine br_t (by decide +kernel) ?_
                                                                  refine And.intro (g_in (by decide +kernel)) ?_
                                                                  intro v834 ev834; obtain rfl : v834 = 2 := ev834.trans (by decide +kernel)
                                                                  refine And.intro (g_in (by decide +kernel)) ?_
                                                                  intro v835 ev835; obtain rfl : v835 = 3 := ev835.trans (by decide +kernel)
                                                                  intro v836 ev836; obtain rfl : v836 = 0 := ev836.trans (by decide +kernel)
                                                                  intro v837 ev837; obtain rfl : v837 = 0 := ev837.trans (by decide +kernel)
                                                                  intro v838 ev838; obtain rfl : v838 = 0 := ev838.trans (by decide +kernel)
                                                                  intro v839 ev839; obtain rfl : v839 = 0 := ev839.trans (by decide +kernel)
                                                                  intro v840 ev840; obtain rfl : v840 = 0 := ev840.trans (by decide +kernel)
                                                                  intro v841 ev841; obtain rfl : v841 = 0 := ev841.trans (by decide +kernel)
                                                                  intro v842 ev842; obtain rfl : v842 = 0 := ev842.trans (by decide +kernel)
                                                                  intro v843 ev843; obtain rfl : v843 = 0 := ev843.trans (by decide +kernel)
                                                                  intro v844 ev844; obtain rfl : v844 = 0 := ev844.trans (by decide +kernel)
                                                                  exact h _ (((((if_neg (by decide +kernel)).trans (if_neg (by decide +kernel))).trans (if_neg (fun q0 => absurd ((fa_lt p2 0).mp q0) (by have l_0 : (0 : Int32).toInt = 0 := (by decide); have l_1 : (10 : Int32).toInt = 10 := (by decide); have g_hc3 := mt (fa_lt p2 0).mpr hc3; have g_hc4 := mt (fa_lt 10 p2).mpr hc4; omega)))).trans (if_neg (fun q0 => absurd ((fa_lt 10 p2).mp q0) (by have l_0 : (0 : Int32).toInt = 0 := (by decide); have l_1 : (10 : Int32).toInt = 10 := (by decide); have g_hc3 := mt (fa_lt p2 0).mpr hc3; have g_hc4 := mt (fa_lt 10 p2).mpr hc4; omega)))).symm) _ _ _ _
                                                                · skip
                                                                  intro v845 ev845; obtain rfl : v845 = 0 := ev845.trans (by decide +kernel)
                                                                  intro v846 ev846; obtain rfl : v846 = 29 := ev846.trans (by decide +kernel)
                                                                  intro v847 ev847; obtain rfl : v847 = 9 := ev847.trans (by decide +kernel)
                                                                  refine Exists.intro 40 ?_
                                                                  refine br_t (by decide +kernel) ?_
                                                                  intro v848 ev848; obtain rfl : v848 = 0 := ev848.trans (by decide +kernel)
                                                                  refine Exists.intro 40 ?_
                                                                  refine br_t (by decide +kernel) ?_
                                                                  intro v849 ev849; obtain rfl : v849 = 0 := ev849.trans (by decide +kernel)
                                                                  intro v850 ev850; obtain rfl : v850 = 0 := ev850.trans (by decide +kernel)
                                                                  intro v851 ev851; obtain rfl : v851 = 0 := ev851.trans (by decide +kernel)
                                                                  intro v852 ev852; obtain rfl : v852 = 0 := ev852.trans (by decide +kernel)
                                                                  intro v853 ev853; obtain rfl : v853 = 0 := ev853.trans (by decide +kernel)
                                                                  intro v854 ev854; obtain rfl : v854 = 0 := ev854.trans (by decide +kernel)
                                                                  intro v855 ev855; obtain rfl : v855 = 0 := ev855.trans (by decide +kernel)
                                                                  intro v856 ev856; obtain rfl : v856 = 0 := ev856.trans (by decide +kernel)
                                                                  intro v857 ev857; obtain rfl : v857 = 0 := ev857.trans (by decide +kernel)
                                                                  intro v858 ev858; obtain rfl : v858 = 0 := ev858.trans (by decide +kernel)
                                                                  intro v859 ev859; obtain rfl : v859 = 0 := ev859.trans (by decide +kernel)
                                                                  refine br_f (by decide +kernel) ?_
                                                                  intro v860 ev860; obtain rfl : v860 = 30 := ev860.trans (by decide +kernel)
                                                                  refine And.intro (fun hc861 => ?_) (fun hc861 => ?_)
                                                                  · skip
                                                                    obtain rfl : p1 = 29 := (fa_eq _ _).mpr (by have l_0 : (1 : Int32).toInt = 1 := (by decide); have l_1 : (10 : Int32).toInt = 10 := (by decide); have l_2 : (11 : Int32).toInt = 11 := (by decide); have l_3 : (12 : Int32).toInt = 12 := (by decide); have l_4 : (13 : Int32).toInt = 13 := (by decide); have l_5 : (14 : Int32).toInt = 14 := (by decide); have l_6 : (15 : Int32).toInt = 15 := (by decide); have l_7 : (16 : Int32).toInt = 16 := (by decide); have l_8 : (17 : Int32).toInt = 17 := (by decide); have l_9 : (18 : Int32).toInt = 18 := (by decide); have l_10 : (19 : Int32).toInt = 19 := (by decide); have l_11 : (2 : Int32).toInt = 2 := (by decide); have l_12 : (20 : Int32).toInt = 20 := (by decide); have l_13 : (21 : Int32).toInt = 21 := (by decide); have l_14 : (22 : Int32).toInt = 22 := (by decide); have l_15 : (23 : Int32).toInt = 23 := (by decide); have l_16 : (24 : Int32).toInt = 24 := (by decide); have l_17 : (25 : Int32).toInt = 25 := (by decide); have l_18 : (26 : Int32).toInt = 26 := (by decide); have l_19 : (27 : Int32).toInt = 27 := (by decide); have l_20 : (28 : Int32).toInt = 28 := (by decide); have l_21 : (29 : Int32).toInt = 29 := (by decide); have l_22 : (3 : Int32).toInt = 3 := (by decide); have l_23 : (30 : Int32).toInt = 30 := (by decide); have l_24 : (4 : Int32).toInt = 4 := (by decide); have l_25 : (5 : Int32).toInt = 5 := (by decide); have l_26 : (6 : Int32).toInt = 6 := (by decide); have l_27 : (7 : Int32).toInt = 7 := (by decide); have l_28 : (8 : Int32).toInt = 8 := (by decide); have l_29 : (9 : Int32).toInt = 9 := (by decide); have g_hc1 := mt (fa_lt p1 1).mpr hc1; have g_hc2 := mt (fa_lt 30 p1).mpr hc2; have g_hc21 := mt (fa_lt p1 2).mpr hc21; have g_hc51 := mt (fa_lt p1 3).mpr hc51; have g_hc81 := mt (fa_lt p1 4).mpr hc81; have g_hc111 := mt (fa_lt p1 5).mpr hc111; have g_hc141 := mt (fa_lt p1 6).mpr hc141; have g_hc171 := mt (fa_lt p1 7).mpr hc171; have g_hc201 := mt (fa_lt p1 8).mpr hc201; have g_hc231 := mt (fa_lt p1 9).mpr hc231; have g_hc261 := mt (fa_lt p1 10).mpr hc261; have g_hc291 := mt (fa_lt p1 11).mpr hc291; have g_hc321 := mt (fa_lt p1 12).mpr hc321; have g_hc351 := mt (fa_lt p1 13).mpr hc351; have g_hc381 := mt (fa_lt p1 14).mpr hc381; have g_hc411 := mt (fa_lt p1 15).mpr hc411; have g_hc441 := mt (fa_lt p1 16).mpr hc441; have g_hc471 := mt (fa_lt p1 17).mpr hc471; have g_hc501 := mt (fa_lt p1 18).mpr hc501; have g_hc531 := mt (fa_lt p1 19).mpr hc531; have g_hc561 := mt (fa_lt p1 20).mpr hc561; have g_hc591 := mt (fa_lt p1 21).mpr hc591; have g_hc621 := mt (fa_lt p1 22).mpr hc621; have g_hc651 := mt (fa_lt p1 23).mpr hc651; have g_hc681 := mt (fa_lt p1 24).mpr hc681; have g_hc711 := mt (fa_lt p1 25).mpr hc711; have g_hc741 := mt (fa_lt p1 26).mpr hc741; have g_hc771 := mt (fa_lt p1 27).mpr hc771; have g_hc801 := mt (fa_lt p1 28).mpr hc801; have g_hc831 := mt (fa_lt p1 29).mpr hc831; have g_hc861 := (fa_lt p1 30).mp hc861; omega)
                                                                    refine And.intro (g_in (by decide +kernel)) ?_
                                                                    intro v862 ev862; obtain rfl : v862 = 1 := ev862.trans (by decide +kernel)
                                                                    intro v863 ev863; obtain rfl : v863 = 0 := ev863.trans (by decide +kernel)
                                                                    refine Exists.intro 40 ?_
                                                                    refine br_t (by decide +kernel) ?_
                                                                    refine And.intro (g_in (by decide +kernel)) ?_
                                                                    intro v864 ev864; obtain rfl : v864 = 2 := ev864.trans (by decide +kernel)
                                                                    refine And.intro (g_in (by decide +kernel)) ?_
                                                                    intro v865 ev865; obtain rfl : v865 = 3 := ev865.trans (by decide +kernel)
                                                                    intro v866 ev866; obtain rfl : v866 = 0 := ev866.trans (by decide +kernel)
                                                                    intro v867 ev867; obtain rfl : v867 = 0 := ev867.trans (by decide +kernel)
                                                                    intro v868 ev868; obtain rfl : v868 = 0 := ev868.trans (by decide +kernel)
                                                                    intro v869 ev869; obtain rfl : v869 = 0 := ev869.trans (by decide +kernel)
                                                                    intro v870 ev870; obtain rfl : v870 = 0 := ev870.trans (by decide +kernel)
                                                                    intro v871 ev871; obtain rfl : v871 = 0 := ev871.trans (by decide +kernel)
                                                                    intro v872 ev872; obtain rfl : v872 = 0 := ev872.trans (by decide +kernel)
                                                                    intro v873 ev873; obtain rfl : v873 = 0 := ev873.trans (by decide +kernel)
                                                                    intro v874 ev874; obtain rfl : v874 = 0 := ev874.trans (by decide +kernel)
                                                                    exact h _ (((((if_neg (by decide +kernel)).trans (if_neg (by decide +kernel))).trans (if_neg (fun q0 => absurd ((fa_lt p2 0).mp q0) (by have l_0 : (0 : Int32).toInt = 0 := (by decide); have l_1 : (10 : Int32).toInt = 10 := (by decide); have g_hc3 := mt (fa_lt p2 0).mpr hc3; have g_hc4 := mt (fa_lt 10 p2).mpr hc4; omega)))).trans (if_neg (fun q0 => absurd ((fa_lt 10 p2).mp q0) (by have l_0 : (0 : Int32).toInt = 0 := (by decide); have l_1 : (10 : Int32).toInt = 10 := (by decide); have g_hc3 := mt (fa_lt p2 0).mpr hc3; have g_hc4 := mt (fa_lt 10 p2).mpr hc4; omega)))).symm) _ _ _ _
                                                                  · skip
                                                                    obtain rfl : p1 = 30 := (fa_eq _ _).mpr (by have l_0 : (1 : Int32).toInt = 1 := (by decide); have l_1 : (10 : Int32).toInt = 10 := (by decide); have l_2 : (11 : Int32).toInt = 11 := (by decide); have l_3 : (12 : Int32).toInt = 12 := (by decide); have l_4 : (13 : Int32).toInt = 13 := (by decide); have l_5 : (14 : Int32).toInt = 14 := (by decide); have l_6 : (15 : Int32).toInt = 15 := (by decide); have l_7 : (16 : Int32).toInt = 16 := (by decide); have l_8 : (17 : Int32).toInt = 17 := (by decide); have l_9 : (18 : Int32).toInt = 18 := (by decide); have l_10 : (19 : Int32).toInt = 19 := (by decide); have l_11 : (2 : Int32).toInt = 2 := (by decide); have l_12 : (20 : Int32).toInt = 20 := (by decide); have l_13 : (21 : Int32).toInt = 21 := (by decide); have l_14 : (22 : Int32).toInt = 22 := (by decide); have l_15 : (23 : Int32).toInt = 23 := (by decide); have l_16 : (24 : Int32).toInt = 24 := (by decide); have l_17 : (25 : Int32).toInt = 25 := (by decide); have l_18 : (26 : Int32).toInt = 26 := (by decide); have l_19 : (27 : Int32).toInt = 27 := (by decide); have l_20 : (28 : Int32).toInt = 28 := (by decide); have l_21 : (29 : Int32).toInt = 29 := (by decide); have l_22 : (3 : Int32).toInt = 3 := (by decide); have l_23 : (30 : Int32).toInt = 30 := (by decide); have l_24 : (4 : Int32).toInt = 4 := (by decide); have l_25 : (5 : Int32).toInt = 5 := (by decide); have l_26 : (6 : Int32).toInt = 6 := (by decide); have l_27 : (7 : Int32).toInt = 7 := (by decide); have l_28 : (8 : Int32).toInt = 8 := (by decide); have l_29 : (9 : Int32).toInt = 9 := (by decide); have g_hc1 := mt (fa_lt p1 1).mpr hc1; have g_hc2 := mt (fa_lt 30 p1).mpr hc2; have g_hc21 := mt (fa_lt p1 2).mpr hc21; have g_hc51 := mt (fa_lt p1 3).mpr hc51; have g_hc81 := mt (fa_lt p1 4).mpr hc81; have g_hc111 := mt (fa_lt p1 5).mpr hc111; have g_hc141 := mt (fa_lt p1 6).mpr hc141; have g_hc171 := mt (fa_lt p1 7).mpr hc171; have g_hc201 := mt (fa_lt p1 8).mpr hc201; have g_hc231 := mt (fa_lt p1 9).mpr hc231; have g_hc261 := mt (fa_lt p1 10).mpr hc261; have g_hc291 := mt (fa_lt p1 11).mpr hc291; have g_hc321 := mt (fa_lt p1 12).mpr hc321; have g_hc351 := mt (fa_lt p1 13).mpr hc351; have g_hc381 := mt (fa_lt p1 14).mpr hc381; have g_hc411 := mt (fa_lt p1 15).mpr hc411; have g_hc441 := mt (fa_lt p1 16).mpr hc441; have g_hc471 := mt (fa_lt p1 17).mpr hc471; have g_hc501 := mt (fa_lt p1 18).mpr hc501; have g_hc531 := mt (fa_lt p1 19).mpr hc531; have g_hc561 := mt (fa_lt p1 20).mpr hc561; have g_hc591 := mt (fa_lt p1 21).mpr hc591; have g_hc621 := mt (fa_lt p1 22).mpr hc621; have g_hc651 := mt (fa_lt p1 23).mpr hc651; have g_hc681 := mt (fa_lt p1 24).mpr hc681; have g_hc711 := mt (fa_lt p1 25).mpr hc711; have g_hc741 := mt (fa_lt p1 26).mpr hc741; have g_hc771 := mt (fa_lt p1 27).mpr hc771; have g_hc801 := mt (fa_lt p1 28).mpr hc801; have g_hc831 := mt (fa_lt p1 29).mpr hc831; have g_hc861 := mt (fa_lt p1 30).mpr hc861; omega)
                                                                    intro v875 ev875; obtain rfl : v875 = 0 := ev875.trans (by decide +kernel)
                                                                    intro v876 ev876; obtain rfl : v876 = 30 := ev876.trans (by decide +kernel)
                                                                    intro v877 ev877; obtain rfl : v877 = 9 := ev877.trans (by decide +kernel)
                                                                    refine Exists.intro 40 ?_
                                                                    refine br_t (by decide +kernel) ?_
                                                                    intro v878 ev878; obtain rfl : v878 = 0 := ev878.trans (by decide +kernel)
                                                                    refine Exists.intro 40 ?_
                                                                    refine br_t (by decide +kernel) ?_
                                                                    intro v879 ev879; obtain rfl : v879 = 0 := ev879.trans (by decide +kernel)
                                                                    intro v880 ev880; obtain rfl : v880 = 0 := ev880.trans (by decide +kernel)
                                                                    intro v881 ev881; obtain rfl : v881 = 0 := ev881.trans (by decide +kernel)
                                                                    intro v882 ev882; obtain rfl : v882 = 0 := ev882.trans (by decide +kernel)
                                                                    intro v883 ev883; obtain rfl : v883 = 0 := ev883.trans (by decide +kernel)
                                                                    intro v884 ev884; obtain rfl : v884 = 0 := ev884.trans (by decide +kernel)
                                                                    intro v885 ev885; obtain rfl : v885 = 0 := ev885.trans (by decide +kernel)
                                                                    intro v886 ev886; obtain rfl : v886 = 0 := ev886.trans (by decide +kernel)
                                                                    intro v887 ev887; obtain rfl : v887 = 0 := ev887.trans (by decide +kernel)
                                                                    intro v888 ev888; obtain rfl : v888 = 0 := ev888.trans (by decide +kernel)
                                                                    intro v889 ev889; obtain rfl : v889 = 0 := ev889.trans (by decide +kernel)
                                                                    refine br_f (by decide +kernel) ?_
                                                                    intro v890 ev890; obtain rfl : v890 = 31 := ev890.trans (by decide +kernel)
                                                                    refine br_t (by decide +kernel) ?_
                                                                    refine And.intro (g_in (by decide +kernel)) ?_
                                                                    intro v891 ev891; obtain rfl : v891 = 1 := ev891.trans (by decide +kernel)
                                                                    intro v892 ev892; obtain rfl : v892 = 0 := ev892.trans (by decide +kernel)
                                                                    refine Exists.intro 40 ?_
                                                                    refine br_t (by decide +kernel) ?_
                                                                    refine And.intro (g_in (by decide +kernel)) ?_
                                                                    intro v893 ev893; obtain rfl : v893 = 2 := ev893.trans (by decide +kernel)
                                                                    refine And.intro (g_in (by decide +kernel)) ?_
                                                                    intro v894 ev894; obtain rfl : v894 = 3 := ev894.trans (by decide +kernel)
                                                                    intro v895 ev895; obtain rfl : v895 = 0 := ev895.trans (by decide +kernel)
                                                                    intro v896 ev896; obtain rfl : v896 = 0 := ev896.trans (by decide +kernel)
                                                                    intro v897 ev897; obtain rfl : v897 = 0 := ev897.trans (by decide +kernel)
                                                                    intro v898 ev898; obtain rfl : v898 = 0 := ev898.trans (by decide +kernel)
                                                                    intro v899 ev899; obtain rfl : v899 = 0 := ev899.trans (by decide +kernel)
                                                                    intro v900 ev900; obtain rfl : v900 = 0 := ev900.trans (by decide +kernel)
                                                                    intro v901 ev901; obtain rfl : v901 = 0 := ev901.trans (by decide +kernel)
                                                                    intro v902 ev902; obtain rfl : v902 = 0 := ev902.trans (by decide +kernel)
                                                                    intro v903 ev903; obtain rfl : v903 = 0 := ev903.trans (by decide +kernel)
                                                                    exact h _ (((((if_neg (by decide +kernel)).trans (if_neg (by decide +kernel))).trans (if_neg (fun q0 => absurd ((fa_lt p2 0).mp q0) (by have l_0 : (0 : Int32).toInt = 0 := (by decide); have l_1 : (10 : Int32).toInt = 10 := (by decide); have g_hc3 := mt (fa_lt p2 0).mpr hc3; have g_hc4 := mt (fa_lt 10 p2).mpr hc4; omega)))).trans (if_neg (fun q0 => absurd ((fa_lt 10 p2).mp q0) (by have l_0 : (0 : Int32).toInt = 0 := (by decide); have l_1 : (10 : Int32).toInt = 10 := (by decide); have g_hc3 := mt (fa_lt p2 0).mpr hc3; have g_hc4 := mt (fa_lt 10 p2).mpr hc4; omega)))).symm) _ _ _ _
