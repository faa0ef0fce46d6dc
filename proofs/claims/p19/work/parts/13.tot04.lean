set_option maxHeartbeats 8000000 in
set_option maxRecDepth 200000 in
theorem t_X9_undo {post : Int32 → Int32 → Int32 → Int32 → Int32 → Int32 → Int32 → Int32 → Int32 → Int32 → Int32 → Prop} {jC eO eW dO fJ fY jD nG oE uF : Int32} {sG : Nat → Int32} (h_no_ladder : -1 ≤ Int32.toInt fJ ∧ Int32.toInt fJ ≤ 7) (h_no_today : 0 ≤ Int32.toInt jD ∧ Int32.toInt jD ≤ 9) (h_pa_undoable : 0 ≤ Int32.toInt oE ∧ Int32.toInt oE ≤ 12) (h_pa_free : 0 ≤ Int32.toInt uF ∧ Int32.toInt uF ≤ 12) (e0_pa_cells : ∀ k : Nat, k % 8 = 4 → -1 ≤ Int32.toInt (sG k) ∧ Int32.toInt (sG k) ≤ 7) (e1_pa_cells : ∀ k : Nat, k % 8 = 6 → 0 ≤ Int32.toInt (sG k) ∧ Int32.toInt (sG k) ≤ 9) (hpost : ∀ (r : Int32) (no_apron' : Int32) (no_basket' : Int32) (no_ground' : Int32) (no_bruised' : Int32) (no_ladder' : Int32) (no_helper' : Int32) (no_today' : Int32) (no_clock' : Int32) (pa_undoable' : Int32) (pa_free' : Int32), (-1 ≤ Int32.toInt r ∧ Int32.toInt r ≤ 11) → (-1 ≤ Int32.toInt no_ladder' ∧ Int32.toInt no_ladder' ≤ 7) → (0 ≤ Int32.toInt no_today' ∧ Int32.toInt no_today' ≤ 9) → (0 ≤ Int32.toInt pa_undoable' ∧ Int32.toInt pa_undoable' ≤ 11) → (0 ≤ Int32.toInt pa_free' ∧ Int32.toInt pa_free' ≤ 12) → post r no_apron' no_basket' no_ground' no_bruised' no_ladder' no_helper' no_today' no_clock' pa_undoable' pa_free') : wp_X9_undo post jC eO eW dO fJ fY jD nG oE uF sG := by
  have l0 := li_m1
  have l1 := li_0
  have l2 := li_1
  have l3 := li_104
  have l4 := li_13
  have l5 := li_2
  have l6 := li_3
  have l7 := li_4
  have l8 := li_5
  have l9 := li_6
  have l10 := li_7
  have l11 := li_8
  refine And.intro (fun c1 => ?_) (fun c1 => ?_)
  · skip
    have c1 := mt (fa_eq _ _).mpr c1
    intro v2 ev2
    have f3 : Int32.toInt (uF + 13) = Int32.toInt uF + Int32.toInt (13 : Int32) := ta_add _ _ (by omega)
    rw [← ev2] at f3
    intro v4 ev4
    have f5 : Int32.toInt (v2 - 1) = Int32.toInt v2 - Int32.toInt (1 : Int32) := ta_sub _ _ (by omega)
    rw [← ev4] at f5
    intro v6 ev6
    have f7 : Int32.toInt (v4 - v4 / 13 * 13) = Int32.toInt v4 % 13 := ti_rem _ _ (by decide) (by omega) (by decide)
    rw [← ev6] at f7
    intro v8 ev8
    have f9 : Int32.toInt (oE - 1) = Int32.toInt oE - Int32.toInt (1 : Int32) := ta_sub _ _ (by omega)
    rw [← ev8] at f9
    intro v10 ev10
    have f11 : Int32.toInt (v6 * 8) = Int32.toInt v6 * 8 := ta_mulc _ _ (by decide) (by omega)
    rw [← ev10] at f11
    refine And.intro (fun c12 => ?_) (fun c12 => ?_)
    · skip
      have c12 := (fa_lt _ _).mp c12
      exfalso; omega
    · skip
      have c12 := mt (fa_lt _ _).mpr c12
      have f14 : Int32.toInt (104 - 8) = Int32.toInt (104 : Int32) - Int32.toInt (8 : Int32) := ta_sub _ _ (by omega)
      refine And.intro (fun c13 => ?_) (fun c13 => ?_)
      · skip
        have c13 := (fa_le _ _).mp c13
        refine And.intro (t_in (by omega)) ?_
        intro v15 ev15
        have hv15 := congrArg Int32.toInt ev15
        intro v17 ev17
        have f18 : Int32.toInt (v10 + 1) = Int32.toInt v10 + Int32.toInt (1 : Int32) := ta_add _ _ (by omega)
        rw [← ev17] at f18
        refine And.intro (t_in (by omega)) ?_
        intro v19 ev19
        have hv19 := congrArg Int32.toInt ev19
        intro v21 ev21
        have f22 : Int32.toInt (v10 + 2) = Int32.toInt v10 + Int32.toInt (2 : Int32) := ta_add _ _ (by omega)
        rw [← ev21] at f22
        refine And.intro (t_in (by omega)) ?_
        intro v23 ev23
        have hv23 := congrArg Int32.toInt ev23
        intro v25 ev25
        have f26 : Int32.toInt (v10 + 3) = Int32.toInt v10 + Int32.toInt (3 : Int32) := ta_add _ _ (by omega)
        rw [← ev25] at f26
        refine And.intro (t_in (by omega)) ?_
        intro v27 ev27
        have hv27 := congrArg Int32.toInt ev27
        intro v29 ev29
        have f30 : Int32.toInt (v10 + 4) = Int32.toInt v10 + Int32.toInt (4 : Int32) := ta_add _ _ (by omega)
        rw [← ev29] at f30
        refine And.intro (t_in (by omega)) ?_
        have q31 := e0_pa_cells v29.toNatClampNeg (by have e9 : v29.toNatClampNeg = (Int32.toInt v29).toNat := rfl; omega)
        intro v32 ev32
        have hv32 := congrArg Int32.toInt ev32
        intro v34 ev34
        have f35 : Int32.toInt (v10 + 5) = Int32.toInt v10 + Int32.toInt (5 : Int32) := ta_add _ _ (by omega)
        rw [← ev34] at f35
        refine And.intro (t_in (by omega)) ?_
        intro v36 ev36
        have hv36 := congrArg Int32.toInt ev36
        intro v38 ev38
        have f39 : Int32.toInt (v10 + 6) = Int32.toInt v10 + Int32.toInt (6 : Int32) := ta_add _ _ (by omega)
        rw [← ev38] at f39
        refine And.intro (t_in (by omega)) ?_
        have q40 := e1_pa_cells v38.toNatClampNeg (by have e9 : v38.toNatClampNeg = (Int32.toInt v38).toNat := rfl; omega)
        intro v41 ev41
        have hv41 := congrArg Int32.toInt ev41
        intro v43 ev43
        have f44 : Int32.toInt (v10 + 7) = Int32.toInt v10 + Int32.toInt (7 : Int32) := ta_add _ _ (by omega)
        rw [← ev43] at f44
        refine And.intro (t_in (by omega)) ?_
        intro v45 ev45
        have hv45 := congrArg Int32.toInt ev45
        exact hpost _ _ _ _ _ _ _ _ _ _ _ (by omega) (by omega) (by omega) (by omega) (by omega)
      · skip
        have c13 := mt (fa_le _ _).mpr c13
        exfalso; omega
  · skip
    have c1 := (fa_eq _ _).mp c1
    exact hpost _ _ _ _ _ _ _ _ _ _ _ (by omega) h_no_ladder h_no_today (by omega) h_pa_free
set_option maxHeartbeats 8000000 in
set_option maxRecDepth 200000 in
theorem t_X9_reached {post : Int32 → Int32 → (Nat → Int32) → Prop} {p0 bZ bD : Int32} {wD gF nJ nY dQ : Nat → Int32} {qF : Int32} {jJ : Nat → Int32} (h_tr_fruits : 0 ≤ Int32.toInt bZ ∧ Int32.toInt bZ ≤ 16) (h_tr_standings : 0 ≤ Int32.toInt bD ∧ Int32.toInt bD ≤ 8) (h_ro_size : 0 ≤ Int32.toInt qF ∧ Int32.toInt qF ≤ 16) (hpost : ∀ (r : Int32) (ro_size' : Int32) (ro_numbers' : Nat → Int32), (-1 ≤ Int32.toInt r ∧ Int32.toInt r ≤ 65535) → (0 ≤ Int32.toInt ro_size' ∧ Int32.toInt ro_size' ≤ 16) → post r ro_size' ro_numbers') : wp_X9_reached post p0 bZ bD wD gF nJ nY dQ qF jJ := by
  have l0 := li_m1
  have l1 := li_0
  have l2 := li_1
  have l3 := li_16
  have l4 := li_2
  have f2 := tp_r p0
  refine And.intro (fun c1 => ?_) (fun c1 => ?_)
  · skip
    have c1 := (fa_lt _ _).mp c1
    refine And.intro (fun h9 => absurd h9 (by decide)) (fun _ => ?_)
    exact hpost _ _ _ (by omega) h_ro_size
  · skip
    have c1 := mt (fa_lt _ _).mpr c1
    refine And.intro (fun c3 => ?_) (fun c3 => ?_)
    · skip
      have c3 := (fa_le _ _).mp c3
      refine And.intro (fun h9 => absurd h9 (by decide)) (fun _ => ?_)
      exact hpost _ _ _ (by omega) h_ro_size
    · skip
      have c3 := mt (fa_le _ _).mpr c3
      refine And.intro (fun _ => ?_) (fun h9 => absurd h9 (by decide))
      intro v4 ev4
      have hv4 := congrArg Int32.toInt ev4
      intro v6 ev6
      have hv6 := congrArg Int32.toInt ev6
      refine t_X3_within (by omega) h_tr_fruits (fun r8 h_r8 => ?_)
      intro v9 ev9
      have hv9 := congrArg Int32.toInt ev9
      intro v10 ev10
      have hv10 := congrArg Int32.toInt ev10
      refine t_X3_within (by omega) h_tr_fruits (fun r12 h_r12 => ?_)
      refine And.intro (fun h9 => absurd h9 (by decide)) (fun _ => ?_)
      refine And.intro (t_in (by omega)) ?_
      intro v13 ev13
      have f14 : Int32.toInt (0 + 1) = Int32.toInt (0 : Int32) + Int32.toInt (1 : Int32) := ta_add _ _ (by omega)
      rw [← ev13] at f14
      refine And.intro (fun c15 => ?_) (fun c15 => ?_)
      · skip
        have c15 := (fa_le _ _).mp c15
        exfalso; omega
      · skip
        have c15 := mt (fa_le _ _).mpr c15
        refine And.intro (t_in (by omega)) ?_
        intro v16 ev16
        have f17 : Int32.toInt (v13 + 1) = Int32.toInt v13 + Int32.toInt (1 : Int32) := ta_add _ _ (by omega)
        rw [← ev16] at f17
        intro v18 ev18
        have hv18 := congrArg Int32.toInt ev18
        intro v19 ev19
        have f21 := tp_r v18
        have f22 : Int32.toInt (0 * (dQ (1 : Int32).toNatClampNeg)) = Int32.toInt (dQ (1 : Int32).toNatClampNeg) * 0 := ta_cmul _ _ (by decide) (by omega)
        have f20 : Int32.toInt (v18 + (0 * (dQ (1 : Int32).toNatClampNeg))) = Int32.toInt v18 + Int32.toInt (0 * (dQ (1 : Int32).toNatClampNeg)) := ta_add _ _ (by omega)
        rw [← ev19] at f20
        refine t_X3_within (by omega) h_tr_fruits (fun r24 h_r24 => ?_)
        exact hpost _ _ _ (by omega) (by omega)
set_option maxHeartbeats 8000000 in
set_option maxRecDepth 200000 in
theorem ts_X9_from_77 {post : Int32 → Prop} {K42 : Int32 → Int32 → Int32 → Int32 → Prop} {n42 : Int} (bZ bD : Int32) (wD gF nJ nY dQ : Nat → Int32) (fY : Int32) (h_tr_fruits : 0 ≤ Int32.toInt bZ ∧ Int32.toInt bZ ≤ 16) (h_tr_standings : 0 ≤ Int32.toInt bD ∧ Int32.toInt bD ≤ 8) (hpost : ∀ (r : Int32) , (-1 ≤ Int32.toInt r ∧ Int32.toInt r ≤ 255) → post r) (hK42 : ∀ (x1 : Int32) (x3 : Int32) (x4 : Int32) (x5 : Int32), (0 ≤ Int32.toInt x1 ∧ Int32.toInt x1 ≤ 15) → (0 ≤ Int32.toInt x4 ∧ Int32.toInt x4 ≤ 255) → (0 ≤ Int32.toInt x5 ∧ Int32.toInt x5 ≤ 8) → (8 - Int32.toInt x5 < n42) → K42 x1 x3 x4 x5) (x1 x3 x4 x5 : Int32) (h_x1 : 0 ≤ Int32.toInt x1 ∧ Int32.toInt x1 ≤ 15) (h_x4 : 0 ≤ Int32.toInt x4 ∧ Int32.toInt x4 ≤ 255) (h_x5 : 0 ≤ Int32.toInt x5 ∧ Int32.toInt x5 ≤ 7) (hn42 : 8 - Int32.toInt x5 ≤ n42) : ws_X9_from_77 post K42 bZ bD wD gF nJ nY dQ fY x1 x3 x4 x5 := by
  have l0 := li_1
  intro v1 ev1
  have f2 : Int32.toInt (x5 + 1) = Int32.toInt x5 + Int32.toInt (1 : Int32) := ta_add _ _ (by omega)
  rw [← ev1] at f2
  have f3 := tp_r x3
  exact hK42 x1 x3 x4 v1 h_x1 h_x4 (by omega) (by omega)
set_option maxHeartbeats 8000000 in
set_option maxRecDepth 200000 in
theorem ts_X9_from_42 {post : Int32 → Prop} {next : Int32 → Int32 → Int32 → Int32 → Prop} {n42 : Int} (bZ bD : Int32) (wD gF nJ nY dQ : Nat → Int32) (fY : Int32) (h_tr_fruits : 0 ≤ Int32.toInt bZ ∧ Int32.toInt bZ ≤ 16) (h_tr_standings : 0 ≤ Int32.toInt bD ∧ Int32.toInt bD ≤ 8) (hpost : ∀ (r : Int32) , (-1 ≤ Int32.toInt r ∧ Int32.toInt r ≤ 255) → post r) (hKn : ∀ (x1 : Int32) (x3 : Int32) (x4 : Int32) (x5 : Int32), (0 ≤ Int32.toInt x1 ∧ Int32.toInt x1 ≤ 15) → (0 ≤ Int32.toInt x4 ∧ Int32.toInt x4 ≤ 255) → (0 ≤ Int32.toInt x5 ∧ Int32.toInt x5 ≤ 8) → (8 - Int32.toInt x5 < n42) → next x1 x3 x4 x5) (x1 x3 x4 x5 : Int32) (h_x1 : 0 ≤ Int32.toInt x1 ∧ Int32.toInt x1 ≤ 15) (h_x4 : 0 ≤ Int32.toInt x4 ∧ Int32.toInt x4 ≤ 255) (h_x5 : 0 ≤ Int32.toInt x5 ∧ Int32.toInt x5 ≤ 8) (hn42 : 8 - Int32.toInt x5 ≤ n42) : ws_X9_from_42 post next bZ bD wD gF nJ nY dQ fY x1 x3 x4 x5 := by
  have l0 := li_0
  refine And.intro (fun c4 => ?_) (fun c4 => ?_)
  · skip
    have c4 := (fa_le _ _).mp c4
    exact hpost _ (by omega)
  · skip
    have c4 := mt (fa_le _ _).mpr c4
    refine And.intro (t_in (by omega)) ?_
    intro v5 ev5
    have hv5 := congrArg Int32.toInt ev5
    refine And.intro (t_in (by omega)) ?_
    have f8 := tp_r v5
    refine And.intro (fun c7 => ?_) (fun c7 => ?_)
    · skip
      have c7 := (fa_le _ _).mp c7
      refine And.intro (t_in (by omega)) ?_
      intro v10 ev10
      have hv10 := congrArg Int32.toInt ev10
      refine And.intro (t_in (by omega)) ?_
      refine And.intro (t_in (by omega)) ?_
      intro v11 ev11
      have hv11 := congrArg Int32.toInt ev11
      refine And.intro (t_in (by omega)) ?_
      have f14 := tp_r v11
      refine And.intro (fun c13 => ?_) (fun c13 => ?_)
      · skip
        have c13 := (fa_le _ _).mp c13
        intro v16 ev16
        have hv16 := congrArg Int32.toInt ev16
        intro v18 ev18
        have f20 := tp_r v16
        have f21 : Int32.toInt (0 * 0) = Int32.toInt (0 : Int32) * 0 := ta_mulc _ _ (by decide) (by omega)
        have f19 : Int32.toInt (v16 + (0 * 0)) = Int32.toInt v16 + Int32.toInt (0 * 0) := ta_add _ _ (by omega)
        rw [← ev18] at f19
        have f23 := tp_r v18
        refine And.intro (fun c22 => ?_) (fun c22 => ?_)
        · skip
          have c22 := (fa_lt _ _).mp c22
          refine And.intro (fun _ => ?_) (fun h9 => absurd h9 (by decide))
          have f25 := tp_r x3
          exact ts_X9_from_77 bZ bD wD gF nJ nY dQ fY h_tr_fruits h_tr_standings hpost hKn x1 x3 x4 x5 h_x1 h_x4 (by omega) hn42
        · skip
          have c22 := mt (fa_lt _ _).mpr c22
          refine And.intro (fun h9 => absurd h9 (by decide)) (fun _ => ?_)
          intro v26 ev26
          have f28 := ti_shl1 7 128 x5 (by decide) (by omega)
          have f27 := ti_or 8 256 x4 (1 <<< (x5 &&& 31)) (by decide) (by omega) (by omega)
          have hv26 := congrArg Int32.toInt ev26
          have f29 := tp_r x3
          exact ts_X9_from_77 bZ bD wD gF nJ nY dQ fY h_tr_fruits h_tr_standings hpost hKn x1 x3 v26 x5 h_x1 (by omega) (by omega) hn42
      · skip
        have c13 := mt (fa_le _ _).mpr c13
        refine And.intro (t_in (by omega)) ?_
        intro v30 ev30
        have hv30 := congrArg Int32.toInt ev30
        refine And.intro (t_in (by omega)) ?_
        intro v31 ev31
        have hv31 := congrArg Int32.toInt ev31
        intro v33 ev33
        have hv33 := congrArg Int32.toInt ev33
        intro v35 ev35
        have hv35 := congrArg Int32.toInt ev35
        have f38 := tp_r v35
        refine And.intro (fun c37 => ?_) (fun c37 => ?_)
        · skip
          have c37 := (fa_lt _ _).mp c37
          refine And.intro (fun _ => ?_) (fun h9 => absurd h9 (by decide))
          have f40 := tp_r x3
          exact ts_X9_from_77 bZ bD wD gF nJ nY dQ fY h_tr_fruits h_tr_standings hpost hKn x1 x3 x4 x5 h_x1 h_x4 (by omega) hn42
        · skip
          have c37 := mt (fa_lt _ _).mpr c37
          refine And.intro (fun h9 => absurd h9 (by decide)) (fun _ => ?_)
          intro v41 ev41
          have f43 := ti_shl1 7 128 x5 (by decide) (by omega)
          have f42 := ti_or 8 256 x4 (1 <<< (x5 &&& 31)) (by decide) (by omega) (by omega)
          have hv41 := congrArg Int32.toInt ev41
          have f44 := tp_r x3
          exact ts_X9_from_77 bZ bD wD gF nJ nY dQ fY h_tr_fruits h_tr_standings hpost hKn x1 x3 v41 x5 h_x1 (by omega) (by omega) hn42
    · skip
      have c7 := mt (fa_le _ _).mpr c7
      refine And.intro (t_in (by omega)) ?_
      intro v45 ev45
      have hv45 := congrArg Int32.toInt ev45
      refine And.intro (t_in (by omega)) ?_
      intro v46 ev46
      have hv46 := congrArg Int32.toInt ev46
      refine And.intro (t_in (by omega)) ?_
      intro v48 ev48
      have hv48 := congrArg Int32.toInt ev48
      refine And.intro (t_in (by omega)) ?_
      have f51 := tp_r v48
      refine And.intro (fun c50 => ?_) (fun c50 => ?_)
      · skip
        have c50 := (fa_le _ _).mp c50
        intro v53 ev53
        have hv53 := congrArg Int32.toInt ev53
        intro v55 ev55
        have f57 := tp_r v53
        have f58 : Int32.toInt (0 * 0) = Int32.toInt (0 : Int32) * 0 := ta_mulc _ _ (by decide) (by omega)
        have f56 : Int32.toInt (v53 + (0 * 0)) = Int32.toInt v53 + Int32.toInt (0 * 0) := ta_add _ _ (by omega)
        rw [← ev55] at f56
        have f60 := tp_r v55
        refine And.intro (fun c59 => ?_) (fun c59 => ?_)
        · skip
          have c59 := (fa_lt _ _).mp c59
          refine And.intro (fun _ => ?_) (fun h9 => absurd h9 (by decide))
          have f62 := tp_r x3
          exact ts_X9_from_77 bZ bD wD gF nJ nY dQ fY h_tr_fruits h_tr_standings hpost hKn x1 x3 x4 x5 h_x1 h_x4 (by omega) hn42
        · skip
          have c59 := mt (fa_lt _ _).mpr c59
          refine And.intro (fun h9 => absurd h9 (by decide)) (fun _ => ?_)
          intro v63 ev63
          have f65 := ti_shl1 7 128 x5 (by decide) (by omega)
          have f64 := ti_or 8 256 x4 (1 <<< (x5 &&& 31)) (by decide) (by omega) (by omega)
          have hv63 := congrArg Int32.toInt ev63
          have f66 := tp_r x3
          exact ts_X9_from_77 bZ bD wD gF nJ nY dQ fY h_tr_fruits h_tr_standings hpost hKn x1 x3 v63 x5 h_x1 (by omega) (by omega) hn42
      · skip
        have c50 := mt (fa_le _ _).mpr c50
        refine And.intro (t_in (by omega)) ?_
        intro v67 ev67
        have hv67 := congrArg Int32.toInt ev67
        refine And.intro (t_in (by omega)) ?_
        intro v68 ev68
        have hv68 := congrArg Int32.toInt ev68
        intro v70 ev70
        have hv70 := congrArg Int32.toInt ev70
        intro v72 ev72
        have hv72 := congrArg Int32.toInt ev72
        have f75 := tp_r v72
        refine And.intro (fun c74 => ?_) (fun c74 => ?_)
        · skip
          have c74 := (fa_lt _ _).mp c74
          refine And.intro (fun _ => ?_) (fun h9 => absurd h9 (by decide))
          have f77 := tp_r x3
          exact ts_X9_from_77 bZ bD wD gF nJ nY dQ fY h_tr_fruits h_tr_standings hpost hKn x1 x3 x4 x5 h_x1 h_x4 (by omega) hn42
        · skip
          have c74 := mt (fa_lt _ _).mpr c74
          refine And.intro (fun h9 => absurd h9 (by decide)) (fun _ => ?_)
          intro v78 ev78
          have f80 := ti_shl1 7 128 x5 (by decide) (by omega)
          have f79 := ti_or 8 256 x4 (1 <<< (x5 &&& 31)) (by decide) (by omega) (by omega)
          have hv78 := congrArg Int32.toInt ev78
          have f81 := tp_r x3
          exact ts_X9_from_77 bZ bD wD gF nJ nY dQ fY h_tr_fruits h_tr_standings hpost hKn x1 x3 v78 x5 h_x1 (by omega) (by omega) hn42
set_option maxHeartbeats 8000000 in
set_option maxRecDepth 200000 in
theorem tb_X9_from_42 {post : Int32 → Prop} (bZ bD : Int32) (wD gF nJ nY dQ : Nat → Int32) (fY : Int32) (h_tr_fruits : 0 ≤ Int32.toInt bZ ∧ Int32.toInt bZ ≤ 16) (h_tr_standings : 0 ≤ Int32.toInt bD ∧ Int32.toInt bD ≤ 8) (hpost : ∀ (r : Int32) , (-1 ≤ Int32.toInt r ∧ Int32.toInt r ≤ 255) → post r) : ∀ (n : Nat) (x1 x3 x4 x5 : Int32), (0 ≤ Int32.toInt x1 ∧ Int32.toInt x1 ≤ 15) → (0 ≤ Int32.toInt x4 ∧ Int32.toInt x4 ≤ 255) → (0 ≤ Int32.toInt x5 ∧ Int32.toInt x5 ≤ 8) → (8 - Int32.toInt x5 < (n : Int)) → wb_X9_from_42 post bZ bD wD gF nJ nY dQ fY n x1 x3 x4 x5 := by
  intro n
  induction n with
  | zero =>
    intro x1 x3 x4 x5 h_x1 h_x4 h_x5 hm
    exfalso; omega
  | succ n ih =>
    intro x1 x3 x4 x5 h_x1 h_x4 h_x5 hm
    exact ts_X9_from_42 bZ bD wD gF nJ nY dQ fY h_tr_fruits h_tr_standings hpost ih x1 x3 x4 x5 h_x1 h_x4 h_x5 (by omega)
set_option maxHeartbeats 8000000 in
set_option maxRecDepth 200000 in
theorem t_X9_from {post : Int32 → Prop} {p0 p1 bZ bD : Int32} {wD gF nJ nY dQ : Nat → Int32} {fY : Int32} (h_tr_fruits : 0 ≤ Int32.toInt bZ ∧ Int32.toInt bZ ≤ 16) (h_tr_standings : 0 ≤ Int32.toInt bD ∧ Int32.toInt bD ≤ 8) (hpost : ∀ (r : Int32) , (-1 ≤ Int32.toInt r ∧ Int32.toInt r ≤ 255) → post r) : wp_X9_from post p0 p1 bZ bD wD gF nJ nY dQ fY := by
  have l0 := li_m1
  have l1 := li_0
  have l2 := li_1
  have l3 := li_2
  have f83 := tp_r p0
  refine And.intro (fun c82 => ?_) (fun c82 => ?_)
  · skip
    have c82 := (fa_lt _ _).mp c82
    refine And.intro (fun _ => ?_) (fun h9 => absurd h9 (by decide))
    exact hpost _ (by omega)
  · skip
    have c82 := mt (fa_lt _ _).mpr c82
    refine And.intro (fun c84 => ?_) (fun c84 => ?_)
    · skip
      have c84 := (fa_le _ _).mp c84
      refine And.intro (fun _ => ?_) (fun h9 => absurd h9 (by decide))
      exact hpost _ (by omega)
    · skip
      have c84 := mt (fa_le _ _).mpr c84
      refine And.intro (fun h9 => absurd h9 (by decide)) (fun _ => ?_)
      refine t_X9_isYesOrNo  (fun r85 h_r85 => ?_)
      refine And.intro (fun c86 => ?_) (fun c86 => ?_)
      · skip
        have c86 := mt (fa_eq _ _).mpr c86
        intro v87 ev87
        have hv87 := congrArg Int32.toInt ev87
        intro v89 ev89
        have hv89 := congrArg Int32.toInt ev89
        exact ⟨10, tb_X9_from_42 bZ bD wD gF nJ nY dQ fY h_tr_fruits h_tr_standings hpost _ p0 (v89 + (p1 * (dQ (2 : Int32).toNatClampNeg))) 0 0 (by omega) (by omega) (by omega) (by omega)⟩
      · skip
        have c86 := (fa_eq _ _).mp c86
        exact hpost _ (by omega)
set_option maxHeartbeats 8000000 in
set_option maxRecDepth 200000 in
theorem ts_X9_never_10 {post : Int32 → Int32 → (Nat → Int32) → Prop} {next : Int32 → Int32 → Int32 → (Nat → Int32) → Prop} {n10 : Int} (bZ bD : Int32) (wD gF pE nJ nY dQ : Nat → Int32) (jC eO eW dO : Int32) (h_tr_fruits : 0 ≤ Int32.toInt bZ ∧ Int32.toInt bZ ≤ 16) (h_tr_standings : 0 ≤ Int32.toInt bD ∧ Int32.toInt bD ≤ 8) (hpost : ∀ (r : Int32) (ro_size' : Int32) (ro_numbers' : Nat → Int32), (0 ≤ Int32.toInt r ∧ Int32.toInt r ≤ 65535) → (1 ≤ Int32.toInt ro_size' ∧ Int32.toInt ro_size' ≤ 1) → post r ro_size' ro_numbers') (hKn : ∀ (x1 : Int32) (x2 : Int32) (qF : Int32) (jJ : Nat → Int32), (0 ≤ Int32.toInt x1 ∧ Int32.toInt x1 ≤ 65535) → (0 ≤ Int32.toInt x2 ∧ Int32.toInt x2 ≤ 8) → (0 ≤ Int32.toInt qF ∧ Int32.toInt qF ≤ 16) → (8 - Int32.toInt x2 < n10) → next x1 x2 qF jJ) (x1 x2 qF : Int32) (jJ : Nat → Int32) (h_x1 : 0 ≤ Int32.toInt x1 ∧ Int32.toInt x1 ≤ 65535) (h_x2 : 0 ≤ Int32.toInt x2 ∧ Int32.toInt x2 ≤ 8) (h_ro_size : 0 ≤ Int32.toInt qF ∧ Int32.toInt qF ≤ 16) (hn10 : 8 - Int32.toInt x2 ≤ n10) : ws_X9_never_10 post next bZ bD wD gF pE nJ nY dQ jC eO eW dO x1 x2 qF jJ := by
  have l0 := li_0
  have l1 := li_1
  have l2 := li_2
  refine And.intro (fun c1 => ?_) (fun c1 => ?_)
  · skip
    have c1 := (fa_le _ _).mp c1
    refine t_X3_worthOf h_tr_fruits (fun r2 => ?_)
    refine And.intro (fun h9 => absurd h9 (by decide)) (fun _ => ?_)
    refine And.intro (t_in (by omega)) ?_
    intro v3 ev3
    have f4 : Int32.toInt (0 + 1) = Int32.toInt (0 : Int32) + Int32.toInt (1 : Int32) := ta_add _ _ (by omega)
    rw [← ev3] at f4
    exact hpost _ _ _ h_x1 (by omega)
  · skip
    have c1 := mt (fa_le _ _).mpr c1
    intro v5 ev5
    have hv5 := congrArg Int32.toInt ev5
    intro v7 ev7
    have hv7 := congrArg Int32.toInt ev7
    refine t_X3_within (by omega) h_tr_fruits (fun r9 h_r9 => ?_)
    intro v10 ev10
    have f12 := ti_andl x1 (r9 ^^^ (-1)) (by omega)
    have hv10 := congrArg Int32.toInt ev10
    intro v13 ev13
    have f14 : Int32.toInt (x2 + 1) = Int32.toInt x2 + Int32.toInt (1 : Int32) := ta_add _ _ (by omega)
    rw [← ev13] at f14
    exact hKn v10 v13 qF jJ (by omega) (by omega) h_ro_size (by omega)
set_option maxHeartbeats 8000000 in
set_option maxRecDepth 200000 in
theorem tb_X9_never_10 {post : Int32 → Int32 → (Nat → Int32) → Prop} (bZ bD : Int32) (wD gF pE nJ nY dQ : Nat → Int32) (jC eO eW dO : Int32) (h_tr_fruits : 0 ≤ Int32.toInt bZ ∧ Int32.toInt bZ ≤ 16) (h_tr_standings : 0 ≤ Int32.toInt bD ∧ Int32.toInt bD ≤ 8) (hpost : ∀ (r : Int32) (ro_size' : Int32) (ro_numbers' : Nat → Int32), (0 ≤ Int32.toInt r ∧ Int32.toInt r ≤ 65535) → (1 ≤ Int32.toInt ro_size' ∧ Int32.toInt ro_size' ≤ 1) → post r ro_size' ro_numbers') : ∀ (n : Nat) (x1 x2 qF : Int32) (jJ : Nat → Int32), (0 ≤ Int32.toInt x1 ∧ Int32.toInt x1 ≤ 65535) → (0 ≤ Int32.toInt x2 ∧ Int32.toInt x2 ≤ 8) → (0 ≤ Int32.toInt qF ∧ Int32.toInt qF ≤ 16) → (8 - Int32.toInt x2 < (n : Int)) → wb_X9_never_10 post bZ bD wD gF pE nJ nY dQ jC eO eW dO n x1 x2 qF jJ := by
  intro n
  induction n with
  | zero =>
    intro x1 x2 qF jJ h_x1 h_x2 h_ro_size hm
    exfalso; omega
  | succ n ih =>
    intro x1 x2 qF jJ h_x1 h_x2 h_ro_size hm
    exact ts_X9_never_10 bZ bD wD gF pE nJ nY dQ jC eO eW dO h_tr_fruits h_tr_standings hpost ih x1 x2 qF jJ h_x1 h_x2 h_ro_size (by omega)
set_option maxHeartbeats 8000000 in
set_option maxRecDepth 200000 in
theorem t_X9_never {post : Int32 → Int32 → (Nat → Int32) → Prop} {bZ bD : Int32} {wD gF pE nJ nY dQ : Nat → Int32} {jC eO eW dO qF : Int32} {jJ : Nat → Int32} (h_tr_fruits : 0 ≤ Int32.toInt bZ ∧ Int32.toInt bZ ≤ 16) (h_tr_standings : 0 ≤ Int32.toInt bD ∧ Int32.toInt bD ≤ 8) (h_ro_size : 0 ≤ Int32.toInt qF ∧ Int32.toInt qF ≤ 16) (hpost : ∀ (r : Int32) (ro_size' : Int32) (ro_numbers' : Nat → Int32), (0 ≤ Int32.toInt r ∧ Int32.toInt r ≤ 65535) → (1 ≤ Int32.toInt ro_size' ∧ Int32.toInt ro_size' ≤ 1) → post r ro_size' ro_numbers') : wp_X9_never post bZ bD wD gF pE nJ nY dQ jC eO eW dO qF jJ := by
  have l0 := li_0
  have l1 := li_1
  intro v15 ev15
  have f16 := ti_shl1 16 65536 bZ (by decide) (by omega)
  have hv15 := congrArg Int32.toInt ev15
  intro v17 ev17
  intro v18 ev18
  have f20 : Int32.toInt (v15 - 1) = Int32.toInt v15 - Int32.toInt (1 : Int32) := ta_sub _ _ (by omega)
  have f21 := ti_andl (v15 - 1) (v18 ^^^ (-1)) (by omega)
  exact ⟨10, tb_X9_never_10 bZ bD wD gF pE nJ nY dQ jC eO eW dO h_tr_fruits h_tr_standings hpost _ ((v15 - 1) &&& (v18 ^^^ (-1))) 0 qF jJ (by omega) (by omega) h_ro_size (by omega)⟩
set_option maxHeartbeats 8000000 in
set_option maxRecDepth 200000 in
theorem t_X9_seconds {post : Int32 → (Nat → Int32) → (Nat → Int32) → Prop} {p0 p1 p2 bZ bD : Int32} {wD gF pE nJ nY dQ : Nat → Int32} {dO fY pG : Int32} {qO qQ oF : Nat → Int32} (h_tr_fruits : 0 ≤ Int32.toInt bZ ∧ Int32.toInt bZ ≤ 16) (h_tr_standings : 0 ≤ Int32.toInt bD ∧ Int32.toInt bD ≤ 8) (h_ru_length : 0 ≤ Int32.toInt pG ∧ Int32.toInt pG ≤ 40) (hpost : ∀ (r : Int32) (ru_given' : Nat → Int32) (ru_stack' : Nat → Int32), (-2 ≤ Int32.toInt r ∧ Int32.toInt r ≤ 99) → post r ru_given' ru_stack') : wp_X9_seconds post p0 p1 p2 bZ bD wD gF pE nJ nY dQ dO fY pG qO qQ oF := by
  have l0 := li_m1
  have l1 := li_m2
  have l2 := li_0
  have l3 := li_1
  have l4 := li_2
  have f2 := tp_r p0
  refine And.intro (fun c1 => ?_) (fun c1 => ?_)
  · skip
    have c1 := (fa_lt _ _).mp c1
    refine And.intro (fun _ => ?_) (fun h9 => absurd h9 (by decide))
    exact hpost _ _ _ (by omega)
  · skip
    have c1 := mt (fa_lt _ _).mpr c1
    refine And.intro (fun c3 => ?_) (fun c3 => ?_)
    · skip
      have c3 := (fa_le _ _).mp c3
      refine And.intro (fun _ => ?_) (fun h9 => absurd h9 (by decide))
      exact hpost _ _ _ (by omega)
    · skip
      have c3 := mt (fa_le _ _).mpr c3
      refine And.intro (fun h9 => absurd h9 (by decide)) (fun _ => ?_)
      have f5 := tp_r p1
      refine And.intro (fun c4 => ?_) (fun c4 => ?_)
      · skip
        have c4 := (fa_lt _ _).mp c4
        refine And.intro (fun _ => ?_) (fun h9 => absurd h9 (by decide))
        exact hpost _ _ _ (by omega)
      · skip
        have c4 := mt (fa_lt _ _).mpr c4
        refine And.intro (fun c6 => ?_) (fun c6 => ?_)
        · skip
          have c6 := (fa_le _ _).mp c6
          refine And.intro (fun _ => ?_) (fun h9 => absurd h9 (by decide))
          exact hpost _ _ _ (by omega)
        · skip
          have c6 := mt (fa_le _ _).mpr c6
          refine And.intro (fun h9 => absurd h9 (by decide)) (fun _ => ?_)
          refine t_X9_isYesOrNo  (fun r7 h_r7 => ?_)
          refine And.intro (fun c8 => ?_) (fun c8 => ?_)
          · skip
            have c8 := mt (fa_eq _ _).mpr c8
            intro v9 ev9
            have hv9 := congrArg Int32.toInt ev9
            intro v11 ev11
            have hv11 := congrArg Int32.toInt ev11
            refine And.intro (t_in (by omega)) ?_
            intro v13 ev13
            have hv13 := congrArg Int32.toInt ev13
            refine And.intro (t_in (by omega)) ?_
            have f16 := tp_r v13
            refine And.intro (fun c15 => ?_) (fun c15 => ?_)
            · skip
              have c15 := (fa_le _ _).mp c15
              refine And.intro (t_in (by omega)) ?_
              intro v18 ev18
              have hv18 := congrArg Int32.toInt ev18
              refine And.intro (t_in (by omega)) ?_
              refine And.intro (t_in (by omega)) ?_
              intro v19 ev19
              have hv19 := congrArg Int32.toInt ev19
              refine And.intro (t_in (by omega)) ?_
              have f22 := tp_r v19
              refine And.intro (fun c21 => ?_) (fun c21 => ?_)
              · skip
                have c21 := (fa_le _ _).mp c21
                intro v24 ev24
                have hv24 := congrArg Int32.toInt ev24
                intro v26 ev26
                have f28 := tp_r v24
                have f29 : Int32.toInt (0 * 0) = Int32.toInt (0 : Int32) * 0 := ta_mulc _ _ (by decide) (by omega)
                have f27 : Int32.toInt (v24 + (0 * 0)) = Int32.toInt v24 + Int32.toInt (0 * 0) := ta_add _ _ (by omega)
                rw [← ev26] at f27
                have f31 := tp_r v26
                refine And.intro (fun c30 => ?_) (fun c30 => ?_)
                · skip
                  have c30 := (fa_lt _ _).mp c30
                  refine And.intro (fun h9 => absurd h9 (by decide)) (fun _ => ?_)
                  exact hpost _ _ _ (by omega)
                · skip
                  have c30 := mt (fa_lt _ _).mpr c30
                  refine And.intro (fun _ => ?_) (fun h9 => absurd h9 (by decide))
                  refine t_X0_pickSeconds (by omega) (by omega) (by omega) h_tr_fruits h_ru_length (fun r35 ru_given_33 ru_stack_34 h_r35 => ?_)
                  exact hpost _ _ _ (by omega)
              · skip
                have c21 := mt (fa_le _ _).mpr c21
                refine And.intro (t_in (by omega)) ?_
                intro v36 ev36
                have hv36 := congrArg Int32.toInt ev36
                refine And.intro (t_in (by omega)) ?_
                intro v37 ev37
                have hv37 := congrArg Int32.toInt ev37
                intro v39 ev39
                have hv39 := congrArg Int32.toInt ev39
                intro v41 ev41
                have hv41 := congrArg Int32.toInt ev41
                have f44 := tp_r v41
                refine And.intro (fun c43 => ?_) (fun c43 => ?_)
                · skip
                  have c43 := (fa_lt _ _).mp c43
                  refine And.intro (fun h9 => absurd h9 (by decide)) (fun _ => ?_)
                  exact hpost _ _ _ (by omega)
                · skip
                  have c43 := mt (fa_lt _ _).mpr c43
                  refine And.intro (fun _ => ?_) (fun h9 => absurd h9 (by decide))
                  refine t_X0_pickSeconds (by omega) (by omega) (by omega) h_tr_fruits h_ru_length (fun r48 ru_given_46 ru_stack_47 h_r48 => ?_)
                  exact hpost _ _ _ (by omega)
            · skip
              have c15 := mt (fa_le _ _).mpr c15
              refine And.intro (t_in (by omega)) ?_
              intro v49 ev49
              have hv49 := congrArg Int32.toInt ev49
              refine And.intro (t_in (by omega)) ?_
              intro v50 ev50
              have hv50 := congrArg Int32.toInt ev50
              refine And.intro (t_in (by omega)) ?_
              intro v52 ev52
              have hv52 := congrArg Int32.toInt ev52
              refine And.intro (t_in (by omega)) ?_
              have f55 := tp_r v52
              refine And.intro (fun c54 => ?_) (fun c54 => ?_)
              · skip
                have c54 := (fa_le _ _).mp c54
                intro v57 ev57
                have hv57 := congrArg Int32.toInt ev57
                intro v59 ev59
                have f61 := tp_r v57
                have f62 : Int32.toInt (0 * 0) = Int32.toInt (0 : Int32) * 0 := ta_mulc _ _ (by decide) (by omega)
                have f60 : Int32.toInt (v57 + (0 * 0)) = Int32.toInt v57 + Int32.toInt (0 * 0) := ta_add _ _ (by omega)
                rw [← ev59] at f60
                have f64 := tp_r v59
                refine And.intro (fun c63 => ?_) (fun c63 => ?_)
                · skip
                  have c63 := (fa_lt _ _).mp c63
                  refine And.intro (fun h9 => absurd h9 (by decide)) (fun _ => ?_)
                  exact hpost _ _ _ (by omega)
                · skip
                  have c63 := mt (fa_lt _ _).mpr c63
                  refine And.intro (fun _ => ?_) (fun h9 => absurd h9 (by decide))
                  refine t_X0_pickSeconds (by omega) (by omega) (by omega) h_tr_fruits h_ru_length (fun r68 ru_given_66 ru_stack_67 h_r68 => ?_)
                  exact hpost _ _ _ (by omega)
              · skip
                have c54 := mt (fa_le _ _).mpr c54
                refine And.intro (t_in (by omega)) ?_
                intro v69 ev69
                have hv69 := congrArg Int32.toInt ev69
                refine And.intro (t_in (by omega)) ?_
                intro v70 ev70
                have hv70 := congrArg Int32.toInt ev70
                intro v72 ev72
                have hv72 := congrArg Int32.toInt ev72
                intro v74 ev74
                have hv74 := congrArg Int32.toInt ev74
                have f77 := tp_r v74
                refine And.intro (fun c76 => ?_) (fun c76 => ?_)
                · skip
                  have c76 := (fa_lt _ _).mp c76
                  refine And.intro (fun h9 => absurd h9 (by decide)) (fun _ => ?_)
                  exact hpost _ _ _ (by omega)
                · skip
                  have c76 := mt (fa_lt _ _).mpr c76
                  refine And.intro (fun _ => ?_) (fun h9 => absurd h9 (by decide))
                  refine t_X0_pickSeconds (by omega) (by omega) (by omega) h_tr_fruits h_ru_length (fun r81 ru_given_79 ru_stack_80 h_r81 => ?_)
                  exact hpost _ _ _ (by omega)
          · skip
            have c8 := (fa_eq _ _).mp c8
            exact hpost _ _ _ (by omega)
set_option maxHeartbeats 8000000 in
set_option maxRecDepth 200000 in
theorem ts_X5_reachedBy_32 {post : Int32 → Prop} {K4 : Int32 → Int32 → Int32 → Prop} {n4 : Int} (rX : Nat → Int32) (bD : Int32) (h_pl_near : ∀ k : Nat, 0 ≤ Int32.toInt (rX k) ∧ Int32.toInt (rX k) ≤ 65535) (h_tr_standings : 0 ≤ Int32.toInt bD ∧ Int32.toInt bD ≤ 8) (hpost : ∀ (r : Int32) , (0 ≤ Int32.toInt r ∧ Int32.toInt r ≤ 65535) → post r) (hK4 : ∀ (x1 : Int32) (x2 : Int32) (x3 : Int32), (0 ≤ Int32.toInt x1 ∧ Int32.toInt x1 ≤ 255) → (0 ≤ Int32.toInt x2 ∧ Int32.toInt x2 ≤ 65535) → (0 ≤ Int32.toInt x3 ∧ Int32.toInt x3 ≤ 8) → (8 - Int32.toInt x3 < n4) → K4 x1 x2 x3) (x1 x2 x3 : Int32) (h_x1 : 0 ≤ Int32.toInt x1 ∧ Int32.toInt x1 ≤ 255) (h_x2 : 0 ≤ Int32.toInt x2 ∧ Int32.toInt x2 ≤ 65535) (h_x3 : 0 ≤ Int32.toInt x3 ∧ Int32.toInt x3 ≤ 7) (hn4 : 8 - Int32.toInt x3 ≤ n4) : ws_X5_reachedBy_32 post K4 rX bD x1 x2 x3 := by
  have l0 := li_1
  intro v1 ev1
  have f2 : Int32.toInt (x3 + 1) = Int32.toInt x3 + Int32.toInt (1 : Int32) := ta_add _ _ (by omega)
  rw [← ev1] at f2
  exact hK4 x1 x2 v1 h_x1 h_x2 (by omega) (by omega)
set_option maxHeartbeats 8000000 in
set_option maxRecDepth 200000 in
theorem ts_X5_reachedBy_4 {post : Int32 → Prop} {next : Int32 → Int32 → Int32 → Prop} {n4 : Int} (rX : Nat → Int32) (bD : Int32) (h_pl_near : ∀ k : Nat, 0 ≤ Int32.toInt (rX k) ∧ Int32.toInt (rX k) ≤ 65535) (h_tr_standings : 0 ≤ Int32.toInt bD ∧ Int32.toInt bD ≤ 8) (hpost : ∀ (r : Int32) , (0 ≤ Int32.toInt r ∧ Int32.toInt r ≤ 65535) → post r) (hKn : ∀ (x1 : Int32) (x2 : Int32) (x3 : Int32), (0 ≤ Int32.toInt x1 ∧ Int32.toInt x1 ≤ 255) → (0 ≤ Int32.toInt x2 ∧ Int32.toInt x2 ≤ 65535) → (0 ≤ Int32.toInt x3 ∧ Int32.toInt x3 ≤ 8) → (8 - Int32.toInt x3 < n4) → next x1 x2 x3) (x1 x2 x3 : Int32) (h_x1 : 0 ≤ Int32.toInt x1 ∧ Int32.toInt x1 ≤ 255) (h_x2 : 0 ≤ Int32.toInt x2 ∧ Int32.toInt x2 ≤ 65535) (h_x3 : 0 ≤ Int32.toInt x3 ∧ Int32.toInt x3 ≤ 8) (hn4 : 8 - Int32.toInt x3 ≤ n4) : ws_X5_reachedBy_4 post next rX bD x1 x2 x3 := by
  have l0 := li_0
  have l1 := li_1
  refine And.intro (fun c3 => ?_) (fun c3 => ?_)
  · skip
    have c3 := (fa_le _ _).mp c3
    exact hpost _ h_x2
  · skip
    have c3 := mt (fa_le _ _).mpr c3
    intro v4 ev4
    have f5 := ti_shr x1 x3 (by omega)
    have hv4 := congrArg Int32.toInt ev4
    have f7 := ti_andr v4 1 (by omega)
    have f8 := ti_andl v4 1 (by omega)
    refine And.intro (fun c6 => ?_) (fun c6 => ?_)
    · skip
      have c6 := (fa_eq _ _).mp c6
      exact ts_X5_reachedBy_32 rX bD h_pl_near h_tr_standings hpost hKn x1 x2 x3 h_x1 h_x2 (by omega) hn4
    · skip
      have c6 := mt (fa_eq _ _).mpr c6
      refine And.intro (t_in (by omega)) ?_
      intro v9 ev9
      have f11 := h_pl_near x3.toNatClampNeg
      have f10 := ti_or 16 65536 x2 (rX x3.toNatClampNeg) (by decide) (by omega) (by omega)
      have hv9 := congrArg Int32.toInt ev9
      exact ts_X5_reachedBy_32 rX bD h_pl_near h_tr_standings hpost hKn x1 v9 x3 h_x1 (by omega) (by omega) hn4
set_option maxHeartbeats 8000000 in
set_option maxRecDepth 200000 in
theorem tb_X5_reachedBy_4 {post : Int32 → Prop} (rX : Nat → Int32) (bD : Int32) (h_pl_near : ∀ k : Nat, 0 ≤ Int32.toInt (rX k) ∧ Int32.toInt (rX k) ≤ 65535) (h_tr_standings : 0 ≤ Int32.toInt bD ∧ Int32.toInt bD ≤ 8) (hpost : ∀ (r : Int32) , (0 ≤ Int32.toInt r ∧ Int32.toInt r ≤ 65535) → post r) : ∀ (n : Nat) (x1 x2 x3 : Int32), (0 ≤ Int32.toInt x1 ∧ Int32.toInt x1 ≤ 255) → (0 ≤ Int32.toInt x2 ∧ Int32.toInt x2 ≤ 65535) → (0 ≤ Int32.toInt x3 ∧ Int32.toInt x3 ≤ 8) → (8 - Int32.toInt x3 < (n : Int)) → wb_X5_reachedBy_4 post rX bD n x1 x2 x3 := by
  intro n
  induction n with
  | zero =>
    intro x1 x2 x3 h_x1 h_x2 h_x3 hm
    exfalso; omega
  | succ n ih =>
    intro x1 x2 x3 h_x1 h_x2 h_x3 hm
    exact ts_X5_reachedBy_4 rX bD h_pl_near h_tr_standings hpost ih x1 x2 x3 h_x1 h_x2 h_x3 (by omega)
set_option maxHeartbeats 8000000 in
set_option maxRecDepth 200000 in
theorem t_X5_reachedBy {post : Int32 → Prop} {p0 : Int32} {rX : Nat → Int32} {bD : Int32} (h_p0 : 0 ≤ Int32.toInt p0 ∧ Int32.toInt p0 ≤ 255) (h_pl_near : ∀ k : Nat, 0 ≤ Int32.toInt (rX k) ∧ Int32.toInt (rX k) ≤ 65535) (h_tr_standings : 0 ≤ Int32.toInt bD ∧ Int32.toInt bD ≤ 8) (hpost : ∀ (r : Int32) , (0 ≤ Int32.toInt r ∧ Int32.toInt r ≤ 65535) → post r) : wp_X5_reachedBy post p0 rX bD := by
  have l0 := li_0
  exact ⟨10, tb_X5_reachedBy_4 rX bD h_pl_near h_tr_standings hpost _ p0 0 0 h_p0 (by omega) (by omega) (by omega)⟩
set_option maxHeartbeats 8000000 in
set_option maxRecDepth 200000 in
theorem ts_X5_lookAs_13 {post : Int32 → (Nat → Int32) → Prop} {next : Int32 → Int32 → Int32 → Int32 → (Nat → Int32) → Prop} {n13 : Int} (bZ bD : Int32) (wD gF qA nJ nY dQ : Nat → Int32) (jC eO eW : Int32) (h_tr_fruits : 0 ≤ Int32.toInt bZ ∧ Int32.toInt bZ ≤ 16) (h_tr_standings : 0 ≤ Int32.toInt bD ∧ Int32.toInt bD ≤ 8) (hpost : ∀ (pl_wanted' : Int32) (pl_near' : Nat → Int32), (0 ≤ Int32.toInt pl_wanted' ∧ Int32.toInt pl_wanted' ≤ 65535) → (∀ k : Nat, 0 ≤ Int32.toInt (pl_near' k) ∧ Int32.toInt (pl_near' k) ≤ 65535) → post pl_wanted' pl_near') (hKn : ∀ (x2 : Int32) (x3 : Int32) (x4 : Int32) (oX : Int32) (rX : Nat → Int32), (0 ≤ Int32.toInt x2 ∧ Int32.toInt x2 ≤ 9) → (0 ≤ Int32.toInt x4 ∧ Int32.toInt x4 ≤ 8) → (0 ≤ Int32.toInt oX ∧ Int32.toInt oX ≤ 65535) → (∀ k : Nat, 0 ≤ Int32.toInt (rX k) ∧ Int32.toInt (rX k) ≤ 65535) → (8 - Int32.toInt x4 < n13) → next x2 x3 x4 oX rX) (x2 x3 x4 oX : Int32) (rX : Nat → Int32) (h_x2 : 0 ≤ Int32.toInt x2 ∧ Int32.toInt x2 ≤ 9) (h_x4 : 0 ≤ Int32.toInt x4 ∧ Int32.toInt x4 ≤ 8) (h_pl_wanted : 0 ≤ Int32.toInt oX ∧ Int32.toInt oX ≤ 65535) (h_pl_near : ∀ k : Nat, 0 ≤ Int32.toInt (rX k) ∧ Int32.toInt (rX k) ≤ 65535) (hn13 : 8 - Int32.toInt x4 ≤ n13) : ws_X5_lookAs_13 post next bZ bD wD gF qA nJ nY dQ jC eO eW x2 x3 x4 oX rX := by
  have l0 := li_1
  refine And.intro (fun c1 => ?_) (fun c1 => ?_)
  · skip
    have c1 := (fa_le _ _).mp c1
    intro v2 ev2
    have f3 := ti_shl1 16 65536 bZ (by decide) (by omega)
    have hv2 := congrArg Int32.toInt ev2
    intro v4 ev4
    intro v5 ev5
    refine t_X3_ripeBy h_x2 h_tr_fruits (fun r6 h_r6 => ?_)
    intro v7 ev7
    have f8 := ti_andr ((v2 - 1) &&& (v5 ^^^ (-1))) r6 (by omega)
    have f10 : Int32.toInt (v2 - 1) = Int32.toInt v2 - Int32.toInt (1 : Int32) := ta_sub _ _ (by omega)
    have f11 := ti_andl (v2 - 1) (v5 ^^^ (-1)) (by omega)
    have f12 := ti_andl ((v2 - 1) &&& (v5 ^^^ (-1))) r6 (by omega)
    have hv7 := congrArg Int32.toInt ev7
    intro v13 ev13
    have f14 := ti_shl1 8 256 bD (by decide) (by omega)
    have hv13 := congrArg Int32.toInt ev13
    have f16 : Int32.toInt (v13 - 1) = Int32.toInt v13 - Int32.toInt (1 : Int32) := ta_sub _ _ (by omega)
    refine t_X5_reachedBy (by omega) h_pl_near h_tr_standings (fun r15 h_r15 => ?_)
    intro v17 ev17
    have f18 := ti_andr v7 r15 (by omega)
    have f19 := ti_andl v7 r15 (by omega)
    have hv17 := congrArg Int32.toInt ev17
    exact hpost _ _ (by omega) h_pl_near
  · skip
    have c1 := mt (fa_le _ _).mpr c1
    refine t_X3_within (by omega) h_tr_fruits (fun r20 h_r20 => ?_)
    refine And.intro (t_in (by omega)) ?_
    have a21 : ∀ k : Nat, 0 ≤ Int32.toInt ((upd rX x4.toNatClampNeg r20) k) ∧ Int32.toInt ((upd rX x4.toNatClampNeg r20) k) ≤ 65535 := t_upd (fun k => by have q9 := h_pl_near k; omega) (by omega)
    intro v22 ev22
    have f23 : Int32.toInt (x4 + 1) = Int32.toInt x4 + Int32.toInt (1 : Int32) := ta_add _ _ (by omega)
    rw [← ev22] at f23
    have f24 := tp_r x3
    exact hKn x2 x3 v22 oX (upd rX x4.toNatClampNeg r20) h_x2 (by omega) h_pl_wanted (fun k => by have q9 := a21 k; omega) (by omega)
set_option maxHeartbeats 8000000 in
set_option maxRecDepth 200000 in
theorem tb_X5_lookAs_13 {post : Int32 → (Nat → Int32) → Prop} (bZ bD : Int32) (wD gF qA nJ nY dQ : Nat → Int32) (jC eO eW : Int32) (h_tr_fruits : 0 ≤ Int32.toInt bZ ∧ Int32.toInt bZ ≤ 16) (h_tr_standings : 0 ≤ Int32.toInt bD ∧ Int32.toInt bD ≤ 8) (hpost : ∀ (pl_wanted' : Int32) (pl_near' : Nat → Int32), (0 ≤ Int32.toInt pl_wanted' ∧ Int32.toInt pl_wanted' ≤ 65535) → (∀ k : Nat, 0 ≤ Int32.toInt (pl_near' k) ∧ Int32.toInt (pl_near' k) ≤ 65535) → post pl_wanted' pl_near') : ∀ (n : Nat) (x2 x3 x4 oX : Int32) (rX : Nat → Int32), (0 ≤ Int32.toInt x2 ∧ Int32.toInt x2 ≤ 9) → (0 ≤ Int32.toInt x4 ∧ Int32.toInt x4 ≤ 8) → (0 ≤ Int32.toInt oX ∧ Int32.toInt oX ≤ 65535) → (∀ k : Nat, 0 ≤ Int32.toInt (rX k) ∧ Int32.toInt (rX k) ≤ 65535) → (8 - Int32.toInt x4 < (n : Int)) → wb_X5_lookAs_13 post bZ bD wD gF qA nJ nY dQ jC eO eW n x2 x3 x4 oX rX := by
  intro n
  induction n with
  | zero =>
    intro x2 x3 x4 oX rX h_x2 h_x4 h_pl_wanted h_pl_near hm
    exfalso; omega
  | succ n ih =>
    intro x2 x3 x4 oX rX h_x2 h_x4 h_pl_wanted h_pl_near hm
    exact ts_X5_lookAs_13 bZ bD wD gF qA nJ nY dQ jC eO eW h_tr_fruits h_tr_standings hpost ih x2 x3 x4 oX rX h_x2 h_x4 h_pl_wanted h_pl_near (by omega)
set_option maxHeartbeats 8000000 in
set_option maxRecDepth 200000 in
theorem t_X5_lookAs {post : Int32 → (Nat → Int32) → Prop} {p0 p1 oX : Int32} {rX : Nat → Int32} {bZ bD : Int32} {wD gF qA nJ nY dQ : Nat → Int32} {jC eO eW : Int32} (h_p1 : 0 ≤ Int32.toInt p1 ∧ Int32.toInt p1 ≤ 9) (h_pl_wanted : 0 ≤ Int32.toInt oX ∧ Int32.toInt oX ≤ 65535) (h_pl_near : ∀ k : Nat, 0 ≤ Int32.toInt (rX k) ∧ Int32.toInt (rX k) ≤ 65535) (h_tr_fruits : 0 ≤ Int32.toInt bZ ∧ Int32.toInt bZ ≤ 16) (h_tr_standings : 0 ≤ Int32.toInt bD ∧ Int32.toInt bD ≤ 8) (hpost : ∀ (pl_wanted' : Int32) (pl_near' : Nat → Int32), (0 ≤ Int32.toInt pl_wanted' ∧ Int32.toInt pl_wanted' ≤ 65535) → (∀ k : Nat, 0 ≤ Int32.toInt (pl_near' k) ∧ Int32.toInt (pl_near' k) ≤ 65535) → post pl_wanted' pl_near') : wp_X5_lookAs post p0 p1 oX rX bZ bD wD gF qA nJ nY dQ jC eO eW := by
  have l0 := li_0
  have l1 := li_1
  have l2 := li_2
  intro v25 ev25
  have hv25 := congrArg Int32.toInt ev25
  intro v27 ev27
  have hv27 := congrArg Int32.toInt ev27
  have f30 := tp_r v27
  have f31 : Int32.toInt (0 * (dQ (2 : Int32).toNatClampNeg)) = Int32.toInt (dQ (2 : Int32).toNatClampNeg) * 0 := ta_cmul _ _ (by decide) (by omega)
  have f29 : Int32.toInt (v27 + (0 * (dQ (2 : Int32).toNatClampNeg))) = Int32.toInt v27 + Int32.toInt (0 * (dQ (2 : Int32).toNatClampNeg)) := ta_add _ _ (by omega)
  exact ⟨10, tb_X5_lookAs_13 bZ bD wD gF qA nJ nY dQ jC eO eW h_tr_fruits h_tr_standings hpost _ p1 (v27 + (0 * (dQ (2 : Int32).toNatClampNeg))) 0 oX rX h_p1 (by omega) h_pl_wanted h_pl_near (by omega)⟩
set_option maxHeartbeats 8000000 in
set_option maxRecDepth 200000 in
theorem t_X9_both {post : Int32 → Int32 → (Nat → Int32) → Int32 → (Nat → Int32) → Prop} {p0 p1 oX : Int32} {rX : Nat → Int32} {bZ bD : Int32} {wD gF qA nJ nY dQ : Nat → Int32} {jC eO eW fY jD qF : Int32} {jJ : Nat → Int32} (h_pl_wanted : 0 ≤ Int32.toInt oX ∧ Int32.toInt oX ≤ 65535) (h_pl_near : ∀ k : Nat, 0 ≤ Int32.toInt (rX k) ∧ Int32.toInt (rX k) ≤ 65535) (h_tr_fruits : 0 ≤ Int32.toInt bZ ∧ Int32.toInt bZ ≤ 16) (h_tr_standings : 0 ≤ Int32.toInt bD ∧ Int32.toInt bD ≤ 8) (h_no_today : 0 ≤ Int32.toInt jD ∧ Int32.toInt jD ≤ 9) (h_ro_size : 0 ≤ Int32.toInt qF ∧ Int32.toInt qF ≤ 16) (hpost : ∀ (r : Int32) (pl_wanted' : Int32) (pl_near' : Nat → Int32) (ro_size' : Int32) (ro_numbers' : Nat → Int32), (-1 ≤ Int32.toInt r ∧ Int32.toInt r ≤ 65535) → (0 ≤ Int32.toInt pl_wanted' ∧ Int32.toInt pl_wanted' ≤ 65535) → (∀ k : Nat, 0 ≤ Int32.toInt (pl_near' k) ∧ Int32.toInt (pl_near' k) ≤ 65535) → (0 ≤ Int32.toInt ro_size' ∧ Int32.toInt ro_size' ≤ 16) → post r pl_wanted' pl_near' ro_size' ro_numbers') : wp_X9_both post p0 p1 oX rX bZ bD wD gF qA nJ nY dQ jC eO eW fY jD qF jJ := by
  have l0 := li_m1
  have l1 := li_0
  have l2 := li_1
  have l3 := li_16
  have f2 := tp_r p0
  refine And.intro (fun c1 => ?_) (fun c1 => ?_)
  · skip
    have c1 := (fa_lt _ _).mp c1
    refine And.intro (fun _ => ?_) (fun h9 => absurd h9 (by decide))
    exact hpost _ _ _ _ _ (by omega) h_pl_wanted h_pl_near h_ro_size
  · skip
    have c1 := mt (fa_lt _ _).mpr c1
    refine And.intro (fun c3 => ?_) (fun c3 => ?_)
    · skip
      have c3 := (fa_le _ _).mp c3
      refine And.intro (fun _ => ?_) (fun h9 => absurd h9 (by decide))
      exact hpost _ _ _ _ _ (by omega) h_pl_wanted h_pl_near h_ro_size
    · skip
      have c3 := mt (fa_le _ _).mpr c3
      refine And.intro (fun h9 => absurd h9 (by decide)) (fun _ => ?_)
      have f5 := tp_r p1
      refine And.intro (fun c4 => ?_) (fun c4 => ?_)
      · skip
        have c4 := (fa_lt _ _).mp c4
        refine And.intro (fun _ => ?_) (fun h9 => absurd h9 (by decide))
        exact hpost _ _ _ _ _ (by omega) h_pl_wanted h_pl_near h_ro_size
      · skip
        have c4 := mt (fa_lt _ _).mpr c4
        refine And.intro (fun c6 => ?_) (fun c6 => ?_)
        · skip
          have c6 := (fa_le _ _).mp c6
          refine And.intro (fun _ => ?_) (fun h9 => absurd h9 (by decide))
          exact hpost _ _ _ _ _ (by omega) h_pl_wanted h_pl_near h_ro_size
        · skip
          have c6 := mt (fa_le _ _).mpr c6
          refine And.intro (fun h9 => absurd h9 (by decide)) (fun _ => ?_)
          refine And.intro (fun c7 => ?_) (fun c7 => ?_)
          · skip
            have c7 := mt (fa_eq _ _).mpr c7
            refine t_X5_lookAs h_no_today h_pl_wanted h_pl_near h_tr_fruits h_tr_standings (fun aCd aFX h_pl_wanted_8 h_pl_near_9 => ?_)
            refine And.intro (t_in (by omega)) ?_
            refine And.intro (t_in (by omega)) ?_
            intro v10 ev10
            have f13 := h_pl_near_9 p0.toNatClampNeg
            have f12 := ti_andr aCd (aFX p0.toNatClampNeg) (by omega)
            have f14 := ti_andl aCd (aFX p0.toNatClampNeg) (by omega)
            have f15 := ti_andl (aCd &&& (aFX p0.toNatClampNeg)) ((aCd &&& (aFX p1.toNatClampNeg)) ^^^ (-1)) (by omega)
            have hv10 := congrArg Int32.toInt ev10
            intro v16 ev16
            have f19 := h_pl_near_9 p1.toNatClampNeg
            have f18 := ti_andr aCd (aFX p1.toNatClampNeg) (by omega)
            have f20 := ti_andl aCd (aFX p1.toNatClampNeg) (by omega)
            have f21 := ti_andl (aCd &&& (aFX p1.toNatClampNeg)) ((aCd &&& (aFX p0.toNatClampNeg)) ^^^ (-1)) (by omega)
            have hv16 := congrArg Int32.toInt ev16
            refine And.intro (fun h9 => absurd h9 (by decide)) (fun _ => ?_)
            refine And.intro (t_in (by omega)) ?_
            intro v22 ev22
            have f23 : Int32.toInt (0 + 1) = Int32.toInt (0 : Int32) + Int32.toInt (1 : Int32) := ta_add _ _ (by omega)
            rw [← ev22] at f23
            refine And.intro (fun c24 => ?_) (fun c24 => ?_)
            · skip
              have c24 := (fa_le _ _).mp c24
              exfalso; omega
            · skip
              have c24 := mt (fa_le _ _).mpr c24
              refine And.intro (t_in (by omega)) ?_
              intro v25 ev25
              have f26 : Int32.toInt (v22 + 1) = Int32.toInt v22 + Int32.toInt (1 : Int32) := ta_add _ _ (by omega)
              rw [← ev25] at f26
              have f27 := ti_andr (aCd &&& (aFX p0.toNatClampNeg)) (aCd &&& (aFX p1.toNatClampNeg)) (by omega)
              have f28 := ti_andl (aCd &&& (aFX p0.toNatClampNeg)) (aCd &&& (aFX p1.toNatClampNeg)) (by omega)
              exact hpost _ _ _ _ _ (by omega) h_pl_wanted_8 h_pl_near_9 (by omega)
          · skip
            have c7 := (fa_eq _ _).mp c7
            exact hpost _ _ _ _ _ (by omega) h_pl_wanted h_pl_near h_ro_size
set_option maxHeartbeats 8000000 in
set_option maxRecDepth 200000 in
theorem ts_X3_leanNeeded_2 {post : Int32 → Prop} {next : Int32 → Int32 → Int32 → Prop} {n2 : Int} (wD gF nJ nY dQ : Nat → Int32) (hpost : ∀ (r : Int32) , (-2 ≤ Int32.toInt r ∧ Int32.toInt r ≤ 30) → post r) (hKn : ∀ (x1 : Int32) (x2 : Int32) (x3 : Int32), (0 ≤ Int32.toInt x1 ∧ Int32.toInt x1 ≤ 15) → (0 ≤ Int32.toInt x2 ∧ Int32.toInt x2 ≤ 7) → (0 ≤ Int32.toInt x3 ∧ Int32.toInt x3 ≤ 31) → (31 - Int32.toInt x3 < n2) → next x1 x2 x3) (x1 x2 x3 : Int32) (h_x1 : 0 ≤ Int32.toInt x1 ∧ Int32.toInt x1 ≤ 15) (h_x2 : 0 ≤ Int32.toInt x2 ∧ Int32.toInt x2 ≤ 7) (h_x3 : 0 ≤ Int32.toInt x3 ∧ Int32.toInt x3 ≤ 31) (hn2 : 31 - Int32.toInt x3 ≤ n2) : ws_X3_leanNeeded_2 post next wD gF nJ nY dQ x1 x2 x3 := by
  have l0 := li_m2
  have l1 := li_0
  have l2 := li_1
  have l3 := li_30
  refine And.intro (fun c1 => ?_) (fun c1 => ?_)
  · skip
    have c1 := (fa_lt _ _).mp c1
    exact hpost _ (by omega)
  · skip
    have c1 := mt (fa_lt _ _).mpr c1
    intro v2 ev2
    have hv2 := congrArg Int32.toInt ev2
    intro v4 ev4
    have hv4 := congrArg Int32.toInt ev4
    refine And.intro (t_in (by omega)) ?_
    intro v6 ev6
    have hv6 := congrArg Int32.toInt ev6
    refine And.intro (t_in (by omega)) ?_
    have f9 := tp_r v6
    refine And.intro (fun c8 => ?_) (fun c8 => ?_)
    · skip
      have c8 := (fa_le _ _).mp c8
      refine And.intro (t_in (by omega)) ?_
      intro v11 ev11
      have hv11 := congrArg Int32.toInt ev11
      refine And.intro (t_in (by omega)) ?_
      refine And.intro (t_in (by omega)) ?_
      intro v12 ev12
      have hv12 := congrArg Int32.toInt ev12
      refine And.intro (t_in (by omega)) ?_
      have f15 := tp_r v12
      refine And.intro (fun c14 => ?_) (fun c14 => ?_)
      · skip
        have c14 := (fa_le _ _).mp c14
        intro v17 ev17
        have hv17 := congrArg Int32.toInt ev17
        intro v19 ev19
        have f21 := tp_r v17
        have f22 : Int32.toInt (0 * 0) = Int32.toInt (0 : Int32) * 0 := ta_mulc _ _ (by decide) (by omega)
        have f20 : Int32.toInt (v17 + (0 * 0)) = Int32.toInt v17 + Int32.toInt (0 * 0) := ta_add _ _ (by omega)
        rw [← ev19] at f20
        have f24 := tp_r v19
        refine And.intro (fun c23 => ?_) (fun c23 => ?_)
        · skip
          have c23 := (fa_lt _ _).mp c23
          refine And.intro (fun _ => ?_) (fun h9 => absurd h9 (by decide))
          intro v26 ev26
          have f27 : Int32.toInt (x3 + 1) = Int32.toInt x3 + Int32.toInt (1 : Int32) := ta_add _ _ (by omega)
          rw [← ev26] at f27
          exact hKn x1 x2 v26 h_x1 h_x2 (by omega) (by omega)
        · skip
          have c23 := mt (fa_lt _ _).mpr c23
          refine And.intro (fun h9 => absurd h9 (by decide)) (fun _ => ?_)
          exact hpost _ (by omega)
      · skip
        have c14 := mt (fa_le _ _).mpr c14
        refine And.intro (t_in (by omega)) ?_
        intro v28 ev28
        have hv28 := congrArg Int32.toInt ev28
        refine And.intro (t_in (by omega)) ?_
        intro v29 ev29
        have hv29 := congrArg Int32.toInt ev29
        intro v31 ev31
        have hv31 := congrArg Int32.toInt ev31
        intro v33 ev33
        have hv33 := congrArg Int32.toInt ev33
        have f36 := tp_r v33
        refine And.intro (fun c35 => ?_) (fun c35 => ?_)
        · skip
          have c35 := (fa_lt _ _).mp c35
          refine And.intro (fun _ => ?_) (fun h9 => absurd h9 (by decide))
          intro v38 ev38
          have f39 : Int32.toInt (x3 + 1) = Int32.toInt x3 + Int32.toInt (1 : Int32) := ta_add _ _ (by omega)
          rw [← ev38] at f39
          exact hKn x1 x2 v38 h_x1 h_x2 (by omega) (by omega)
        · skip
          have c35 := mt (fa_lt _ _).mpr c35
          refine And.intro (fun h9 => absurd h9 (by decide)) (fun _ => ?_)
          exact hpost _ (by omega)
    · skip
      have c8 := mt (fa_le _ _).mpr c8
      refine And.intro (t_in (by omega)) ?_
      intro v40 ev40
      have hv40 := congrArg Int32.toInt ev40
      refine And.intro (t_in (by omega)) ?_
      intro v41 ev41
      have hv41 := congrArg Int32.toInt ev41
      refine And.intro (t_in (by omega)) ?_
      intro v43 ev43
      have hv43 := congrArg Int32.toInt ev43
      refine And.intro (t_in (by omega)) ?_
      have f46 := tp_r v43
      refine And.intro (fun c45 => ?_) (fun c45 => ?_)
      · skip
        have c45 := (fa_le _ _).mp c45
        intro v48 ev48
        have hv48 := congrArg Int32.toInt ev48
        intro v50 ev50
        have f52 := tp_r v48
        have f53 : Int32.toInt (0 * 0) = Int32.toInt (0 : Int32) * 0 := ta_mulc _ _ (by decide) (by omega)
        have f51 : Int32.toInt (v48 + (0 * 0)) = Int32.toInt v48 + Int32.toInt (0 * 0) := ta_add _ _ (by omega)
        rw [← ev50] at f51
        have f55 := tp_r v50
        refine And.intro (fun c54 => ?_) (fun c54 => ?_)
        · skip
          have c54 := (fa_lt _ _).mp c54
          refine And.intro (fun _ => ?_) (fun h9 => absurd h9 (by decide))
          intro v57 ev57
          have f58 : Int32.toInt (x3 + 1) = Int32.toInt x3 + Int32.toInt (1 : Int32) := ta_add _ _ (by omega)
          rw [← ev57] at f58
          exact hKn x1 x2 v57 h_x1 h_x2 (by omega) (by omega)
        · skip
          have c54 := mt (fa_lt _ _).mpr c54
          refine And.intro (fun h9 => absurd h9 (by decide)) (fun _ => ?_)
          exact hpost _ (by omega)
      · skip
        have c45 := mt (fa_le _ _).mpr c45
        refine And.intro (t_in (by omega)) ?_
        intro v59 ev59
        have hv59 := congrArg Int32.toInt ev59
        refine And.intro (t_in (by omega)) ?_
        intro v60 ev60
        have hv60 := congrArg Int32.toInt ev60
        intro v62 ev62
        have hv62 := congrArg Int32.toInt ev62
        intro v64 ev64
        have hv64 := congrArg Int32.toInt ev64
        have f67 := tp_r v64
        refine And.intro (fun c66 => ?_) (fun c66 => ?_)
        · skip
          have c66 := (fa_lt _ _).mp c66
          refine And.intro (fun _ => ?_) (fun h9 => absurd h9 (by decide))
          intro v69 ev69
          have f70 : Int32.toInt (x3 + 1) = Int32.toInt x3 + Int32.toInt (1 : Int32) := ta_add _ _ (by omega)
          rw [← ev69] at f70
          exact hKn x1 x2 v69 h_x1 h_x2 (by omega) (by omega)
        · skip
          have c66 := mt (fa_lt _ _).mpr c66
          refine And.intro (fun h9 => absurd h9 (by decide)) (fun _ => ?_)
          exact hpost _ (by omega)
set_option maxHeartbeats 8000000 in
set_option maxRecDepth 200000 in
theorem tb_X3_leanNeeded_2 {post : Int32 → Prop} (wD gF nJ nY dQ : Nat → Int32) (hpost : ∀ (r : Int32) , (-2 ≤ Int32.toInt r ∧ Int32.toInt r ≤ 30) → post r) : ∀ (n : Nat) (x1 x2 x3 : Int32), (0 ≤ Int32.toInt x1 ∧ Int32.toInt x1 ≤ 15) → (0 ≤ Int32.toInt x2 ∧ Int32.toInt x2 ≤ 7) → (0 ≤ Int32.toInt x3 ∧ Int32.toInt x3 ≤ 31) → (31 - Int32.toInt x3 < (n : Int)) → wb_X3_leanNeeded_2 post wD gF nJ nY dQ n x1 x2 x3 := by
  intro n
  induction n with
  | zero =>
    intro x1 x2 x3 h_x1 h_x2 h_x3 hm
    exfalso; omega
  | succ n ih =>
    intro x1 x2 x3 h_x1 h_x2 h_x3 hm
    exact ts_X3_leanNeeded_2 wD gF nJ nY dQ hpost ih x1 x2 x3 h_x1 h_x2 h_x3 (by omega)
set_option maxHeartbeats 8000000 in
set_option maxRecDepth 200000 in
theorem t_X3_leanNeeded {post : Int32 → Prop} {p0 p1 : Int32} {wD gF nJ nY dQ : Nat → Int32} (h_p0 : 0 ≤ Int32.toInt p0 ∧ Int32.toInt p0 ≤ 15) (h_p1 : 0 ≤ Int32.toInt p1 ∧ Int32.toInt p1 ≤ 7) (hpost : ∀ (r : Int32) , (-2 ≤ Int32.toInt r ∧ Int32.toInt r ≤ 30) → post r) : wp_X3_leanNeeded post p0 p1 wD gF nJ nY dQ := by
  have l0 := li_0
  exact ⟨33, tb_X3_leanNeeded_2 wD gF nJ nY dQ hpost _ p0 p1 0 h_p0 h_p1 (by omega) (by omega)⟩
set_option maxHeartbeats 8000000 in
set_option maxRecDepth 200000 in
theorem ts_X9_nearest_63 {post : Int32 → Int32 → (Nat → Int32) → Prop} {K22 : Int32 → Int32 → Int32 → Int32 → Int32 → (Nat → Int32) → Prop} {n22 : Int} (bZ bD : Int32) (wD gF nJ nY dQ : Nat → Int32) (h_tr_fruits : 0 ≤ Int32.toInt bZ ∧ Int32.toInt bZ ≤ 16) (h_tr_standings : 0 ≤ Int32.toInt bD ∧ Int32.toInt bD ≤ 8) (hpost : ∀ (r : Int32) (ro_size' : Int32) (ro_numbers' : Nat → Int32), (-2 ≤ Int32.toInt r ∧ Int32.toInt r ≤ 7) → (0 ≤ Int32.toInt ro_size' ∧ Int32.toInt ro_size' ≤ 16) → post r ro_size' ro_numbers') (hK22 : ∀ (x1 : Int32) (x2 : Int32) (x3 : Int32) (x4 : Int32) (qF : Int32) (jJ : Nat → Int32), (0 ≤ Int32.toInt x1 ∧ Int32.toInt x1 ≤ 15) → (-2 ≤ Int32.toInt x2 ∧ Int32.toInt x2 ≤ 7) → (0 ≤ Int32.toInt x3 ∧ Int32.toInt x3 ≤ 31) → (0 ≤ Int32.toInt x4 ∧ Int32.toInt x4 ≤ 8) → (0 ≤ Int32.toInt qF ∧ Int32.toInt qF ≤ 16) → (8 - Int32.toInt x4 < n22) → K22 x1 x2 x3 x4 qF jJ) (x1 x2 x3 x4 qF : Int32) (jJ : Nat → Int32) (h_x1 : 0 ≤ Int32.toInt x1 ∧ Int32.toInt x1 ≤ 15) (h_x2 : -2 ≤ Int32.toInt x2 ∧ Int32.toInt x2 ≤ 7) (h_x3 : 0 ≤ Int32.toInt x3 ∧ Int32.toInt x3 ≤ 31) (h_x4 : 0 ≤ Int32.toInt x4 ∧ Int32.toInt x4 ≤ 7) (h_ro_size : 0 ≤ Int32.toInt qF ∧ Int32.toInt qF ≤ 16) (hn22 : 8 - Int32.toInt x4 ≤ n22) : ws_X9_nearest_63 post K22 bZ bD wD gF nJ nY dQ x1 x2 x3 x4 qF jJ := by
  have l0 := li_1
  intro v1 ev1
  have f2 : Int32.toInt (x4 + 1) = Int32.toInt x4 + Int32.toInt (1 : Int32) := ta_add _ _ (by omega)
  rw [← ev1] at f2
  exact hK22 x1 x2 x3 v1 qF jJ h_x1 h_x2 h_x3 (by omega) h_ro_size (by omega)
set_option maxHeartbeats 8000000 in
set_option maxRecDepth 200000 in
theorem ts_X9_nearest_22 {post : Int32 → Int32 → (Nat → Int32) → Prop} {next : Int32 → Int32 → Int32 → Int32 → Int32 → (Nat → Int32) → Prop} {n22 : Int} (bZ bD : Int32) (wD gF nJ nY dQ : Nat → Int32) (h_tr_fruits : 0 ≤ Int32.toInt bZ ∧ Int32.toInt bZ ≤ 16) (h_tr_standings : 0 ≤ Int32.toInt bD ∧ Int32.toInt bD ≤ 8) (hpost : ∀ (r : Int32) (ro_size' : Int32) (ro_numbers' : Nat → Int32), (-2 ≤ Int32.toInt r ∧ Int32.toInt r ≤ 7) → (0 ≤ Int32.toInt ro_size' ∧ Int32.toInt ro_size' ≤ 16) → post r ro_size' ro_numbers') (hKn : ∀ (x1 : Int32) (x2 : Int32) (x3 : Int32) (x4 : Int32) (qF : Int32) (jJ : Nat → Int32), (0 ≤ Int32.toInt x1 ∧ Int32.toInt x1 ≤ 15) → (-2 ≤ Int32.toInt x2 ∧ Int32.toInt x2 ≤ 7) → (0 ≤ Int32.toInt x3 ∧ Int32.toInt x3 ≤ 31) → (0 ≤ Int32.toInt x4 ∧ Int32.toInt x4 ≤ 8) → (0 ≤ Int32.toInt qF ∧ Int32.toInt qF ≤ 16) → (8 - Int32.toInt x4 < n22) → next x1 x2 x3 x4 qF jJ) (x1 x2 x3 x4 qF : Int32) (jJ : Nat → Int32) (h_x1 : 0 ≤ Int32.toInt x1 ∧ Int32.toInt x1 ≤ 15) (h_x2 : -2 ≤ Int32.toInt x2 ∧ Int32.toInt x2 ≤ 7) (h_x3 : 0 ≤ Int32.toInt x3 ∧ Int32.toInt x3 ≤ 31) (h_x4 : 0 ≤ Int32.toInt x4 ∧ Int32.toInt x4 ≤ 8) (h_ro_size : 0 ≤ Int32.toInt qF ∧ Int32.toInt qF ≤ 16) (hn22 : 8 - Int32.toInt x4 ≤ n22) : ws_X9_nearest_22 post next bZ bD wD gF nJ nY dQ x1 x2 x3 x4 qF jJ := by
  have l0 := li_0
  have l1 := li_1
  refine And.intro (fun c3 => ?_) (fun c3 => ?_)
  · skip
    have c3 := (fa_le _ _).mp c3
    refine And.intro (fun c4 => ?_) (fun c4 => ?_)
    · skip
      have c4 := (fa_lt _ _).mp c4
      exact hpost _ _ _ h_x2 h_ro_size
    · skip
      have c4 := mt (fa_lt _ _).mpr c4
      refine And.intro (fun h9 => absurd h9 (by decide)) (fun _ => ?_)
      refine And.intro (t_in (by omega)) ?_
      intro v5 ev5
      have f6 : Int32.toInt (0 + 1) = Int32.toInt (0 : Int32) + Int32.toInt (1 : Int32) := ta_add _ _ (by omega)
      rw [← ev5] at f6
      exact hpost _ _ _ h_x2 (by omega)
  · skip
    have c3 := mt (fa_le _ _).mpr c3
    refine t_X3_leanNeeded h_x1 (by omega) (fun r7 h_r7 => ?_)
    refine And.intro (fun c8 => ?_) (fun c8 => ?_)
    · skip
      have c8 := (fa_lt _ _).mp c8
      exact ts_X9_nearest_63 bZ bD wD gF nJ nY dQ h_tr_fruits h_tr_standings hpost hKn x1 x2 x3 x4 qF jJ h_x1 h_x2 h_x3 (by omega) h_ro_size hn22
    · skip
      have c8 := mt (fa_lt _ _).mpr c8
      refine And.intro (fun c9 => ?_) (fun c9 => ?_)
      · skip
        have c9 := (fa_le _ _).mp c9
        exact ts_X9_nearest_63 bZ bD wD gF nJ nY dQ h_tr_fruits h_tr_standings hpost hKn x1 x2 x3 x4 qF jJ h_x1 h_x2 h_x3 (by omega) h_ro_size hn22
      · skip
        have c9 := mt (fa_le _ _).mpr c9
        exact ts_X9_nearest_63 bZ bD wD gF nJ nY dQ h_tr_fruits h_tr_standings hpost hKn x1 x4 r7 x4 qF jJ h_x1 (by omega) (by omega) (by omega) h_ro_size hn22
set_option maxHeartbeats 8000000 in
set_option maxRecDepth 200000 in
theorem tb_X9_nearest_22 {post : Int32 → Int32 → (Nat → Int32) → Prop} (bZ bD : Int32) (wD gF nJ nY dQ : Nat → Int32) (h_tr_fruits : 0 ≤ Int32.toInt bZ ∧ Int32.toInt bZ ≤ 16) (h_tr_standings : 0 ≤ Int32.toInt bD ∧ Int32.toInt bD ≤ 8) (hpost : ∀ (r : Int32) (ro_size' : Int32) (ro_numbers' : Nat → Int32), (-2 ≤ Int32.toInt r ∧ Int32.toInt r ≤ 7) → (0 ≤ Int32.toInt ro_size' ∧ Int32.toInt ro_size' ≤ 16) → post r ro_size' ro_numbers') : ∀ (n : Nat) (x1 x2 x3 x4 qF : Int32) (jJ : Nat → Int32), (0 ≤ Int32.toInt x1 ∧ Int32.toInt x1 ≤ 15) → (-2 ≤ Int32.toInt x2 ∧ Int32.toInt x2 ≤ 7) → (0 ≤ Int32.toInt x3 ∧ Int32.toInt x3 ≤ 31) → (0 ≤ Int32.toInt x4 ∧ Int32.toInt x4 ≤ 8) → (0 ≤ Int32.toInt qF ∧ Int32.toInt qF ≤ 16) → (8 - Int32.toInt x4 < (n : Int)) → wb_X9_nearest_22 post bZ bD wD gF nJ nY dQ n x1 x2 x3 x4 qF jJ := by
  intro n
  induction n with
  | zero =>
    intro x1 x2 x3 x4 qF jJ h_x1 h_x2 h_x3 h_x4 h_ro_size hm
    exfalso; omega
  | succ n ih =>
    intro x1 x2 x3 x4 qF jJ h_x1 h_x2 h_x3 h_x4 h_ro_size hm
    exact ts_X9_nearest_22 bZ bD wD gF nJ nY dQ h_tr_fruits h_tr_standings hpost ih x1 x2 x3 x4 qF jJ h_x1 h_x2 h_x3 h_x4 h_ro_size (by omega)
set_option maxHeartbeats 8000000 in
set_option maxRecDepth 200000 in
theorem t_X9_nearest {post : Int32 → Int32 → (Nat → Int32) → Prop} {p0 bZ bD : Int32} {wD gF nJ nY dQ : Nat → Int32} {qF : Int32} {jJ : Nat → Int32} (h_tr_fruits : 0 ≤ Int32.toInt bZ ∧ Int32.toInt bZ ≤ 16) (h_tr_standings : 0 ≤ Int32.toInt bD ∧ Int32.toInt bD ≤ 8) (h_ro_size : 0 ≤ Int32.toInt qF ∧ Int32.toInt qF ≤ 16) (hpost : ∀ (r : Int32) (ro_size' : Int32) (ro_numbers' : Nat → Int32), (-2 ≤ Int32.toInt r ∧ Int32.toInt r ≤ 7) → (0 ≤ Int32.toInt ro_size' ∧ Int32.toInt ro_size' ≤ 16) → post r ro_size' ro_numbers') : wp_X9_nearest post p0 bZ bD wD gF nJ nY dQ qF jJ := by
  have l0 := li_m1
  have l1 := li_m2
  have l2 := li_0
  have l3 := li_31
  have f11 := tp_r p0
  refine And.intro (fun c10 => ?_) (fun c10 => ?_)
  · skip
    have c10 := (fa_lt _ _).mp c10
    refine And.intro (fun h9 => absurd h9 (by decide)) (fun _ => ?_)
    exact hpost _ _ _ (by omega) h_ro_size
  · skip
    have c10 := mt (fa_lt _ _).mpr c10
    refine And.intro (fun c12 => ?_) (fun c12 => ?_)
    · skip
      have c12 := (fa_le _ _).mp c12
      refine And.intro (fun h9 => absurd h9 (by decide)) (fun _ => ?_)
      exact hpost _ _ _ (by omega) h_ro_size
    · skip
      have c12 := mt (fa_le _ _).mpr c12
      refine And.intro (fun _ => ?_) (fun h9 => absurd h9 (by decide))
      exact ⟨10, tb_X9_nearest_22 bZ bD wD gF nJ nY dQ h_tr_fruits h_tr_standings hpost _ p0 (-2) 31 0 qF jJ (by omega) (by omega) (by omega) (by omega) h_ro_size (by omega)⟩
set_option maxHeartbeats 8000000 in
set_option maxRecDepth 200000 in
theorem ts_X5_isEarlier_31 {post : Int32 → Prop} (hpost : ∀ (r : Int32) , (0 ≤ Int32.toInt r ∧ Int32.toInt r ≤ 1) → post r) : ws_X5_isEarlier_31 post := by
  have l0 := li_1
  exact hpost _ (by omega)
set_option maxHeartbeats 8000000 in
set_option maxRecDepth 200000 in
theorem t_X5_isEarlier {post : Int32 → Prop} {p0 p1 : Int32} (h_p0 : 0 ≤ Int32.toInt p0 ∧ Int32.toInt p0 ≤ 255) (h_p1 : 0 ≤ Int32.toInt p1 ∧ Int32.toInt p1 ≤ 255) (hpost : ∀ (r : Int32) , (0 ≤ Int32.toInt r ∧ Int32.toInt r ≤ 1) → post r) : wp_X5_isEarlier post p0 p1 := by
  have l0 := li_0
  have l1 := li_1431655765
  have l2 := li_252645135
  have l3 := li_63
  have l4 := li_858993459
  intro v1 ev1
  intro v2 ev2
  have f4 := ti_andr v1 1431655765 (by omega)
  have f3 : Int32.toInt (p0 - (v1 &&& 1431655765)) = Int32.toInt p0 - Int32.toInt (v1 &&& 1431655765) := ta_sub _ _ (by omega)
  rw [← ev2] at f3
  intro v5 ev5
  have f6 := ti_andr v2 858993459 (by omega)
  have hv5 := congrArg Int32.toInt ev5
  intro v7 ev7
  intro v8 ev8
  have f10 := ti_andr v7 858993459 (by omega)
  have f9 : Int32.toInt (v5 + (v7 &&& 858993459)) = Int32.toInt v5 + Int32.toInt (v7 &&& 858993459) := ta_add _ _ (by omega)
  rw [← ev8] at f9
  intro v11 ev11
  have hv11 := congrArg Int32.toInt ev11
  intro v13 ev13
  have f14 := ti_andr v11 252645135 (by omega)
  have hv13 := congrArg Int32.toInt ev13
  intro v15 ev15
  have hv15 := congrArg Int32.toInt ev15
  intro v17 ev17
  have hv17 := congrArg Int32.toInt ev17
  intro v19 ev19
  intro v20 ev20
  have f22 := ti_andr v19 1431655765 (by omega)
  have f21 : Int32.toInt (p1 - (v19 &&& 1431655765)) = Int32.toInt p1 - Int32.toInt (v19 &&& 1431655765) := ta_sub _ _ (by omega)
  rw [← ev20] at f21
  intro v23 ev23
  have f24 := ti_andr v20 858993459 (by omega)
  have hv23 := congrArg Int32.toInt ev23
  intro v25 ev25
  intro v26 ev26
  have f28 := ti_andr v25 858993459 (by omega)
  have f27 : Int32.toInt (v23 + (v25 &&& 858993459)) = Int32.toInt v23 + Int32.toInt (v25 &&& 858993459) := ta_add _ _ (by omega)
  rw [← ev26] at f27
  intro v29 ev29
  have hv29 := congrArg Int32.toInt ev29
  intro v31 ev31
  have f32 := ti_andr v29 252645135 (by omega)
  have hv31 := congrArg Int32.toInt ev31
  intro v33 ev33
  have hv33 := congrArg Int32.toInt ev33
  intro v35 ev35
  have hv35 := congrArg Int32.toInt ev35
  intro v37 ev37
  have f39 := ti_andr v17 63 (by omega)
  have f40 := ti_andr v35 63 (by omega)
  have f38 : Int32.toInt ((v17 &&& 63) - (v35 &&& 63)) = Int32.toInt (v17 &&& 63) - Int32.toInt (v35 &&& 63) := ta_sub _ _ (by omega)
  rw [← ev37] at f38
  intro v41 ev41
  have f42 := ti_xor 8 256 p0 p1 (by decide) (by omega) (by omega)
  have hv41 := congrArg Int32.toInt ev41
  refine And.intro (fun c43 => ?_) (fun c43 => ?_)
  · skip
    have c43 := (fa_lt _ _).mp c43
    exact ts_X5_isEarlier_31 hpost 
  · skip
    have c43 := mt (fa_lt _ _).mpr c43
    refine And.intro (fun c44 => ?_) (fun c44 => ?_)
    · skip
      have c44 := mt (fa_eq _ _).mpr c44
      exact hpost _ (by omega)
    · skip
      have c44 := (fa_eq _ _).mp c44
      intro v45 ev45
      have f46 := ti_andr p0 v41 (by omega)
      have f47 := ti_andl p0 v41 (by omega)
      have hv45 := congrArg Int32.toInt ev45
      have f50 := ti_andl v45 (-v41) (by omega)
      refine And.intro (fun c48 => ?_) (fun c48 => ?_)
      · skip
        have c48 := (fa_eq _ _).mp c48
        exact hpost _ (by omega)
      · skip
        have c48 := mt (fa_eq _ _).mpr c48
        exact ts_X5_isEarlier_31 hpost 
set_option maxHeartbeats 8000000 in
set_option maxRecDepth 200000 in
theorem ts_X5_smallestCover_45 {post : Int32 → Prop} {K5 : Int32 → Int32 → Int32 → Int32 → Prop} {n5 : Int} (rX : Nat → Int32) (bD : Int32) (h_pl_near : ∀ k : Nat, 0 ≤ Int32.toInt (rX k) ∧ Int32.toInt (rX k) ≤ 65535) (h_tr_standings : 0 ≤ Int32.toInt bD ∧ Int32.toInt bD ≤ 8) (hpost : ∀ (r : Int32) , (0 ≤ Int32.toInt r ∧ Int32.toInt r ≤ 255) → post r) (hK5 : ∀ (x1 : Int32) (x2 : Int32) (x3 : Int32) (x4 : Int32), (0 ≤ Int32.toInt x1 ∧ Int32.toInt x1 ≤ 65535) → (0 ≤ Int32.toInt x2 ∧ Int32.toInt x2 ≤ 255) → (0 ≤ Int32.toInt x3 ∧ Int32.toInt x3 ≤ 255) → (0 ≤ Int32.toInt x4 ∧ Int32.toInt x4 ≤ 256) → (256 - Int32.toInt x4 < n5) → K5 x1 x2 x3 x4) (x1 x2 x3 x4 : Int32) (h_x1 : 0 ≤ Int32.toInt x1 ∧ Int32.toInt x1 ≤ 65535) (h_x2 : 1 ≤ Int32.toInt x2 ∧ Int32.toInt x2 ≤ 255) (h_x3 : 0 ≤ Int32.toInt x3 ∧ Int32.toInt x3 ≤ 255) (h_x4 : 0 ≤ Int32.toInt x4 ∧ Int32.toInt x4 ≤ 255) (hn5 : 256 - Int32.toInt x4 ≤ n5) : ws_X5_smallestCover_45 post K5 rX bD x1 x2 x3 x4 := by
  have l0 := li_1
  intro v1 ev1
  have f2 : Int32.toInt (x4 + 1) = Int32.toInt x4 + Int32.toInt (1 : Int32) := ta_add _ _ (by omega)
  rw [← ev1] at f2
  exact hK5 x1 x2 x3 v1 h_x1 (by omega) h_x3 (by omega) (by omega)
set_option maxHeartbeats 8000000 in
set_option maxRecDepth 200000 in
theorem ts_X5_smallestCover_5 {post : Int32 → Prop} {next : Int32 → Int32 → Int32 → Int32 → Prop} {n5 : Int} (rX : Nat → Int32) (bD : Int32) (h_pl_near : ∀ k : Nat, 0 ≤ Int32.toInt (rX k) ∧ Int32.toInt (rX k) ≤ 65535) (h_tr_standings : 0 ≤ Int32.toInt bD ∧ Int32.toInt bD ≤ 8) (hpost : ∀ (r : Int32) , (0 ≤ Int32.toInt r ∧ Int32.toInt r ≤ 255) → post r) (hKn : ∀ (x1 : Int32) (x2 : Int32) (x3 : Int32) (x4 : Int32), (0 ≤ Int32.toInt x1 ∧ Int32.toInt x1 ≤ 65535) → (0 ≤ Int32.toInt x2 ∧ Int32.toInt x2 ≤ 255) → (0 ≤ Int32.toInt x3 ∧ Int32.toInt x3 ≤ 255) → (0 ≤ Int32.toInt x4 ∧ Int32.toInt x4 ≤ 256) → (256 - Int32.toInt x4 < n5) → next x1 x2 x3 x4) (x1 x2 x3 x4 : Int32) (h_x1 : 0 ≤ Int32.toInt x1 ∧ Int32.toInt x1 ≤ 65535) (h_x2 : 0 ≤ Int32.toInt x2 ∧ Int32.toInt x2 ≤ 255) (h_x3 : 0 ≤ Int32.toInt x3 ∧ Int32.toInt x3 ≤ 255) (h_x4 : 0 ≤ Int32.toInt x4 ∧ Int32.toInt x4 ≤ 256) (hn5 : 256 - Int32.toInt x4 ≤ n5) : ws_X5_smallestCover_5 post next rX bD x1 x2 x3 x4 := by
  have l0 := li_0
  refine And.intro (fun c3 => ?_) (fun c3 => ?_)
  · skip
    have c3 := (fa_le _ _).mp c3
    exact hpost _ h_x3
  · skip
    have c3 := mt (fa_le _ _).mpr c3
    have f6 := ti_andl x4 (x2 ^^^ (-1)) (by omega)
    refine And.intro (fun c4 => ?_) (fun c4 => ?_)
    · skip
      have c4 := mt (fa_eq _ _).mpr c4
      exact ts_X5_smallestCover_45 rX bD h_pl_near h_tr_standings hpost hKn x1 x2 x3 x4 h_x1 (by omega) h_x3 (by omega) hn5
    · skip
      have c4Z := c4
      have c4 := (fa_eq _ _).mp c4
      have s7 := ti_subset x4 x2 (c4Z) (by omega)
      refine t_X5_reachedBy (by omega) h_pl_near h_tr_standings (fun r8 h_r8 => ?_)
      have f11 := ti_andl x1 (r8 ^^^ (-1)) (by omega)
      refine And.intro (fun c9 => ?_) (fun c9 => ?_)
      · skip
        have c9 := mt (fa_eq _ _).mpr c9
        exact ts_X5_smallestCover_45 rX bD h_pl_near h_tr_standings hpost hKn x1 x2 x3 x4 h_x1 (by omega) h_x3 (by omega) hn5
      · skip
        have c9Z := c9
        have c9 := (fa_eq _ _).mp c9
        have s12 := ti_subset x1 r8 (c9Z) (by omega)
        refine t_X5_isEarlier (by omega) h_x3 (fun r13 h_r13 => ?_)
        refine And.intro (fun c14 => ?_) (fun c14 => ?_)
        · skip
          have c14 := (fa_eq _ _).mp c14
          exact ts_X5_smallestCover_45 rX bD h_pl_near h_tr_standings hpost hKn x1 x2 x3 x4 h_x1 (by omega) h_x3 (by omega) hn5
        · skip
          have c14 := mt (fa_eq _ _).mpr c14
          exact ts_X5_smallestCover_45 rX bD h_pl_near h_tr_standings hpost hKn x1 x2 x4 x4 h_x1 (by omega) (by omega) (by omega) hn5
set_option maxHeartbeats 8000000 in
set_option maxRecDepth 200000 in
theorem tb_X5_smallestCover_5 {post : Int32 → Prop} (rX : Nat → Int32) (bD : Int32) (h_pl_near : ∀ k : Nat, 0 ≤ Int32.toInt (rX k) ∧ Int32.toInt (rX k) ≤ 65535) (h_tr_standings : 0 ≤ Int32.toInt bD ∧ Int32.toInt bD ≤ 8) (hpost : ∀ (r : Int32) , (0 ≤ Int32.toInt r ∧ Int32.toInt r ≤ 255) → post r) : ∀ (n : Nat) (x1 x2 x3 x4 : Int32), (0 ≤ Int32.toInt x1 ∧ Int32.toInt x1 ≤ 65535) → (0 ≤ Int32.toInt x2 ∧ Int32.toInt x2 ≤ 255) → (0 ≤ Int32.toInt x3 ∧ Int32.toInt x3 ≤ 255) → (0 ≤ Int32.toInt x4 ∧ Int32.toInt x4 ≤ 256) → (256 - Int32.toInt x4 < (n : Int)) → wb_X5_smallestCover_5 post rX bD n x1 x2 x3 x4 := by
  intro n
  induction n with
  | zero =>
    intro x1 x2 x3 x4 h_x1 h_x2 h_x3 h_x4 hm
    exfalso; omega
  | succ n ih =>
    intro x1 x2 x3 x4 h_x1 h_x2 h_x3 h_x4 hm
    exact ts_X5_smallestCover_5 rX bD h_pl_near h_tr_standings hpost ih x1 x2 x3 x4 h_x1 h_x2 h_x3 h_x4 (by omega)
set_option maxHeartbeats 8000000 in
set_option maxRecDepth 200000 in
theorem t_X5_smallestCover {post : Int32 → Prop} {p0 p1 : Int32} {rX : Nat → Int32} {bD : Int32} (h_p0 : 0 ≤ Int32.toInt p0 ∧ Int32.toInt p0 ≤ 65535) (h_p1 : 0 ≤ Int32.toInt p1 ∧ Int32.toInt p1 ≤ 255) (h_pl_near : ∀ k : Nat, 0 ≤ Int32.toInt (rX k) ∧ Int32.toInt (rX k) ≤ 65535) (h_tr_standings : 0 ≤ Int32.toInt bD ∧ Int32.toInt bD ≤ 8) (hpost : ∀ (r : Int32) , (0 ≤ Int32.toInt r ∧ Int32.toInt r ≤ 255) → post r) : wp_X5_smallestCover post p0 p1 rX bD := by
  have l0 := li_0
  exact ⟨258, tb_X5_smallestCover_5 rX bD h_pl_near h_tr_standings hpost _ p0 p1 p1 0 h_p0 h_p1 h_p1 (by omega) (by omega)⟩
set_option maxHeartbeats 8000000 in
set_option maxRecDepth 200000 in
theorem ts_X9_tellMembers_31 {post : Int32 → Int32 → (Nat → Int32) → Prop} {K9 : Int32 → Int32 → Int32 → (Nat → Int32) → Prop} {n9 : Int} (hpost : ∀ (r : Int32) (ro_size' : Int32) (ro_numbers' : Nat → Int32), (0 ≤ Int32.toInt r ∧ Int32.toInt r ≤ 16) → (0 ≤ Int32.toInt ro_size' ∧ Int32.toInt ro_size' ≤ 16) → post r ro_size' ro_numbers') (hK9 : ∀ (x1 : Int32) (x2 : Int32) (qF : Int32) (jJ : Nat → Int32), (0 ≤ Int32.toInt x1 ∧ Int32.toInt x1 ≤ 255) → (0 ≤ Int32.toInt x2 ∧ Int32.toInt x2 ≤ 8) → (0 ≤ Int32.toInt qF ∧ Int32.toInt qF ≤ 16) → (8 - Int32.toInt x2 < n9) → K9 x1 x2 qF jJ) (x1 x2 qF : Int32) (jJ : Nat → Int32) (h_x1 : 0 ≤ Int32.toInt x1 ∧ Int32.toInt x1 ≤ 255) (h_x2 : 0 ≤ Int32.toInt x2 ∧ Int32.toInt x2 ≤ 7) (h_ro_size : 0 ≤ Int32.toInt qF ∧ Int32.toInt qF ≤ 16) (hn9 : 8 - Int32.toInt x2 ≤ n9) : ws_X9_tellMembers_31 post K9 x1 x2 qF jJ := by
  have l0 := li_1
  intro v1 ev1
  have f2 : Int32.toInt (x2 + 1) = Int32.toInt x2 + Int32.toInt (1 : Int32) := ta_add _ _ (by omega)
  rw [← ev1] at f2
  exact hK9 x1 v1 qF jJ h_x1 (by omega) h_ro_size (by omega)
set_option maxHeartbeats 8000000 in
set_option maxRecDepth 200000 in
theorem ts_X9_tellMembers_9 {post : Int32 → Int32 → (Nat → Int32) → Prop} {next : Int32 → Int32 → Int32 → (Nat → Int32) → Prop} {n9 : Int} (hpost : ∀ (r : Int32) (ro_size' : Int32) (ro_numbers' : Nat → Int32), (0 ≤ Int32.toInt r ∧ Int32.toInt r ≤ 16) → (0 ≤ Int32.toInt ro_size' ∧ Int32.toInt ro_size' ≤ 16) → post r ro_size' ro_numbers') (hKn : ∀ (x1 : Int32) (x2 : Int32) (qF : Int32) (jJ : Nat → Int32), (0 ≤ Int32.toInt x1 ∧ Int32.toInt x1 ≤ 255) → (0 ≤ Int32.toInt x2 ∧ Int32.toInt x2 ≤ 8) → (0 ≤ Int32.toInt qF ∧ Int32.toInt qF ≤ 16) → (8 - Int32.toInt x2 < n9) → next x1 x2 qF jJ) (x1 x2 qF : Int32) (jJ : Nat → Int32) (h_x1 : 0 ≤ Int32.toInt x1 ∧ Int32.toInt x1 ≤ 255) (h_x2 : 0 ≤ Int32.toInt x2 ∧ Int32.toInt x2 ≤ 8) (h_ro_size : 0 ≤ Int32.toInt qF ∧ Int32.toInt qF ≤ 16) (hn9 : 8 - Int32.toInt x2 ≤ n9) : ws_X9_tellMembers_9 post next x1 x2 qF jJ := by
  have l0 := li_0
  have l1 := li_1
  have l2 := li_16
  have l3 := li_8
  refine And.intro (fun c3 => ?_) (fun c3 => ?_)
  · skip
    have c3 := (fa_le _ _).mp c3
    exact hpost _ _ _ h_ro_size h_ro_size
  · skip
    have c3 := mt (fa_le _ _).mpr c3
    intro v4 ev4
    have f5 := ti_shr x1 x2 (by omega)
    have hv4 := congrArg Int32.toInt ev4
    have f7 := ti_andr v4 1 (by omega)
    have f8 := ti_andl v4 1 (by omega)
    refine And.intro (fun c6 => ?_) (fun c6 => ?_)
    · skip
      have c6 := (fa_eq _ _).mp c6
      exact ts_X9_tellMembers_31 hpost hKn x1 x2 qF jJ h_x1 (by omega) h_ro_size hn9
    · skip
      have c6 := mt (fa_eq _ _).mpr c6
      refine And.intro (fun c9 => ?_) (fun c9 => ?_)
      · skip
        have c9 := (fa_le _ _).mp c9
        exact ts_X9_tellMembers_31 hpost hKn x1 x2 qF jJ h_x1 (by omega) h_ro_size hn9
      · skip
        have c9 := mt (fa_le _ _).mpr c9
        refine And.intro (t_in (by omega)) ?_
        intro v10 ev10
        have f11 : Int32.toInt (qF + 1) = Int32.toInt qF + Int32.toInt (1 : Int32) := ta_add _ _ (by omega)
        rw [← ev10] at f11
        exact ts_X9_tellMembers_31 hpost hKn x1 x2 v10 (upd jJ qF.toNatClampNeg x2) h_x1 (by omega) (by omega) hn9
set_option maxHeartbeats 8000000 in
set_option maxRecDepth 200000 in
theorem tb_X9_tellMembers_9 {post : Int32 → Int32 → (Nat → Int32) → Prop} (hpost : ∀ (r : Int32) (ro_size' : Int32) (ro_numbers' : Nat → Int32), (0 ≤ Int32.toInt r ∧ Int32.toInt r ≤ 16) → (0 ≤ Int32.toInt ro_size' ∧ Int32.toInt ro_size' ≤ 16) → post r ro_size' ro_numbers') : ∀ (n : Nat) (x1 x2 qF : Int32) (jJ : Nat → Int32), (0 ≤ Int32.toInt x1 ∧ Int32.toInt x1 ≤ 255) → (0 ≤ Int32.toInt x2 ∧ Int32.toInt x2 ≤ 8) → (0 ≤ Int32.toInt qF ∧ Int32.toInt qF ≤ 16) → (8 - Int32.toInt x2 < (n : Int)) → wb_X9_tellMembers_9 post n x1 x2 qF jJ := by
  intro n
  induction n with
  | zero =>
    intro x1 x2 qF jJ h_x1 h_x2 h_ro_size hm
    exfalso; omega
  | succ n ih =>
    intro x1 x2 qF jJ h_x1 h_x2 h_ro_size hm
    exact ts_X9_tellMembers_9 hpost ih x1 x2 qF jJ h_x1 h_x2 h_ro_size (by omega)
set_option maxHeartbeats 8000000 in
set_option maxRecDepth 200000 in
theorem t_X9_tellMembers {post : Int32 → Int32 → (Nat → Int32) → Prop} {p0 qF : Int32} {jJ : Nat → Int32} (h_p0 : 0 ≤ Int32.toInt p0 ∧ Int32.toInt p0 ≤ 255) (h_ro_size : 0 ≤ Int32.toInt qF ∧ Int32.toInt qF ≤ 16) (hpost : ∀ (r : Int32) (ro_size' : Int32) (ro_numbers' : Nat → Int32), (0 ≤ Int32.toInt r ∧ Int32.toInt r ≤ 16) → (0 ≤ Int32.toInt ro_size' ∧ Int32.toInt ro_size' ≤ 16) → post r ro_size' ro_numbers') : wp_X9_tellMembers post p0 qF jJ := by
  have l0 := li_0
  exact ⟨10, tb_X9_tellMembers_9 hpost _ p0 0 0 jJ h_p0 (by omega) (by omega) (by omega)⟩
set_option maxHeartbeats 8000000 in
set_option maxRecDepth 200000 in
theorem t_X9_fewest {post : Int32 → Int32 → (Nat → Int32) → Int32 → (Nat → Int32) → Prop} {oX : Int32} {rX : Nat → Int32} {bZ bD : Int32} {wD gF qA nJ nY dQ : Nat → Int32} {jC eO eW fY jD qF : Int32} {jJ : Nat → Int32} (h_pl_wanted : 0 ≤ Int32.toInt oX ∧ Int32.toInt oX ≤ 65535) (h_pl_near : ∀ k : Nat, 0 ≤ Int32.toInt (rX k) ∧ Int32.toInt (rX k) ≤ 65535) (h_tr_fruits : 0 ≤ Int32.toInt bZ ∧ Int32.toInt bZ ≤ 16) (h_tr_standings : 0 ≤ Int32.toInt bD ∧ Int32.toInt bD ≤ 8) (h_no_today : 0 ≤ Int32.toInt jD ∧ Int32.toInt jD ≤ 9) (h_ro_size : 0 ≤ Int32.toInt qF ∧ Int32.toInt qF ≤ 16) (hpost : ∀ (r : Int32) (pl_wanted' : Int32) (pl_near' : Nat → Int32) (ro_size' : Int32) (ro_numbers' : Nat → Int32), (0 ≤ Int32.toInt r ∧ Int32.toInt r ≤ 16) → (0 ≤ Int32.toInt pl_wanted' ∧ Int32.toInt pl_wanted' ≤ 65535) → (∀ k : Nat, 0 ≤ Int32.toInt (pl_near' k) ∧ Int32.toInt (pl_near' k) ≤ 65535) → (0 ≤ Int32.toInt ro_size' ∧ Int32.toInt ro_size' ≤ 16) → post r pl_wanted' pl_near' ro_size' ro_numbers') : wp_X9_fewest post oX rX bZ bD wD gF qA nJ nY dQ jC eO eW fY jD qF jJ := by
  have l0 := li_1
  refine t_X5_lookAs h_no_today h_pl_wanted h_pl_near h_tr_fruits h_tr_standings (fun xM xQ h_pl_wanted_1 h_pl_near_2 => ?_)
  intro v3 ev3
  have f4 := ti_shl1 8 256 bD (by decide) (by omega)
  have hv3 := congrArg Int32.toInt ev3
  have f6 : Int32.toInt (v3 - 1) = Int32.toInt v3 - Int32.toInt (1 : Int32) := ta_sub _ _ (by omega)
  refine t_X5_smallestCover h_pl_wanted_1 (by omega) h_pl_near_2 h_tr_standings (fun r5 h_r5 => ?_)
  refine t_X9_tellMembers h_r5 h_ro_size (fun r9 aBn aAp h_r9 h_ro_size_7 => ?_)
  exact hpost _ _ _ _ _ h_r9 h_pl_wanted_1 h_pl_near_2 h_ro_size_7
set_option maxHeartbeats 8000000 in
set_option maxRecDepth 200000 in
theorem ts_X9_needed_76 {post : Int32 → Int32 → (Nat → Int32) → Int32 → (Nat → Int32) → Prop} {K13 : Int32 → Int32 → Int32 → Int32 → (Nat → Int32) → Int32 → (Nat → Int32) → Prop} {n13 : Int} (bZ bD : Int32) (wD gF qA nJ nY dQ : Nat → Int32) (jC eO eW fY jD : Int32) (h_tr_fruits : 0 ≤ Int32.toInt bZ ∧ Int32.toInt bZ ≤ 16) (h_tr_standings : 0 ≤ Int32.toInt bD ∧ Int32.toInt bD ≤ 8) (h_no_today : 0 ≤ Int32.toInt jD ∧ Int32.toInt jD ≤ 9) (hpost : ∀ (r : Int32) (pl_wanted' : Int32) (pl_near' : Nat → Int32) (ro_size' : Int32) (ro_numbers' : Nat → Int32), (0 ≤ Int32.toInt r ∧ Int32.toInt r ≤ 255) → (0 ≤ Int32.toInt pl_wanted' ∧ Int32.toInt pl_wanted' ≤ 65535) → (∀ k : Nat, 0 ≤ Int32.toInt (pl_near' k) ∧ Int32.toInt (pl_near' k) ≤ 65535) → (1 ≤ Int32.toInt ro_size' ∧ Int32.toInt ro_size' ≤ 1) → post r pl_wanted' pl_near' ro_size' ro_numbers') (hK13 : ∀ (x1 : Int32) (x2 : Int32) (x3 : Int32) (oX : Int32) (rX : Nat → Int32) (qF : Int32) (jJ : Nat → Int32), (0 ≤ Int32.toInt x1 ∧ Int32.toInt x1 ≤ 255) → (0 ≤ Int32.toInt x2 ∧ Int32.toInt x2 ≤ 65535) → (0 ≤ Int32.toInt x3 ∧ Int32.toInt x3 ≤ 8) → (0 ≤ Int32.toInt oX ∧ Int32.toInt oX ≤ 65535) → (∀ k : Nat, 0 ≤ Int32.toInt (rX k) ∧ Int32.toInt (rX k) ≤ 65535) → (0 ≤ Int32.toInt qF ∧ Int32.toInt qF ≤ 16) → (8 - Int32.toInt x3 < n13) → K13 x1 x2 x3 oX rX qF jJ) (x1 x2 x3 oX : Int32) (rX : Nat → Int32) (qF : Int32) (jJ : Nat → Int32) (h_x1 : 0 ≤ Int32.toInt x1 ∧ Int32.toInt x1 ≤ 255) (h_x2 : 0 ≤ Int32.toInt x2 ∧ Int32.toInt x2 ≤ 65535) (h_x3 : 0 ≤ Int32.toInt x3 ∧ Int32.toInt x3 ≤ 7) (h_pl_wanted : 0 ≤ Int32.toInt oX ∧ Int32.toInt oX ≤ 65535) (h_pl_near : ∀ k : Nat, 0 ≤ Int32.toInt (rX k) ∧ Int32.toInt (rX k) ≤ 65535) (h_ro_size : 0 ≤ Int32.toInt qF ∧ Int32.toInt qF ≤ 16) (hn13 : 8 - Int32.toInt x3 ≤ n13) : ws_X9_needed_76 post K13 bZ bD wD gF qA nJ nY dQ jC eO eW fY jD x1 x2 x3 oX rX qF jJ := by
  have l0 := li_1
  intro v1 ev1
  have f2 : Int32.toInt (x3 + 1) = Int32.toInt x3 + Int32.toInt (1 : Int32) := ta_add _ _ (by omega)
  rw [← ev1] at f2
  exact hK13 x1 x2 v1 oX rX qF jJ h_x1 h_x2 (by omega) h_pl_wanted h_pl_near h_ro_size (by omega)
set_option maxHeartbeats 8000000 in
set_option maxRecDepth 200000 in
theorem ts_X9_needed_13 {post : Int32 → Int32 → (Nat → Int32) → Int32 → (Nat → Int32) → Prop} {next : Int32 → Int32 → Int32 → Int32 → (Nat → Int32) → Int32 → (Nat → Int32) → Prop} {n13 : Int} (bZ bD : Int32) (wD gF qA nJ nY dQ : Nat → Int32) (jC eO eW fY jD : Int32) (h_tr_fruits : 0 ≤ Int32.toInt bZ ∧ Int32.toInt bZ ≤ 16) (h_tr_standings : 0 ≤ Int32.toInt bD ∧ Int32.toInt bD ≤ 8) (h_no_today : 0 ≤ Int32.toInt jD ∧ Int32.toInt jD ≤ 9) (hpost : ∀ (r : Int32) (pl_wanted' : Int32) (pl_near' : Nat → Int32) (ro_size' : Int32) (ro_numbers' : Nat → Int32), (0 ≤ Int32.toInt r ∧ Int32.toInt r ≤ 255) → (0 ≤ Int32.toInt pl_wanted' ∧ Int32.toInt pl_wanted' ≤ 65535) → (∀ k : Nat, 0 ≤ Int32.toInt (pl_near' k) ∧ Int32.toInt (pl_near' k) ≤ 65535) → (1 ≤ Int32.toInt ro_size' ∧ Int32.toInt ro_size' ≤ 1) → post r pl_wanted' pl_near' ro_size' ro_numbers') (hKn : ∀ (x1 : Int32) (x2 : Int32) (x3 : Int32) (oX : Int32) (rX : Nat → Int32) (qF : Int32) (jJ : Nat → Int32), (0 ≤ Int32.toInt x1 ∧ Int32.toInt x1 ≤ 255) → (0 ≤ Int32.toInt x2 ∧ Int32.toInt x2 ≤ 65535) → (0 ≤ Int32.toInt x3 ∧ Int32.toInt x3 ≤ 8) → (0 ≤ Int32.toInt oX ∧ Int32.toInt oX ≤ 65535) → (∀ k : Nat, 0 ≤ Int32.toInt (rX k) ∧ Int32.toInt (rX k) ≤ 65535) → (0 ≤ Int32.toInt qF ∧ Int32.toInt qF ≤ 16) → (8 - Int32.toInt x3 < n13) → next x1 x2 x3 oX rX qF jJ) (x1 x2 x3 oX : Int32) (rX : Nat → Int32) (qF : Int32) (jJ : Nat → Int32) (h_x1 : 0 ≤ Int32.toInt x1 ∧ Int32.toInt x1 ≤ 255) (h_x2 : 0 ≤ Int32.toInt x2 ∧ Int32.toInt x2 ≤ 65535) (h_x3 : 0 ≤ Int32.toInt x3 ∧ Int32.toInt x3 ≤ 8) (h_pl_wanted : 0 ≤ Int32.toInt oX ∧ Int32.toInt oX ≤ 65535) (h_pl_near : ∀ k : Nat, 0 ≤ Int32.toInt (rX k) ∧ Int32.toInt (rX k) ≤ 65535) (h_ro_size : 0 ≤ Int32.toInt qF ∧ Int32.toInt qF ≤ 16) (hn13 : 8 - Int32.toInt x3 ≤ n13) : ws_X9_needed_13 post next bZ bD wD gF qA nJ nY dQ jC eO eW fY jD x1 x2 x3 oX rX qF jJ := by
  have l0 := li_0
  have l1 := li_1
  refine And.intro (fun c3 => ?_) (fun c3 => ?_)
  · skip
    have c3 := (fa_le _ _).mp c3
    refine And.intro (fun h9 => absurd h9 (by decide)) (fun _ => ?_)
    refine And.intro (t_in (by omega)) ?_
    intro v4 ev4
    have f5 : Int32.toInt (0 + 1) = Int32.toInt (0 : Int32) + Int32.toInt (1 : Int32) := ta_add _ _ (by omega)
    rw [← ev4] at f5
    exact hpost _ _ _ _ _ h_x1 h_pl_wanted h_pl_near (by omega)
  · skip
    have c3 := mt (fa_le _ _).mpr c3
    intro v6 ev6
    have f7 := ti_shl1 8 256 bD (by decide) (by omega)
    have hv6 := congrArg Int32.toInt ev6
    intro v8 ev8
    have f9 := ti_shl1 7 128 x3 (by decide) (by omega)
    have hv8 := congrArg Int32.toInt ev8
    intro v10 ev10
    have f12 : Int32.toInt (v6 - 1) = Int32.toInt v6 - Int32.toInt (1 : Int32) := ta_sub _ _ (by omega)
    have f13 := ti_andl (v6 - 1) (v8 ^^^ (-1)) (by omega)
    have hv10 := congrArg Int32.toInt ev10
    refine t_X5_reachedBy (by omega) h_pl_near h_tr_standings (fun r14 h_r14 => ?_)
    intro v15 ev15
    have f17 := ti_andl oX (r14 ^^^ (-1)) (by omega)
    have hv15 := congrArg Int32.toInt ev15
    refine And.intro (fun c18 => ?_) (fun c18 => ?_)
    · skip
      have c18 := (fa_eq _ _).mp c18
      exact ts_X9_needed_76 bZ bD wD gF qA nJ nY dQ jC eO eW fY jD h_tr_fruits h_tr_standings h_no_today hpost hKn x1 x2 x3 oX rX qF jJ h_x1 h_x2 (by omega) h_pl_wanted h_pl_near h_ro_size hn13
    · skip
      have c18 := mt (fa_eq _ _).mpr c18
      intro v19 ev19
      have f20 := ti_or 8 256 x1 (1 <<< (x3 &&& 31)) (by decide) (by omega) (by omega)
      have hv19 := congrArg Int32.toInt ev19
      intro v21 ev21
      have f22 := ti_or 16 65536 x2 v15 (by decide) (by omega) (by omega)
      have hv21 := congrArg Int32.toInt ev21
      exact ts_X9_needed_76 bZ bD wD gF qA nJ nY dQ jC eO eW fY jD h_tr_fruits h_tr_standings h_no_today hpost hKn v19 v21 x3 oX rX qF jJ (by omega) (by omega) (by omega) h_pl_wanted h_pl_near h_ro_size hn13
set_option maxHeartbeats 8000000 in
set_option maxRecDepth 200000 in
theorem tb_X9_needed_13 {post : Int32 → Int32 → (Nat → Int32) → Int32 → (Nat → Int32) → Prop} (bZ bD : Int32) (wD gF qA nJ nY dQ : Nat → Int32) (jC eO eW fY jD : Int32) (h_tr_fruits : 0 ≤ Int32.toInt bZ ∧ Int32.toInt bZ ≤ 16) (h_tr_standings : 0 ≤ Int32.toInt bD ∧ Int32.toInt bD ≤ 8) (h_no_today : 0 ≤ Int32.toInt jD ∧ Int32.toInt jD ≤ 9) (hpost : ∀ (r : Int32) (pl_wanted' : Int32) (pl_near' : Nat → Int32) (ro_size' : Int32) (ro_numbers' : Nat → Int32), (0 ≤ Int32.toInt r ∧ Int32.toInt r ≤ 255) → (0 ≤ Int32.toInt pl_wanted' ∧ Int32.toInt pl_wanted' ≤ 65535) → (∀ k : Nat, 0 ≤ Int32.toInt (pl_near' k) ∧ Int32.toInt (pl_near' k) ≤ 65535) → (1 ≤ Int32.toInt ro_size' ∧ Int32.toInt ro_size' ≤ 1) → post r pl_wanted' pl_near' ro_size' ro_numbers') : ∀ (n : Nat) (x1 x2 x3 oX : Int32) (rX : Nat → Int32) (qF : Int32) (jJ : Nat → Int32), (0 ≤ Int32.toInt x1 ∧ Int32.toInt x1 ≤ 255) → (0 ≤ Int32.toInt x2 ∧ Int32.toInt x2 ≤ 65535) → (0 ≤ Int32.toInt x3 ∧ Int32.toInt x3 ≤ 8) → (0 ≤ Int32.toInt oX ∧ Int32.toInt oX ≤ 65535) → (∀ k : Nat, 0 ≤ Int32.toInt (rX k) ∧ Int32.toInt (rX k) ≤ 65535) → (0 ≤ Int32.toInt qF ∧ Int32.toInt qF ≤ 16) → (8 - Int32.toInt x3 < (n : Int)) → wb_X9_needed_13 post bZ bD wD gF qA nJ nY dQ jC eO eW fY jD n x1 x2 x3 oX rX qF jJ := by
  intro n
  induction n with
  | zero =>
    intro x1 x2 x3 oX rX qF jJ h_x1 h_x2 h_x3 h_pl_wanted h_pl_near h_ro_size hm
    exfalso; omega
  | succ n ih =>
    intro x1 x2 x3 oX rX qF jJ h_x1 h_x2 h_x3 h_pl_wanted h_pl_near h_ro_size hm
    exact ts_X9_needed_13 bZ bD wD gF qA nJ nY dQ jC eO eW fY jD h_tr_fruits h_tr_standings h_no_today hpost ih x1 x2 x3 oX rX qF jJ h_x1 h_x2 h_x3 h_pl_wanted h_pl_near h_ro_size (by omega)
set_option maxHeartbeats 8000000 in
set_option maxRecDepth 200000 in
theorem t_X9_needed {post : Int32 → Int32 → (Nat → Int32) → Int32 → (Nat → Int32) → Prop} {oX : Int32} {rX : Nat → Int32} {bZ bD : Int32} {wD gF qA nJ nY dQ : Nat → Int32} {jC eO eW fY jD qF : Int32} {jJ : Nat → Int32} (h_pl_wanted : 0 ≤ Int32.toInt oX ∧ Int32.toInt oX ≤ 65535) (h_pl_near : ∀ k : Nat, 0 ≤ Int32.toInt (rX k) ∧ Int32.toInt (rX k) ≤ 65535) (h_tr_fruits : 0 ≤ Int32.toInt bZ ∧ Int32.toInt bZ ≤ 16) (h_tr_standings : 0 ≤ Int32.toInt bD ∧ Int32.toInt bD ≤ 8) (h_no_today : 0 ≤ Int32.toInt jD ∧ Int32.toInt jD ≤ 9) (h_ro_size : 0 ≤ Int32.toInt qF ∧ Int32.toInt qF ≤ 16) (hpost : ∀ (r : Int32) (pl_wanted' : Int32) (pl_near' : Nat → Int32) (ro_size' : Int32) (ro_numbers' : Nat → Int32), (0 ≤ Int32.toInt r ∧ Int32.toInt r ≤ 255) → (0 ≤ Int32.toInt pl_wanted' ∧ Int32.toInt pl_wanted' ≤ 65535) → (∀ k : Nat, 0 ≤ Int32.toInt (pl_near' k) ∧ Int32.toInt (pl_near' k) ≤ 65535) → (1 ≤ Int32.toInt ro_size' ∧ Int32.toInt ro_size' ≤ 1) → post r pl_wanted' pl_near' ro_size' ro_numbers') : wp_X9_needed post oX rX bZ bD wD gF qA nJ nY dQ jC eO eW fY jD qF jJ := by
  have l0 := li_0
  refine t_X5_lookAs h_no_today h_pl_wanted h_pl_near h_tr_fruits h_tr_standings (fun pl_wanted_23 pl_near_24 h_pl_wanted_23 h_pl_near_24 => ?_)
  exact ⟨10, tb_X9_needed_13 bZ bD wD gF qA nJ nY dQ jC eO eW fY jD h_tr_fruits h_tr_standings h_no_today hpost _ 0 0 0 pl_wanted_23 pl_near_24 qF jJ (by omega) (by omega) (by omega) h_pl_wanted_23 h_pl_near_24 h_ro_size (by omega)⟩
set_option maxHeartbeats 8000000 in
set_option maxRecDepth 200000 in
theorem ts_X9_isFewer_23 {post : Int32 → Prop} (hpost : ∀ (r : Int32) , (0 ≤ Int32.toInt r ∧ Int32.toInt r ≤ 1) → post r) : ws_X9_isFewer_23 post := by
  have l0 := li_1
  exact hpost _ (by omega)
set_option maxHeartbeats 8000000 in
set_option maxRecDepth 200000 in
theorem t_X9_isFewer {post : Int32 → Prop} {p0 p1 : Int32} (h_p0 : 0 ≤ Int32.toInt p0 ∧ Int32.toInt p0 ≤ 255) (h_p1 : 0 ≤ Int32.toInt p1 ∧ Int32.toInt p1 ≤ 255) (hpost : ∀ (r : Int32) , (0 ≤ Int32.toInt r ∧ Int32.toInt r ≤ 1) → post r) : wp_X9_isFewer post p0 p1 := by
  have l0 := li_0
  have l1 := li_1431655765
  have l2 := li_252645135
  have l3 := li_63
  have l4 := li_858993459
  intro v1 ev1
  intro v2 ev2
  have f4 := ti_andr v1 1431655765 (by omega)
  have f3 : Int32.toInt (p0 - (v1 &&& 1431655765)) = Int32.toInt p0 - Int32.toInt (v1 &&& 1431655765) := ta_sub _ _ (by omega)
  rw [← ev2] at f3
  intro v5 ev5
  have f6 := ti_andr v2 858993459 (by omega)
  have hv5 := congrArg Int32.toInt ev5
  intro v7 ev7
  intro v8 ev8
  have f10 := ti_andr v7 858993459 (by omega)
  have f9 : Int32.toInt (v5 + (v7 &&& 858993459)) = Int32.toInt v5 + Int32.toInt (v7 &&& 858993459) := ta_add _ _ (by omega)
  rw [← ev8] at f9
  intro v11 ev11
  have hv11 := congrArg Int32.toInt ev11
  intro v13 ev13
  have f14 := ti_andr v11 252645135 (by omega)
  have hv13 := congrArg Int32.toInt ev13
  intro v15 ev15
  have hv15 := congrArg Int32.toInt ev15
  intro v17 ev17
  have hv17 := congrArg Int32.toInt ev17
  intro v19 ev19
  intro v20 ev20
  have f22 := ti_andr v19 1431655765 (by omega)
  have f21 : Int32.toInt (p1 - (v19 &&& 1431655765)) = Int32.toInt p1 - Int32.toInt (v19 &&& 1431655765) := ta_sub _ _ (by omega)
  rw [← ev20] at f21
  intro v23 ev23
  have f24 := ti_andr v20 858993459 (by omega)
  have hv23 := congrArg Int32.toInt ev23
  intro v25 ev25
  intro v26 ev26
  have f28 := ti_andr v25 858993459 (by omega)
  have f27 : Int32.toInt (v23 + (v25 &&& 858993459)) = Int32.toInt v23 + Int32.toInt (v25 &&& 858993459) := ta_add _ _ (by omega)
  rw [← ev26] at f27
  intro v29 ev29
  have hv29 := congrArg Int32.toInt ev29
  intro v31 ev31
  have f32 := ti_andr v29 252645135 (by omega)
  have hv31 := congrArg Int32.toInt ev31
  intro v33 ev33
  have hv33 := congrArg Int32.toInt ev33
  intro v35 ev35
  have hv35 := congrArg Int32.toInt ev35
  intro v37 ev37
  have f39 := ti_andr v17 63 (by omega)
  have f40 := ti_andr v35 63 (by omega)
  have f38 : Int32.toInt ((v17 &&& 63) - (v35 &&& 63)) = Int32.toInt (v17 &&& 63) - Int32.toInt (v35 &&& 63) := ta_sub _ _ (by omega)
  rw [← ev37] at f38
  refine And.intro (fun c41 => ?_) (fun c41 => ?_)
  · skip
    have c41 := (fa_lt _ _).mp c41
    exact ts_X9_isFewer_23 hpost 
  · skip
    have c41 := mt (fa_lt _ _).mpr c41
    refine And.intro (fun c42 => ?_) (fun c42 => ?_)
    · skip
      have c42 := mt (fa_eq _ _).mpr c42
      exact hpost _ (by omega)
    · skip
      have c42 := (fa_eq _ _).mp c42
      refine And.intro (fun c43 => ?_) (fun c43 => ?_)
      · skip
        have c43 := (fa_le _ _).mp c43
        exact hpost _ (by omega)
      · skip
        have c43 := mt (fa_le _ _).mpr c43
        exact ts_X9_isFewer_23 hpost 
set_option maxHeartbeats 8000000 in
set_option maxRecDepth 200000 in
theorem ts_X9_birds_92 {post : Int32 → Int32 → (Nat → Int32) → Int32 → (Nat → Int32) → Prop} {K33 : Int32 → Int32 → Int32 → Int32 → Int32 → (Nat → Int32) → Int32 → (Nat → Int32) → Prop} {n33 : Int} (bZ bD : Int32) (wD gF pE qA nJ nY dQ : Nat → Int32) (jC eO eW dO fY jD : Int32) (h_tr_fruits : 0 ≤ Int32.toInt bZ ∧ Int32.toInt bZ ≤ 16) (h_tr_standings : 0 ≤ Int32.toInt bD ∧ Int32.toInt bD ≤ 8) (h_no_today : 0 ≤ Int32.toInt jD ∧ Int32.toInt jD ≤ 9) (hpost : ∀ (r : Int32) (pl_wanted' : Int32) (pl_near' : Nat → Int32) (ro_size' : Int32) (ro_numbers' : Nat → Int32), (0 ≤ Int32.toInt pl_wanted' ∧ Int32.toInt pl_wanted' ≤ 65535) → (∀ k : Nat, 0 ≤ Int32.toInt (pl_near' k) ∧ Int32.toInt (pl_near' k) ≤ 65535) → (0 ≤ Int32.toInt ro_size' ∧ Int32.toInt ro_size' ≤ 16) → post r pl_wanted' pl_near' ro_size' ro_numbers') (hK33 : ∀ (x1 : Int32) (x2 : Int32) (x3 : Int32) (x4 : Int32) (oX : Int32) (rX : Nat → Int32) (qF : Int32) (jJ : Nat → Int32), (0 ≤ Int32.toInt x1 ∧ Int32.toInt x1 ≤ 8) → (0 ≤ Int32.toInt x2 ∧ Int32.toInt x2 ≤ 255) → (1 ≤ Int32.toInt x4 ∧ Int32.toInt x4 ≤ 256) → (0 ≤ Int32.toInt oX ∧ Int32.toInt oX ≤ 65535) → (∀ k : Nat, 0 ≤ Int32.toInt (rX k) ∧ Int32.toInt (rX k) ≤ 65535) → (0 ≤ Int32.toInt qF ∧ Int32.toInt qF ≤ 16) → (256 - Int32.toInt x4 < n33) → K33 x1 x2 x3 x4 oX rX qF jJ) (x1 x2 x3 x4 oX : Int32) (rX : Nat → Int32) (qF : Int32) (jJ : Nat → Int32) (h_x1 : 0 ≤ Int32.toInt x1 ∧ Int32.toInt x1 ≤ 8) (h_x2 : 0 ≤ Int32.toInt x2 ∧ Int32.toInt x2 ≤ 255) (h_x4 : 1 ≤ Int32.toInt x4 ∧ Int32.toInt x4 ≤ 255) (h_pl_wanted : 0 ≤ Int32.toInt oX ∧ Int32.toInt oX ≤ 65535) (h_pl_near : ∀ k : Nat, 0 ≤ Int32.toInt (rX k) ∧ Int32.toInt (rX k) ≤ 65535) (h_ro_size : 0 ≤ Int32.toInt qF ∧ Int32.toInt qF ≤ 16) (hn33 : 256 - Int32.toInt x4 ≤ n33) : ws_X9_birds_92 post K33 bZ bD wD gF pE qA nJ nY dQ jC eO eW dO fY jD x1 x2 x3 x4 oX rX qF jJ := by
  have l0 := li_1
  intro v1 ev1
  have f2 : Int32.toInt (x4 + 1) = Int32.toInt x4 + Int32.toInt (1 : Int32) := ta_add _ _ (by omega)
  rw [← ev1] at f2
  have f3 := tp_r x3
  exact hK33 x1 x2 x3 v1 oX rX qF jJ h_x1 h_x2 (by omega) h_pl_wanted h_pl_near h_ro_size (by omega)
set_option maxHeartbeats 8000000 in
set_option maxRecDepth 200000 in
theorem ts_X9_birds_86 {post : Int32 → Int32 → (Nat → Int32) → Int32 → (Nat → Int32) → Prop} {K33 : Int32 → Int32 → Int32 → Int32 → Int32 → (Nat → Int32) → Int32 → (Nat → Int32) → Prop} {n33 : Int} (bZ bD : Int32) (wD gF pE qA nJ nY dQ : Nat → Int32) (jC eO eW dO fY jD : Int32) (h_tr_fruits : 0 ≤ Int32.toInt bZ ∧ Int32.toInt bZ ≤ 16) (h_tr_standings : 0 ≤ Int32.toInt bD ∧ Int32.toInt bD ≤ 8) (h_no_today : 0 ≤ Int32.toInt jD ∧ Int32.toInt jD ≤ 9) (hpost : ∀ (r : Int32) (pl_wanted' : Int32) (pl_near' : Nat → Int32) (ro_size' : Int32) (ro_numbers' : Nat → Int32), (0 ≤ Int32.toInt pl_wanted' ∧ Int32.toInt pl_wanted' ≤ 65535) → (∀ k : Nat, 0 ≤ Int32.toInt (pl_near' k) ∧ Int32.toInt (pl_near' k) ≤ 65535) → (0 ≤ Int32.toInt ro_size' ∧ Int32.toInt ro_size' ≤ 16) → post r pl_wanted' pl_near' ro_size' ro_numbers') (hK33 : ∀ (x1 : Int32) (x2 : Int32) (x3 : Int32) (x4 : Int32) (oX : Int32) (rX : Nat → Int32) (qF : Int32) (jJ : Nat → Int32), (0 ≤ Int32.toInt x1 ∧ Int32.toInt x1 ≤ 8) → (0 ≤ Int32.toInt x2 ∧ Int32.toInt x2 ≤ 255) → (1 ≤ Int32.toInt x4 ∧ Int32.toInt x4 ≤ 256) → (0 ≤ Int32.toInt oX ∧ Int32.toInt oX ≤ 65535) → (∀ k : Nat, 0 ≤ Int32.toInt (rX k) ∧ Int32.toInt (rX k) ≤ 65535) → (0 ≤ Int32.toInt qF ∧ Int32.toInt qF ≤ 16) → (256 - Int32.toInt x4 < n33) → K33 x1 x2 x3 x4 oX rX qF jJ) (x1 x4 x5 oX : Int32) (rX : Nat → Int32) (qF : Int32) (jJ : Nat → Int32) (h_x1 : 0 ≤ Int32.toInt x1 ∧ Int32.toInt x1 ≤ 8) (h_x4 : 1 ≤ Int32.toInt x4 ∧ Int32.toInt x4 ≤ 255) (h_pl_wanted : 0 ≤ Int32.toInt oX ∧ Int32.toInt oX ≤ 65535) (h_pl_near : ∀ k : Nat, 0 ≤ Int32.toInt (rX k) ∧ Int32.toInt (rX k) ≤ 65535) (h_ro_size : 0 ≤ Int32.toInt qF ∧ Int32.toInt qF ≤ 16) (hn33 : 256 - Int32.toInt x4 ≤ n33) : ws_X9_birds_86 post K33 bZ bD wD gF pE qA nJ nY dQ jC eO eW dO fY jD x1 x4 x5 oX rX qF jJ := by
  have f4 := tp_r x5
  exact ts_X9_birds_92 bZ bD wD gF pE qA nJ nY dQ jC eO eW dO fY jD h_tr_fruits h_tr_standings h_no_today hpost hK33 x1 x4 x5 x4 oX rX qF jJ h_x1 (by omega) h_x4 h_pl_wanted h_pl_near h_ro_size hn33
set_option maxHeartbeats 8000000 in
set_option maxRecDepth 200000 in
theorem ts_X9_birds_33 {post : Int32 → Int32 → (Nat → Int32) → Int32 → (Nat → Int32) → Prop} {next : Int32 → Int32 → Int32 → Int32 → Int32 → (Nat → Int32) → Int32 → (Nat → Int32) → Prop} {n33 : Int} (bZ bD : Int32) (wD gF pE qA nJ nY dQ : Nat → Int32) (jC eO eW dO fY jD : Int32) (h_tr_fruits : 0 ≤ Int32.toInt bZ ∧ Int32.toInt bZ ≤ 16) (h_tr_standings : 0 ≤ Int32.toInt bD ∧ Int32.toInt bD ≤ 8) (h_no_today : 0 ≤ Int32.toInt jD ∧ Int32.toInt jD ≤ 9) (hpost : ∀ (r : Int32) (pl_wanted' : Int32) (pl_near' : Nat → Int32) (ro_size' : Int32) (ro_numbers' : Nat → Int32), (0 ≤ Int32.toInt pl_wanted' ∧ Int32.toInt pl_wanted' ≤ 65535) → (∀ k : Nat, 0 ≤ Int32.toInt (pl_near' k) ∧ Int32.toInt (pl_near' k) ≤ 65535) → (0 ≤ Int32.toInt ro_size' ∧ Int32.toInt ro_size' ≤ 16) → post r pl_wanted' pl_near' ro_size' ro_numbers') (hKn : ∀ (x1 : Int32) (x2 : Int32) (x3 : Int32) (x4 : Int32) (oX : Int32) (rX : Nat → Int32) (qF : Int32) (jJ : Nat → Int32), (0 ≤ Int32.toInt x1 ∧ Int32.toInt x1 ≤ 8) → (0 ≤ Int32.toInt x2 ∧ Int32.toInt x2 ≤ 255) → (1 ≤ Int32.toInt x4 ∧ Int32.toInt x4 ≤ 256) → (0 ≤ Int32.toInt oX ∧ Int32.toInt oX ≤ 65535) → (∀ k : Nat, 0 ≤ Int32.toInt (rX k) ∧ Int32.toInt (rX k) ≤ 65535) → (0 ≤ Int32.toInt qF ∧ Int32.toInt qF ≤ 16) → (256 - Int32.toInt x4 < n33) → next x1 x2 x3 x4 oX rX qF jJ) (x1 x2 x3 x4 oX : Int32) (rX : Nat → Int32) (qF : Int32) (jJ : Nat → Int32) (h_x1 : 0 ≤ Int32.toInt x1 ∧ Int32.toInt x1 ≤ 8) (h_x2 : 0 ≤ Int32.toInt x2 ∧ Int32.toInt x2 ≤ 255) (h_x4 : 1 ≤ Int32.toInt x4 ∧ Int32.toInt x4 ≤ 256) (h_pl_wanted : 0 ≤ Int32.toInt oX ∧ Int32.toInt oX ≤ 65535) (h_pl_near : ∀ k : Nat, 0 ≤ Int32.toInt (rX k) ∧ Int32.toInt (rX k) ≤ 65535) (h_ro_size : 0 ≤ Int32.toInt qF ∧ Int32.toInt qF ≤ 16) (hn33 : 256 - Int32.toInt x4 ≤ n33) : ws_X9_birds_33 post next bZ bD wD gF pE qA nJ nY dQ jC eO eW dO fY jD x1 x2 x3 x4 oX rX qF jJ := by
  have l0 := li_0
  have l1 := li_1
  have l2 := li_1431655765
  have l3 := li_16
  have l4 := li_252645135
  have l5 := li_63
  have l6 := li_858993459
  intro v5 ev5
  have f6 := ti_shl1 8 256 bD (by decide) (by omega)
  have hv5 := congrArg Int32.toInt ev5
  have f8 : Int32.toInt (v5 - 1) = Int32.toInt v5 - Int32.toInt (1 : Int32) := ta_sub _ _ (by omega)
  refine And.intro (fun c7 => ?_) (fun c7 => ?_)
  · skip
    have c7 := (fa_lt _ _).mp c7
    refine t_X5_reachedBy h_x2 h_pl_near h_tr_standings (fun r9 h_r9 => ?_)
    intro v10 ev10
    have f12 := ti_andl oX (r9 ^^^ (-1)) (by omega)
    have hv10 := congrArg Int32.toInt ev10
    refine And.intro (fun h9 => absurd h9 (by decide)) (fun _ => ?_)
    refine And.intro (t_in (by omega)) ?_
    intro v13 ev13
    have f14 : Int32.toInt (0 + 1) = Int32.toInt (0 : Int32) + Int32.toInt (1 : Int32) := ta_add _ _ (by omega)
    rw [← ev13] at f14
    refine And.intro (fun c15 => ?_) (fun c15 => ?_)
    · skip
      have c15 := (fa_le _ _).mp c15
      exfalso; omega
    · skip
      have c15 := mt (fa_le _ _).mpr c15
      refine And.intro (t_in (by omega)) ?_
      intro v16 ev16
      have f17 : Int32.toInt (v13 + 1) = Int32.toInt v13 + Int32.toInt (1 : Int32) := ta_add _ _ (by omega)
      rw [← ev16] at f17
      exact hpost _ _ _ _ _ h_pl_wanted h_pl_near (by omega)
  · skip
    have c7 := mt (fa_lt _ _).mpr c7
    intro v18 ev18
    intro v19 ev19
    have f21 := ti_andr v18 1431655765 (by omega)
    have f20 : Int32.toInt (x4 - (v18 &&& 1431655765)) = Int32.toInt x4 - Int32.toInt (v18 &&& 1431655765) := ta_sub _ _ (by omega)
    rw [← ev19] at f20
    intro v22 ev22
    have f23 := ti_andr v19 858993459 (by omega)
    have hv22 := congrArg Int32.toInt ev22
    intro v24 ev24
    intro v25 ev25
    have f27 := ti_andr v24 858993459 (by omega)
    have f26 : Int32.toInt (v22 + (v24 &&& 858993459)) = Int32.toInt v22 + Int32.toInt (v24 &&& 858993459) := ta_add _ _ (by omega)
    rw [← ev25] at f26
    intro v28 ev28
    have hv28 := congrArg Int32.toInt ev28
    intro v30 ev30
    have f31 := ti_andr v28 252645135 (by omega)
    have hv30 := congrArg Int32.toInt ev30
    intro v32 ev32
    have hv32 := congrArg Int32.toInt ev32
    intro v34 ev34
    have hv34 := congrArg Int32.toInt ev34
    have f37 := ti_andr v34 63 (by omega)
    refine And.intro (fun c36 => ?_) (fun c36 => ?_)
    · skip
      have c36 := (fa_lt _ _).mp c36
      have f38 := tp_r x3
      exact ts_X9_birds_92 bZ bD wD gF pE qA nJ nY dQ jC eO eW dO fY jD h_tr_fruits h_tr_standings h_no_today hpost hKn x1 x2 x3 x4 oX rX qF jJ h_x1 h_x2 (by omega) h_pl_wanted h_pl_near h_ro_size hn33
    · skip
      have c36 := mt (fa_lt _ _).mpr c36
      refine t_X5_reachedBy (by omega) h_pl_near h_tr_standings (fun r39 h_r39 => ?_)
      intro v40 ev40
      have f42 := ti_andl oX (r39 ^^^ (-1)) (by omega)
      have hv40 := congrArg Int32.toInt ev40
      refine t_X3_worthOf h_tr_fruits (fun r43 => ?_)
      have f45 := tp_r r43
      have f46 := tp_r x3
      refine And.intro (fun c44 => ?_) (fun c44 => ?_)
      · skip
        have c44 := (fa_lt _ _).mp c44
        exact ts_X9_birds_86 bZ bD wD gF pE qA nJ nY dQ jC eO eW dO fY jD h_tr_fruits h_tr_standings h_no_today hpost hKn x1 x4 r43 oX rX qF jJ h_x1 (by omega) h_pl_wanted h_pl_near h_ro_size hn33
      · skip
        have c44 := mt (fa_lt _ _).mpr c44
        refine And.intro (fun c47 => ?_) (fun c47 => ?_)
        · skip
          have c47 := mt (fa_eq _ _).mpr c47
          exact ts_X9_birds_92 bZ bD wD gF pE qA nJ nY dQ jC eO eW dO fY jD h_tr_fruits h_tr_standings h_no_today hpost hKn x1 x2 x3 x4 oX rX qF jJ h_x1 h_x2 (by omega) h_pl_wanted h_pl_near h_ro_size hn33
        · skip
          have c47 := (fa_eq _ _).mp c47
          refine t_X9_isFewer (by omega) h_x2 (fun r48 h_r48 => ?_)
          refine And.intro (fun c49 => ?_) (fun c49 => ?_)
          · skip
            have c49 := (fa_eq _ _).mp c49
            exact ts_X9_birds_92 bZ bD wD gF pE qA nJ nY dQ jC eO eW dO fY jD h_tr_fruits h_tr_standings h_no_today hpost hKn x1 x2 x3 x4 oX rX qF jJ h_x1 h_x2 (by omega) h_pl_wanted h_pl_near h_ro_size hn33
          · skip
            have c49 := mt (fa_eq _ _).mpr c49
            exact ts_X9_birds_86 bZ bD wD gF pE qA nJ nY dQ jC eO eW dO fY jD h_tr_fruits h_tr_standings h_no_today hpost hKn x1 x4 r43 oX rX qF jJ h_x1 (by omega) h_pl_wanted h_pl_near h_ro_size hn33
set_option maxHeartbeats 8000000 in
set_option maxRecDepth 200000 in
theorem tb_X9_birds_33 {post : Int32 → Int32 → (Nat → Int32) → Int32 → (Nat → Int32) → Prop} (bZ bD : Int32) (wD gF pE qA nJ nY dQ : Nat → Int32) (jC eO eW dO fY jD : Int32) (h_tr_fruits : 0 ≤ Int32.toInt bZ ∧ Int32.toInt bZ ≤ 16) (h_tr_standings : 0 ≤ Int32.toInt bD ∧ Int32.toInt bD ≤ 8) (h_no_today : 0 ≤ Int32.toInt jD ∧ Int32.toInt jD ≤ 9) (hpost : ∀ (r : Int32) (pl_wanted' : Int32) (pl_near' : Nat → Int32) (ro_size' : Int32) (ro_numbers' : Nat → Int32), (0 ≤ Int32.toInt pl_wanted' ∧ Int32.toInt pl_wanted' ≤ 65535) → (∀ k : Nat, 0 ≤ Int32.toInt (pl_near' k) ∧ Int32.toInt (pl_near' k) ≤ 65535) → (0 ≤ Int32.toInt ro_size' ∧ Int32.toInt ro_size' ≤ 16) → post r pl_wanted' pl_near' ro_size' ro_numbers') : ∀ (n : Nat) (x1 x2 x3 x4 oX : Int32) (rX : Nat → Int32) (qF : Int32) (jJ : Nat → Int32), (0 ≤ Int32.toInt x1 ∧ Int32.toInt x1 ≤ 8) → (0 ≤ Int32.toInt x2 ∧ Int32.toInt x2 ≤ 255) → (1 ≤ Int32.toInt x4 ∧ Int32.toInt x4 ≤ 256) → (0 ≤ Int32.toInt oX ∧ Int32.toInt oX ≤ 65535) → (∀ k : Nat, 0 ≤ Int32.toInt (rX k) ∧ Int32.toInt (rX k) ≤ 65535) → (0 ≤ Int32.toInt qF ∧ Int32.toInt qF ≤ 16) → (256 - Int32.toInt x4 < (n : Int)) → wb_X9_birds_33 post bZ bD wD gF pE qA nJ nY dQ jC eO eW dO fY jD n x1 x2 x3 x4 oX rX qF jJ := by
  intro n
  induction n with
  | zero =>
    intro x1 x2 x3 x4 oX rX qF jJ h_x1 h_x2 h_x4 h_pl_wanted h_pl_near h_ro_size hm
    exfalso; omega
  | succ n ih =>
    intro x1 x2 x3 x4 oX rX qF jJ h_x1 h_x2 h_x4 h_pl_wanted h_pl_near h_ro_size hm
    exact ts_X9_birds_33 bZ bD wD gF pE qA nJ nY dQ jC eO eW dO fY jD h_tr_fruits h_tr_standings h_no_today hpost ih x1 x2 x3 x4 oX rX qF jJ h_x1 h_x2 h_x4 h_pl_wanted h_pl_near h_ro_size (by omega)
set_option maxHeartbeats 8000000 in
set_option maxRecDepth 200000 in
theorem t_X9_birds {post : Int32 → Int32 → (Nat → Int32) → Int32 → (Nat → Int32) → Prop} {p0 oX : Int32} {rX : Nat → Int32} {bZ bD : Int32} {wD gF pE qA nJ nY dQ : Nat → Int32} {jC eO eW dO fY jD qF : Int32} {jJ : Nat → Int32} (h_pl_wanted : 0 ≤ Int32.toInt oX ∧ Int32.toInt oX ≤ 65535) (h_pl_near : ∀ k : Nat, 0 ≤ Int32.toInt (rX k) ∧ Int32.toInt (rX k) ≤ 65535) (h_tr_fruits : 0 ≤ Int32.toInt bZ ∧ Int32.toInt bZ ≤ 16) (h_tr_standings : 0 ≤ Int32.toInt bD ∧ Int32.toInt bD ≤ 8) (h_no_today : 0 ≤ Int32.toInt jD ∧ Int32.toInt jD ≤ 9) (h_ro_size : 0 ≤ Int32.toInt qF ∧ Int32.toInt qF ≤ 16) (hpost : ∀ (r : Int32) (pl_wanted' : Int32) (pl_near' : Nat → Int32) (ro_size' : Int32) (ro_numbers' : Nat → Int32), (0 ≤ Int32.toInt pl_wanted' ∧ Int32.toInt pl_wanted' ≤ 65535) → (∀ k : Nat, 0 ≤ Int32.toInt (pl_near' k) ∧ Int32.toInt (pl_near' k) ≤ 65535) → (0 ≤ Int32.toInt ro_size' ∧ Int32.toInt ro_size' ≤ 16) → post r pl_wanted' pl_near' ro_size' ro_numbers') : wp_X9_birds post p0 oX rX bZ bD wD gF pE qA nJ nY dQ jC eO eW dO fY jD qF jJ := by
  have l0 := li_0
  have l1 := li_1
  have l2 := li_8
  have f51 := tp_r p0
  refine And.intro (fun c50 => ?_) (fun c50 => ?_)
  · skip
    have c50 := (fa_lt _ _).mp c50
    exact hpost _ _ _ _ _ h_pl_wanted h_pl_near h_ro_size
  · skip
    have c50 := mt (fa_lt _ _).mpr c50
    refine And.intro (fun c52 => ?_) (fun c52 => ?_)
    · skip
      have c52 := (fa_le _ _).mp c52
      refine t_X5_lookAs h_no_today h_pl_wanted h_pl_near h_tr_fruits h_tr_standings (fun pl_wanted_53 pl_near_54 h_pl_wanted_53 h_pl_near_54 => ?_)
      refine t_X5_reachedBy (by omega) h_pl_near_54 h_tr_standings (fun r55 h_r55 => ?_)
      intro v56 ev56
      have f58 := ti_andl pl_wanted_53 (r55 ^^^ (-1)) (by omega)
      have hv56 := congrArg Int32.toInt ev56
      refine t_X3_worthOf h_tr_fruits (fun r59 => ?_)
      have f60 := tp_r r59
      exact ⟨257, tb_X9_birds_33 bZ bD wD gF pE qA nJ nY dQ jC eO eW dO fY jD h_tr_fruits h_tr_standings h_no_today hpost _ p0 0 r59 1 pl_wanted_53 pl_near_54 qF jJ (by omega) (by omega) (by omega) h_pl_wanted_53 h_pl_near_54 h_ro_size (by omega)⟩
    · skip
      have c52 := mt (fa_le _ _).mpr c52
      exact hpost _ _ _ _ _ h_pl_wanted h_pl_near h_ro_size
set_option maxHeartbeats 8000000 in
set_option maxRecDepth 200000 in
theorem ts_X9_next_80 {post : Int32 → Int32 → (Nat → Int32) → Int32 → (Nat → Int32) → Prop} {K28 : Int32 → Int32 → Int32 → Int32 → Int32 → (Nat → Int32) → Int32 → (Nat → Int32) → Prop} {n28 : Int} (bZ bD : Int32) (wD gF pE qA nJ nY dQ : Nat → Int32) (jC eO eW dO fY jD : Int32) (h_tr_fruits : 0 ≤ Int32.toInt bZ ∧ Int32.toInt bZ ≤ 16) (h_tr_standings : 0 ≤ Int32.toInt bD ∧ Int32.toInt bD ≤ 8) (h_no_today : 0 ≤ Int32.toInt jD ∧ Int32.toInt jD ≤ 9) (hpost : ∀ (r : Int32) (pl_wanted' : Int32) (pl_near' : Nat → Int32) (ro_size' : Int32) (ro_numbers' : Nat → Int32), (-2 ≤ Int32.toInt r ∧ Int32.toInt r ≤ 7) → (0 ≤ Int32.toInt pl_wanted' ∧ Int32.toInt pl_wanted' ≤ 65535) → (∀ k : Nat, 0 ≤ Int32.toInt (pl_near' k) ∧ Int32.toInt (pl_near' k) ≤ 65535) → (0 ≤ Int32.toInt ro_size' ∧ Int32.toInt ro_size' ≤ 16) → post r pl_wanted' pl_near' ro_size' ro_numbers') (hK28 : ∀ (x1 : Int32) (x2 : Int32) (x3 : Int32) (x4 : Int32) (oX : Int32) (rX : Nat → Int32) (qF : Int32) (jJ : Nat → Int32), (0 ≤ Int32.toInt x1 ∧ Int32.toInt x1 ≤ 255) → (-2 ≤ Int32.toInt x2 ∧ Int32.toInt x2 ≤ 7) → (0 ≤ Int32.toInt x4 ∧ Int32.toInt x4 ≤ 8) → (0 ≤ Int32.toInt oX ∧ Int32.toInt oX ≤ 65535) → (∀ k : Nat, 0 ≤ Int32.toInt (rX k) ∧ Int32.toInt (rX k) ≤ 65535) → (0 ≤ Int32.toInt qF ∧ Int32.toInt qF ≤ 16) → (8 - Int32.toInt x4 < n28) → K28 x1 x2 x3 x4 oX rX qF jJ) (x1 x2 x3 x4 oX : Int32) (rX : Nat → Int32) (qF : Int32) (jJ : Nat → Int32) (h_x1 : 0 ≤ Int32.toInt x1 ∧ Int32.toInt x1 ≤ 255) (h_x2 : -2 ≤ Int32.toInt x2 ∧ Int32.toInt x2 ≤ 7) (h_x4 : 0 ≤ Int32.toInt x4 ∧ Int32.toInt x4 ≤ 7) (h_pl_wanted : 0 ≤ Int32.toInt oX ∧ Int32.toInt oX ≤ 65535) (h_pl_near : ∀ k : Nat, 0 ≤ Int32.toInt (rX k) ∧ Int32.toInt (rX k) ≤ 65535) (h_ro_size : 0 ≤ Int32.toInt qF ∧ Int32.toInt qF ≤ 16) (hn28 : 8 - Int32.toInt x4 ≤ n28) : ws_X9_next_80 post K28 bZ bD wD gF pE qA nJ nY dQ jC eO eW dO fY jD x1 x2 x3 x4 oX rX qF jJ := by
  have l0 := li_1
  intro v1 ev1
  have f2 : Int32.toInt (x4 + 1) = Int32.toInt x4 + Int32.toInt (1 : Int32) := ta_add _ _ (by omega)
  rw [← ev1] at f2
  have f3 := tp_r x3
  exact hK28 x1 x2 x3 v1 oX rX qF jJ h_x1 h_x2 (by omega) h_pl_wanted h_pl_near h_ro_size (by omega)
set_option maxHeartbeats 8000000 in
set_option maxRecDepth 200000 in
theorem ts_X9_next_74 {post : Int32 → Int32 → (Nat → Int32) → Int32 → (Nat → Int32) → Prop} {K28 : Int32 → Int32 → Int32 → Int32 → Int32 → (Nat → Int32) → Int32 → (Nat → Int32) → Prop} {n28 : Int} (bZ bD : Int32) (wD gF pE qA nJ nY dQ : Nat → Int32) (jC eO eW dO fY jD : Int32) (h_tr_fruits : 0 ≤ Int32.toInt bZ ∧ Int32.toInt bZ ≤ 16) (h_tr_standings : 0 ≤ Int32.toInt bD ∧ Int32.toInt bD ≤ 8) (h_no_today : 0 ≤ Int32.toInt jD ∧ Int32.toInt jD ≤ 9) (hpost : ∀ (r : Int32) (pl_wanted' : Int32) (pl_near' : Nat → Int32) (ro_size' : Int32) (ro_numbers' : Nat → Int32), (-2 ≤ Int32.toInt r ∧ Int32.toInt r ≤ 7) → (0 ≤ Int32.toInt pl_wanted' ∧ Int32.toInt pl_wanted' ≤ 65535) → (∀ k : Nat, 0 ≤ Int32.toInt (pl_near' k) ∧ Int32.toInt (pl_near' k) ≤ 65535) → (0 ≤ Int32.toInt ro_size' ∧ Int32.toInt ro_size' ≤ 16) → post r pl_wanted' pl_near' ro_size' ro_numbers') (hK28 : ∀ (x1 : Int32) (x2 : Int32) (x3 : Int32) (x4 : Int32) (oX : Int32) (rX : Nat → Int32) (qF : Int32) (jJ : Nat → Int32), (0 ≤ Int32.toInt x1 ∧ Int32.toInt x1 ≤ 255) → (-2 ≤ Int32.toInt x2 ∧ Int32.toInt x2 ≤ 7) → (0 ≤ Int32.toInt x4 ∧ Int32.toInt x4 ≤ 8) → (0 ≤ Int32.toInt oX ∧ Int32.toInt oX ≤ 65535) → (∀ k : Nat, 0 ≤ Int32.toInt (rX k) ∧ Int32.toInt (rX k) ≤ 65535) → (0 ≤ Int32.toInt qF ∧ Int32.toInt qF ≤ 16) → (8 - Int32.toInt x4 < n28) → K28 x1 x2 x3 x4 oX rX qF jJ) (x1 x4 x5 oX : Int32) (rX : Nat → Int32) (qF : Int32) (jJ : Nat → Int32) (h_x1 : 0 ≤ Int32.toInt x1 ∧ Int32.toInt x1 ≤ 255) (h_x4 : 0 ≤ Int32.toInt x4 ∧ Int32.toInt x4 ≤ 7) (h_pl_wanted : 0 ≤ Int32.toInt oX ∧ Int32.toInt oX ≤ 65535) (h_pl_near : ∀ k : Nat, 0 ≤ Int32.toInt (rX k) ∧ Int32.toInt (rX k) ≤ 65535) (h_ro_size : 0 ≤ Int32.toInt qF ∧ Int32.toInt qF ≤ 16) (hn28 : 8 - Int32.toInt x4 ≤ n28) : ws_X9_next_74 post K28 bZ bD wD gF pE qA nJ nY dQ jC eO eW dO fY jD x1 x4 x5 oX rX qF jJ := by
  have f4 := tp_r x5
  exact ts_X9_next_80 bZ bD wD gF pE qA nJ nY dQ jC eO eW dO fY jD h_tr_fruits h_tr_standings h_no_today hpost hK28 x1 x4 x5 x4 oX rX qF jJ h_x1 (by omega) h_x4 h_pl_wanted h_pl_near h_ro_size hn28
set_option maxHeartbeats 8000000 in
set_option maxRecDepth 200000 in
theorem ts_X9_next_28 {post : Int32 → Int32 → (Nat → Int32) → Int32 → (Nat → Int32) → Prop} {next : Int32 → Int32 → Int32 → Int32 → Int32 → (Nat → Int32) → Int32 → (Nat → Int32) → Prop} {n28 : Int} (bZ bD : Int32) (wD gF pE qA nJ nY dQ : Nat → Int32) (jC eO eW dO fY jD : Int32) (h_tr_fruits : 0 ≤ Int32.toInt bZ ∧ Int32.toInt bZ ≤ 16) (h_tr_standings : 0 ≤ Int32.toInt bD ∧ Int32.toInt bD ≤ 8) (h_no_today : 0 ≤ Int32.toInt jD ∧ Int32.toInt jD ≤ 9) (hpost : ∀ (r : Int32) (pl_wanted' : Int32) (pl_near' : Nat → Int32) (ro_size' : Int32) (ro_numbers' : Nat → Int32), (-2 ≤ Int32.toInt r ∧ Int32.toInt r ≤ 7) → (0 ≤ Int32.toInt pl_wanted' ∧ Int32.toInt pl_wanted' ≤ 65535) → (∀ k : Nat, 0 ≤ Int32.toInt (pl_near' k) ∧ Int32.toInt (pl_near' k) ≤ 65535) → (0 ≤ Int32.toInt ro_size' ∧ Int32.toInt ro_size' ≤ 16) → post r pl_wanted' pl_near' ro_size' ro_numbers') (hKn : ∀ (x1 : Int32) (x2 : Int32) (x3 : Int32) (x4 : Int32) (oX : Int32) (rX : Nat → Int32) (qF : Int32) (jJ : Nat → Int32), (0 ≤ Int32.toInt x1 ∧ Int32.toInt x1 ≤ 255) → (-2 ≤ Int32.toInt x2 ∧ Int32.toInt x2 ≤ 7) → (0 ≤ Int32.toInt x4 ∧ Int32.toInt x4 ≤ 8) → (0 ≤ Int32.toInt oX ∧ Int32.toInt oX ≤ 65535) → (∀ k : Nat, 0 ≤ Int32.toInt (rX k) ∧ Int32.toInt (rX k) ≤ 65535) → (0 ≤ Int32.toInt qF ∧ Int32.toInt qF ≤ 16) → (8 - Int32.toInt x4 < n28) → next x1 x2 x3 x4 oX rX qF jJ) (x1 x2 x3 x4 oX : Int32) (rX : Nat → Int32) (qF : Int32) (jJ : Nat → Int32) (h_x1 : 0 ≤ Int32.toInt x1 ∧ Int32.toInt x1 ≤ 255) (h_x2 : -2 ≤ Int32.toInt x2 ∧ Int32.toInt x2 ≤ 7) (h_x4 : 0 ≤ Int32.toInt x4 ∧ Int32.toInt x4 ≤ 8) (h_pl_wanted : 0 ≤ Int32.toInt oX ∧ Int32.toInt oX ≤ 65535) (h_pl_near : ∀ k : Nat, 0 ≤ Int32.toInt (rX k) ∧ Int32.toInt (rX k) ≤ 65535) (h_ro_size : 0 ≤ Int32.toInt qF ∧ Int32.toInt qF ≤ 16) (hn28 : 8 - Int32.toInt x4 ≤ n28) : ws_X9_next_28 post next bZ bD wD gF pE qA nJ nY dQ jC eO eW dO fY jD x1 x2 x3 x4 oX rX qF jJ := by
  have l0 := li_0
  have l1 := li_1
  have l2 := li_16
  refine And.intro (fun c5 => ?_) (fun c5 => ?_)
  · skip
    have c5 := (fa_le _ _).mp c5
    refine And.intro (fun c6 => ?_) (fun c6 => ?_)
    · skip
      have c6 := (fa_lt _ _).mp c6
      exact hpost _ _ _ _ _ h_x2 h_pl_wanted h_pl_near h_ro_size
    · skip
      have c6 := mt (fa_lt _ _).mpr c6
      refine t_X5_reachedBy h_x1 h_pl_near h_tr_standings (fun r7 h_r7 => ?_)
      intro v8 ev8
      have f10 := ti_andl oX (r7 ^^^ (-1)) (by omega)
      have hv8 := congrArg Int32.toInt ev8
      refine t_X3_worthOf h_tr_fruits (fun r11 => ?_)
      refine And.intro (fun h9 => absurd h9 (by decide)) (fun _ => ?_)
      refine And.intro (t_in (by omega)) ?_
      intro v12 ev12
      have f13 : Int32.toInt (0 + 1) = Int32.toInt (0 : Int32) + Int32.toInt (1 : Int32) := ta_add _ _ (by omega)
      rw [← ev12] at f13
      refine And.intro (fun c14 => ?_) (fun c14 => ?_)
      · skip
        have c14 := (fa_le _ _).mp c14
        exfalso; omega
      · skip
        have c14 := mt (fa_le _ _).mpr c14
        refine And.intro (t_in (by omega)) ?_
        intro v15 ev15
        have f16 : Int32.toInt (v12 + 1) = Int32.toInt v12 + Int32.toInt (1 : Int32) := ta_add _ _ (by omega)
        rw [← ev15] at f16
        exact hpost _ _ _ _ _ h_x2 h_pl_wanted h_pl_near (by omega)
  · skip
    have c5 := mt (fa_le _ _).mpr c5
    intro v17 ev17
    have f18 := ti_shr x1 x4 (by omega)
    have hv17 := congrArg Int32.toInt ev17
    have f20 := ti_andr v17 1 (by omega)
    have f21 := ti_andl v17 1 (by omega)
    refine And.intro (fun c19 => ?_) (fun c19 => ?_)
    · skip
      have c19 := mt (fa_eq _ _).mpr c19
      have f22 := tp_r x3
      exact ts_X9_next_80 bZ bD wD gF pE qA nJ nY dQ jC eO eW dO fY jD h_tr_fruits h_tr_standings h_no_today hpost hKn x1 x2 x3 x4 oX rX qF jJ h_x1 h_x2 (by omega) h_pl_wanted h_pl_near h_ro_size hn28
    · skip
      have c19 := (fa_eq _ _).mp c19
      intro v23 ev23
      have f25 := ti_shl1 7 128 x4 (by decide) (by omega)
      have f24 := ti_or 8 256 x1 (1 <<< (x4 &&& 31)) (by decide) (by omega) (by omega)
      have hv23 := congrArg Int32.toInt ev23
      refine t_X5_reachedBy (by omega) h_pl_near h_tr_standings (fun r26 h_r26 => ?_)
      intro v27 ev27
      have f29 := ti_andl oX (r26 ^^^ (-1)) (by omega)
      have hv27 := congrArg Int32.toInt ev27
      refine t_X3_worthOf h_tr_fruits (fun r30 => ?_)
      refine And.intro (fun c31 => ?_) (fun c31 => ?_)
      · skip
        have c31 := (fa_lt _ _).mp c31
        have f32 := tp_r r30
        exact ts_X9_next_74 bZ bD wD gF pE qA nJ nY dQ jC eO eW dO fY jD h_tr_fruits h_tr_standings h_no_today hpost hKn x1 x4 r30 oX rX qF jJ h_x1 (by omega) h_pl_wanted h_pl_near h_ro_size hn28
      · skip
        have c31 := mt (fa_lt _ _).mpr c31
        have f34 := tp_r r30
        have f35 := tp_r x3
        refine And.intro (fun c33 => ?_) (fun c33 => ?_)
        · skip
          have c33 := (fa_le _ _).mp c33
          exact ts_X9_next_80 bZ bD wD gF pE qA nJ nY dQ jC eO eW dO fY jD h_tr_fruits h_tr_standings h_no_today hpost hKn x1 x2 x3 x4 oX rX qF jJ h_x1 h_x2 (by omega) h_pl_wanted h_pl_near h_ro_size hn28
        · skip
          have c33 := mt (fa_le _ _).mpr c33
          exact ts_X9_next_74 bZ bD wD gF pE qA nJ nY dQ jC eO eW dO fY jD h_tr_fruits h_tr_standings h_no_today hpost hKn x1 x4 r30 oX rX qF jJ h_x1 (by omega) h_pl_wanted h_pl_near h_ro_size hn28
set_option maxHeartbeats 8000000 in
set_option maxRecDepth 200000 in
theorem tb_X9_next_28 {post : Int32 → Int32 → (Nat → Int32) → Int32 → (Nat → Int32) → Prop} (bZ bD : Int32) (wD gF pE qA nJ nY dQ : Nat → Int32) (jC eO eW dO fY jD : Int32) (h_tr_fruits : 0 ≤ Int32.toInt bZ ∧ Int32.toInt bZ ≤ 16) (h_tr_standings : 0 ≤ Int32.toInt bD ∧ Int32.toInt bD ≤ 8) (h_no_today : 0 ≤ Int32.toInt jD ∧ Int32.toInt jD ≤ 9) (hpost : ∀ (r : Int32) (pl_wanted' : Int32) (pl_near' : Nat → Int32) (ro_size' : Int32) (ro_numbers' : Nat → Int32), (-2 ≤ Int32.toInt r ∧ Int32.toInt r ≤ 7) → (0 ≤ Int32.toInt pl_wanted' ∧ Int32.toInt pl_wanted' ≤ 65535) → (∀ k : Nat, 0 ≤ Int32.toInt (pl_near' k) ∧ Int32.toInt (pl_near' k) ≤ 65535) → (0 ≤ Int32.toInt ro_size' ∧ Int32.toInt ro_size' ≤ 16) → post r pl_wanted' pl_near' ro_size' ro_numbers') : ∀ (n : Nat) (x1 x2 x3 x4 oX : Int32) (rX : Nat → Int32) (qF : Int32) (jJ : Nat → Int32), (0 ≤ Int32.toInt x1 ∧ Int32.toInt x1 ≤ 255) → (-2 ≤ Int32.toInt x2 ∧ Int32.toInt x2 ≤ 7) → (0 ≤ Int32.toInt x4 ∧ Int32.toInt x4 ≤ 8) → (0 ≤ Int32.toInt oX ∧ Int32.toInt oX ≤ 65535) → (∀ k : Nat, 0 ≤ Int32.toInt (rX k) ∧ Int32.toInt (rX k) ≤ 65535) → (0 ≤ Int32.toInt qF ∧ Int32.toInt qF ≤ 16) → (8 - Int32.toInt x4 < (n : Int)) → wb_X9_next_28 post bZ bD wD gF pE qA nJ nY dQ jC eO eW dO fY jD n x1 x2 x3 x4 oX rX qF jJ := by
  intro n
  induction n with
  | zero =>
    intro x1 x2 x3 x4 oX rX qF jJ h_x1 h_x2 h_x4 h_pl_wanted h_pl_near h_ro_size hm
    exfalso; omega
  | succ n ih =>
    intro x1 x2 x3 x4 oX rX qF jJ h_x1 h_x2 h_x4 h_pl_wanted h_pl_near h_ro_size hm
    exact ts_X9_next_28 bZ bD wD gF pE qA nJ nY dQ jC eO eW dO fY jD h_tr_fruits h_tr_standings h_no_today hpost ih x1 x2 x3 x4 oX rX qF jJ h_x1 h_x2 h_x4 h_pl_wanted h_pl_near h_ro_size (by omega)
set_option maxHeartbeats 8000000 in
set_option maxRecDepth 200000 in
theorem t_X9_next {post : Int32 → Int32 → (Nat → Int32) → Int32 → (Nat → Int32) → Prop} {p0 oX : Int32} {rX : Nat → Int32} {bZ bD : Int32} {wD gF pE qA nJ nY dQ : Nat → Int32} {jC eO eW dO fY jD qF : Int32} {jJ : Nat → Int32} (h_pl_wanted : 0 ≤ Int32.toInt oX ∧ Int32.toInt oX ≤ 65535) (h_pl_near : ∀ k : Nat, 0 ≤ Int32.toInt (rX k) ∧ Int32.toInt (rX k) ≤ 65535) (h_tr_fruits : 0 ≤ Int32.toInt bZ ∧ Int32.toInt bZ ≤ 16) (h_tr_standings : 0 ≤ Int32.toInt bD ∧ Int32.toInt bD ≤ 8) (h_no_today : 0 ≤ Int32.toInt jD ∧ Int32.toInt jD ≤ 9) (h_ro_size : 0 ≤ Int32.toInt qF ∧ Int32.toInt qF ≤ 16) (hpost : ∀ (r : Int32) (pl_wanted' : Int32) (pl_near' : Nat → Int32) (ro_size' : Int32) (ro_numbers' : Nat → Int32), (-2 ≤ Int32.toInt r ∧ Int32.toInt r ≤ 7) → (0 ≤ Int32.toInt pl_wanted' ∧ Int32.toInt pl_wanted' ≤ 65535) → (∀ k : Nat, 0 ≤ Int32.toInt (pl_near' k) ∧ Int32.toInt (pl_near' k) ≤ 65535) → (0 ≤ Int32.toInt ro_size' ∧ Int32.toInt ro_size' ≤ 16) → post r pl_wanted' pl_near' ro_size' ro_numbers') : wp_X9_next post p0 oX rX bZ bD wD gF pE qA nJ nY dQ jC eO eW dO fY jD qF jJ := by
  have l0 := li_m1
  have l1 := li_m2
  have l2 := li_0
  have l3 := li_1
  intro v36 ev36
  have f37 := ti_shl1 8 256 bD (by decide) (by omega)
  have hv36 := congrArg Int32.toInt ev36
  refine And.intro (fun c38 => ?_) (fun c38 => ?_)
  · skip
    have c38 := mt (fa_eq _ _).mpr c38
    refine And.intro (fun h9 => absurd h9 (by decide)) (fun _ => ?_)
    exact hpost _ _ _ _ _ (by omega) h_pl_wanted h_pl_near h_ro_size
  · skip
    have c38Z := c38
    have c38 := (fa_eq _ _).mp c38
    have f40 : Int32.toInt (v36 - 1) = Int32.toInt v36 - Int32.toInt (1 : Int32) := ta_sub _ _ (by omega)
    have s41 := ti_subset p0 (v36 - 1) (c38Z) (by omega)
    refine And.intro (fun _ => ?_) (fun h9 => absurd h9 (by decide))
    refine t_X5_lookAs h_no_today h_pl_wanted h_pl_near h_tr_fruits h_tr_standings (fun pl_wanted_42 pl_near_43 h_pl_wanted_42 h_pl_near_43 => ?_)
    exact ⟨10, tb_X9_next_28 bZ bD wD gF pE qA nJ nY dQ jC eO eW dO fY jD h_tr_fruits h_tr_standings h_no_today hpost _ p0 (-2) 0 0 pl_wanted_42 pl_near_43 qF jJ (by omega) (by omega) (by omega) h_pl_wanted_42 h_pl_near_43 h_ro_size (by omega)⟩
set_option maxHeartbeats 8000000 in
set_option maxRecDepth 200000 in
theorem ts_X3_waySeconds_67 {post : Int32 → Prop} {K21 : Int32 → Int32 → Int32 → Int32 → Int32 → Int32 → Prop} {n21 : Int} (bD : Int32) (nJ dQ : Nat → Int32) (h_tr_standings : 0 ≤ Int32.toInt bD ∧ Int32.toInt bD ≤ 8) (hpost : ∀ (r : Int32) , post r) (hK21 : ∀ (x1 : Int32) (x2 : Int32) (x3 : Int32) (x4 : Int32) (x5 : Int32) (x6 : Int32), (-1 ≤ Int32.toInt x1 ∧ Int32.toInt x1 ≤ 7) → (0 ≤ Int32.toInt x2 ∧ Int32.toInt x2 ≤ 255) → (1 ≤ Int32.toInt x3 ∧ Int32.toInt x3 ≤ 63) → (-2147483648 ≤ Int32.toInt x4 ∧ Int32.toInt x4 ≤ 99) → (0 ≤ Int32.toInt x5 ∧ Int32.toInt x5 ≤ 2147483647) → (0 ≤ Int32.toInt x6 ∧ Int32.toInt x6 ≤ 8) → (8 - Int32.toInt x6 < n21) → K21 x1 x2 x3 x4 x5 x6) (x1 x2 x3 x4 x5 x6 : Int32) (h_x1 : -1 ≤ Int32.toInt x1 ∧ Int32.toInt x1 ≤ 7) (h_x2 : 0 ≤ Int32.toInt x2 ∧ Int32.toInt x2 ≤ 255) (h_x3 : 1 ≤ Int32.toInt x3 ∧ Int32.toInt x3 ≤ 63) (h_x4 : -2147483648 ≤ Int32.toInt x4 ∧ Int32.toInt x4 ≤ 99) (h_x5 : 0 ≤ Int32.toInt x5 ∧ Int32.toInt x5 ≤ 2147483647) (h_x6 : 0 ≤ Int32.toInt x6 ∧ Int32.toInt x6 ≤ 7) (hn21 : 8 - Int32.toInt x6 ≤ n21) : ws_X3_waySeconds_67 post K21 bD nJ dQ x1 x2 x3 x4 x5 x6 := by
  have l0 := li_1
  intro v1 ev1
  have f2 : Int32.toInt (x6 + 1) = Int32.toInt x6 + Int32.toInt (1 : Int32) := ta_add _ _ (by omega)
  rw [← ev1] at f2
  have f3 := tp_r x4
  have f4 := tp_r x5
  exact hK21 x1 x2 x3 x4 x5 v1 h_x1 h_x2 h_x3 h_x4 h_x5 (by omega) (by omega)
set_option maxHeartbeats 8000000 in
set_option maxRecDepth 200000 in
theorem ts_X3_waySeconds_117 {post : Int32 → Prop} (bD : Int32) (nJ dQ : Nat → Int32) (h_tr_standings : 0 ≤ Int32.toInt bD ∧ Int32.toInt bD ≤ 8) (hpost : ∀ (r : Int32) , post r) (x3 x6 : Int32) (h_x3 : 1 ≤ Int32.toInt x3 ∧ Int32.toInt x3 ≤ 63) : ws_X3_waySeconds_117 post bD nJ dQ x3 x6 := by
  have l0 := li_3
  have l1 := li_9
  intro v5 ev5
  have f6 : Int32.toInt (9 * x3) = Int32.toInt x3 * 9 := ta_cmul _ _ (by decide) (by omega)
  rw [← ev5] at f6
  intro v7 ev7
  have hv7 := congrArg Int32.toInt ev7
  exact hpost _ 
set_option maxHeartbeats 8000000 in
set_option maxRecDepth 200000 in
theorem ts_X3_waySeconds_21 {post : Int32 → Prop} {next : Int32 → Int32 → Int32 → Int32 → Int32 → Int32 → Prop} {n21 : Int} (bD : Int32) (nJ dQ : Nat → Int32) (h_tr_standings : 0 ≤ Int32.toInt bD ∧ Int32.toInt bD ≤ 8) (hpost : ∀ (r : Int32) , post r) (hKn : ∀ (x1 : Int32) (x2 : Int32) (x3 : Int32) (x4 : Int32) (x5 : Int32) (x6 : Int32), (-1 ≤ Int32.toInt x1 ∧ Int32.toInt x1 ≤ 7) → (0 ≤ Int32.toInt x2 ∧ Int32.toInt x2 ≤ 255) → (1 ≤ Int32.toInt x3 ∧ Int32.toInt x3 ≤ 63) → (-2147483648 ≤ Int32.toInt x4 ∧ Int32.toInt x4 ≤ 99) → (0 ≤ Int32.toInt x5 ∧ Int32.toInt x5 ≤ 2147483647) → (0 ≤ Int32.toInt x6 ∧ Int32.toInt x6 ≤ 8) → (8 - Int32.toInt x6 < n21) → next x1 x2 x3 x4 x5 x6) (x1 x2 x3 x4 x5 x6 : Int32) (h_x1 : -1 ≤ Int32.toInt x1 ∧ Int32.toInt x1 ≤ 7) (h_x2 : 0 ≤ Int32.toInt x2 ∧ Int32.toInt x2 ≤ 255) (h_x3 : 1 ≤ Int32.toInt x3 ∧ Int32.toInt x3 ≤ 63) (h_x4 : -2147483648 ≤ Int32.toInt x4 ∧ Int32.toInt x4 ≤ 99) (h_x5 : 0 ≤ Int32.toInt x5 ∧ Int32.toInt x5 ≤ 2147483647) (h_x6 : 0 ≤ Int32.toInt x6 ∧ Int32.toInt x6 ≤ 8) (hn21 : 8 - Int32.toInt x6 ≤ n21) : ws_X3_waySeconds_21 post next bD nJ dQ x1 x2 x3 x4 x5 x6 := by
  have l0 := li_m1
  have l1 := li_0
  have l2 := li_1
  refine And.intro (fun c9 => ?_) (fun c9 => ?_)
  · skip
    have c9 := (fa_le _ _).mp c9
    intro v10 ev10
    have hv10 := congrArg Int32.toInt ev10
    refine And.intro (fun c12 => ?_) (fun c12 => ?_)
    · skip
      have c12 := (fa_eq _ _).mp c12
      have f13 := tp_r v10
      exact ts_X3_waySeconds_117 bD nJ dQ h_tr_standings hpost x3 v10 h_x3
    · skip
      have c12 := mt (fa_eq _ _).mpr c12
      refine And.intro (t_in (by omega)) ?_
      intro v14 ev14
      have hv14 := congrArg Int32.toInt ev14
      intro v16 ev16
      have hv16 := congrArg Int32.toInt ev16
      intro v18 ev18
      have hv18 := congrArg Int32.toInt ev18
      refine And.intro (t_in (by omega)) ?_
      intro v20 ev20
      have hv20 := congrArg Int32.toInt ev20
      intro v21 ev21
      have hv21 := congrArg Int32.toInt ev21
      intro v23 ev23
      have hv23 := congrArg Int32.toInt ev23
      intro v25 ev25
      have f27 := tp_r v18
      have f28 := tp_r v23
      have f26 := ti_min v18 v23
      have hv25 := congrArg Int32.toInt ev25
      intro v29 ev29
      have hv29 := congrArg Int32.toInt ev29
      have f31 := tp_r v29
      exact ts_X3_waySeconds_117 bD nJ dQ h_tr_standings hpost x3 v29 h_x3
  · skip
    have c9 := mt (fa_le _ _).mpr c9
    intro v32 ev32
    have f33 := ti_shr x2 x6 (by omega)
    have hv32 := congrArg Int32.toInt ev32
    have f35 := ti_andr v32 1 (by omega)
    have f36 := ti_andl v32 1 (by omega)
    refine And.intro (fun c34 => ?_) (fun c34 => ?_)
    · skip
      have c34 := (fa_eq _ _).mp c34
      have f37 := tp_r x4
      have f38 := tp_r x5
      exact ts_X3_waySeconds_67 bD nJ dQ h_tr_standings hpost hKn x1 x2 x3 x4 x5 x6 h_x1 h_x2 h_x3 h_x4 h_x5 (by omega) hn21
    · skip
      have c34 := mt (fa_eq _ _).mpr c34
      refine And.intro (t_in (by omega)) ?_
      intro v39 ev39
      have hv39 := congrArg Int32.toInt ev39
      intro v41 ev41
      have f42 := tp_r (if v39 < x4 then v39 else x4)
      have f44 := tp_r x4
      have f45 := tp_r v39
      have f43 := ti_min x4 v39
      have hv41 := congrArg Int32.toInt ev41
      refine And.intro (t_in (by omega)) ?_
      intro v46 ev46
      have hv46 := congrArg Int32.toInt ev46
      intro v47 ev47
      have f48 := tp_r (if x5 < v46 then v46 else x5)
      have f50 := tp_r x5
      have f51 := tp_r v46
      have f49 := ti_max x5 v46
      have hv47 := congrArg Int32.toInt ev47
      have f52 := tp_r v41
      have f53 := tp_r v47
      exact ts_X3_waySeconds_67 bD nJ dQ h_tr_standings hpost hKn x1 x2 x3 v41 v47 x6 h_x1 h_x2 h_x3 (by omega) (by omega) (by omega) hn21
set_option maxHeartbeats 8000000 in
set_option maxRecDepth 200000 in
theorem tb_X3_waySeconds_21 {post : Int32 → Prop} (bD : Int32) (nJ dQ : Nat → Int32) (h_tr_standings : 0 ≤ Int32.toInt bD ∧ Int32.toInt bD ≤ 8) (hpost : ∀ (r : Int32) , post r) : ∀ (n : Nat) (x1 x2 x3 x4 x5 x6 : Int32), (-1 ≤ Int32.toInt x1 ∧ Int32.toInt x1 ≤ 7) → (0 ≤ Int32.toInt x2 ∧ Int32.toInt x2 ≤ 255) → (1 ≤ Int32.toInt x3 ∧ Int32.toInt x3 ≤ 63) → (-2147483648 ≤ Int32.toInt x4 ∧ Int32.toInt x4 ≤ 99) → (0 ≤ Int32.toInt x5 ∧ Int32.toInt x5 ≤ 2147483647) → (0 ≤ Int32.toInt x6 ∧ Int32.toInt x6 ≤ 8) → (8 - Int32.toInt x6 < (n : Int)) → wb_X3_waySeconds_21 post bD nJ dQ n x1 x2 x3 x4 x5 x6 := by
  intro n
  induction n with
  | zero =>
    intro x1 x2 x3 x4 x5 x6 h_x1 h_x2 h_x3 h_x4 h_x5 h_x6 hm
    exfalso; omega
  | succ n ih =>
    intro x1 x2 x3 x4 x5 x6 h_x1 h_x2 h_x3 h_x4 h_x5 h_x6 hm
    exact ts_X3_waySeconds_21 bD nJ dQ h_tr_standings hpost ih x1 x2 x3 x4 x5 x6 h_x1 h_x2 h_x3 h_x4 h_x5 h_x6 (by omega)
set_option maxHeartbeats 8000000 in
set_option maxRecDepth 200000 in
theorem t_X3_waySeconds {post : Int32 → Prop} {p0 p1 bD : Int32} {nJ dQ : Nat → Int32} (h_p0 : -1 ≤ Int32.toInt p0 ∧ Int32.toInt p0 ≤ 7) (h_p1 : 0 ≤ Int32.toInt p1 ∧ Int32.toInt p1 ≤ 255) (h_tr_standings : 0 ≤ Int32.toInt bD ∧ Int32.toInt bD ≤ 8) (hpost : ∀ (r : Int32) , post r) : wp_X3_waySeconds post p0 p1 bD nJ dQ := by
  have l0 := li_0
  have l1 := li_1431655765
  have l2 := li_252645135
  have l3 := li_63
  have l4 := li_858993459
  have l5 := li_99
  intro v54 ev54
  intro v55 ev55
  have f57 := ti_andr v54 1431655765 (by omega)
  have f56 : Int32.toInt (p1 - (v54 &&& 1431655765)) = Int32.toInt p1 - Int32.toInt (v54 &&& 1431655765) := ta_sub _ _ (by omega)
  rw [← ev55] at f56
  intro v58 ev58
  have f59 := ti_andr v55 858993459 (by omega)
  have hv58 := congrArg Int32.toInt ev58
  intro v60 ev60
  intro v61 ev61
  have f63 := ti_andr v60 858993459 (by omega)
  have f62 : Int32.toInt (v58 + (v60 &&& 858993459)) = Int32.toInt v58 + Int32.toInt (v60 &&& 858993459) := ta_add _ _ (by omega)
  rw [← ev61] at f62
  intro v64 ev64
  have hv64 := congrArg Int32.toInt ev64
  intro v66 ev66
  have f67 := ti_andr v64 252645135 (by omega)
  have hv66 := congrArg Int32.toInt ev66
  intro v68 ev68
  have hv68 := congrArg Int32.toInt ev68
  intro v70 ev70
  have hv70 := congrArg Int32.toInt ev70
  have f73 := ti_andr v70 63 (by omega)
  refine And.intro (fun c72 => ?_) (fun c72 => ?_)
  · skip
    have c72 := mt (fa_eq _ _).mpr c72
    exact ⟨10, tb_X3_waySeconds_21 bD nJ dQ h_tr_standings hpost _ p0 p1 (v70 &&& 63) 99 0 0 h_p0 h_p1 (by omega) (by omega) (by omega) (by omega) (by omega)⟩
  · skip
    have c72 := (fa_eq _ _).mp c72
    exact hpost _ 
set_option maxHeartbeats 8000000 in
set_option maxRecDepth 200000 in
theorem ts_X3_firstOfWay_50 {post : Int32 → Prop} {K3 : Int32 → Int32 → Int32 → Int32 → Prop} {n3 : Int} (bD : Int32) (nJ dQ : Nat → Int32) (h_tr_standings : 0 ≤ Int32.toInt bD ∧ Int32.toInt bD ≤ 8) (hpost : ∀ (r : Int32) , (-1 ≤ Int32.toInt r ∧ Int32.toInt r ≤ 7) → post r) (hK3 : ∀ (x1 : Int32) (x2 : Int32) (x3 : Int32) (x4 : Int32), (-1 ≤ Int32.toInt x1 ∧ Int32.toInt x1 ≤ 7) → (1 ≤ Int32.toInt x2 ∧ Int32.toInt x2 ≤ 255) → (0 ≤ Int32.toInt x4 ∧ Int32.toInt x4 ≤ 8) → (8 - Int32.toInt x4 < n3) → K3 x1 x2 x3 x4) (x1 x2 x3 x4 : Int32) (h_x1 : -1 ≤ Int32.toInt x1 ∧ Int32.toInt x1 ≤ 7) (h_x2 : 1 ≤ Int32.toInt x2 ∧ Int32.toInt x2 ≤ 255) (h_x4 : 0 ≤ Int32.toInt x4 ∧ Int32.toInt x4 ≤ 7) (hn3 : 8 - Int32.toInt x4 ≤ n3) : ws_X3_firstOfWay_50 post K3 bD nJ dQ x1 x2 x3 x4 := by
  have l0 := li_1
  intro v1 ev1
  have f2 : Int32.toInt (x4 + 1) = Int32.toInt x4 + Int32.toInt (1 : Int32) := ta_add _ _ (by omega)
  rw [← ev1] at f2
  have f3 := tp_r x3
  exact hK3 x1 x2 x3 v1 h_x1 h_x2 (by omega) (by omega)
set_option maxHeartbeats 8000000 in
set_option maxRecDepth 200000 in
theorem ts_X3_firstOfWay_3 {post : Int32 → Prop} {next : Int32 → Int32 → Int32 → Int32 → Prop} {n3 : Int} (bD : Int32) (nJ dQ : Nat → Int32) (h_tr_standings : 0 ≤ Int32.toInt bD ∧ Int32.toInt bD ≤ 8) (hpost : ∀ (r : Int32) , (-1 ≤ Int32.toInt r ∧ Int32.toInt r ≤ 7) → post r) (hKn : ∀ (x1 : Int32) (x2 : Int32) (x3 : Int32) (x4 : Int32), (-1 ≤ Int32.toInt x1 ∧ Int32.toInt x1 ≤ 7) → (1 ≤ Int32.toInt x2 ∧ Int32.toInt x2 ≤ 255) → (0 ≤ Int32.toInt x4 ∧ Int32.toInt x4 ≤ 8) → (8 - Int32.toInt x4 < n3) → next x1 x2 x3 x4) (x1 x2 x3 x4 : Int32) (h_x1 : -1 ≤ Int32.toInt x1 ∧ Int32.toInt x1 ≤ 7) (h_x2 : 1 ≤ Int32.toInt x2 ∧ Int32.toInt x2 ≤ 255) (h_x4 : 0 ≤ Int32.toInt x4 ∧ Int32.toInt x4 ≤ 8) (hn3 : 8 - Int32.toInt x4 ≤ n3) : ws_X3_firstOfWay_3 post next bD nJ dQ x1 x2 x3 x4 := by
  have l0 := li_m1
  have l1 := li_0
  have l2 := li_1
  have l3 := li_3
  refine And.intro (fun c4 => ?_) (fun c4 => ?_)
  · skip
    have c4 := (fa_le _ _).mp c4
    exact hpost _ (by omega)
  · skip
    have c4 := mt (fa_le _ _).mpr c4
    intro v5 ev5
    have f6 := ti_shr x2 x4 (by omega)
    have hv5 := congrArg Int32.toInt ev5
    have f8 := ti_andr v5 1 (by omega)
    have f9 := ti_andl v5 1 (by omega)
    refine And.intro (fun c7 => ?_) (fun c7 => ?_)
    · skip
      have c7 := (fa_eq _ _).mp c7
      have f10 := tp_r x3
      exact ts_X3_firstOfWay_50 bD nJ dQ h_tr_standings hpost hKn x1 x2 x3 x4 h_x1 h_x2 (by omega) hn3
    · skip
      have c7 := mt (fa_eq _ _).mpr c7
      refine And.intro (fun c11 => ?_) (fun c11 => ?_)
      · skip
        have c11 := mt (fa_eq _ _).mpr c11
        intro v12 ev12
        have hv12 := congrArg Int32.toInt ev12
        refine And.intro (t_in (by omega)) ?_
        intro v14 ev14
        have hv14 := congrArg Int32.toInt ev14
        refine And.intro (t_in (by omega)) ?_
        intro v16 ev16
        have hv16 := congrArg Int32.toInt ev16
        intro v18 ev18
        have hv18 := congrArg Int32.toInt ev18
        intro v20 ev20
        have f21 := ti_shl1 7 128 x4 (by decide) (by omega)
        have hv20 := congrArg Int32.toInt ev20
        intro v22 ev22
        have f24 := ti_andl x2 (v20 ^^^ (-1)) (by omega)
        have hv22 := congrArg Int32.toInt ev22
        refine t_X3_waySeconds (by omega) (by omega) h_tr_standings (fun r25 => ?_)
        intro v26 ev26
        have hv26 := congrArg Int32.toInt ev26
        have f29 := tp_r v26
        have f30 := tp_r x3
        refine And.intro (fun c28 => ?_) (fun c28 => ?_)
        · skip
          have c28 := mt (fa_eq _ _).mpr c28
          exact ts_X3_firstOfWay_50 bD nJ dQ h_tr_standings hpost hKn x1 x2 x3 x4 h_x1 h_x2 (by omega) hn3
        · skip
          have c28 := (fa_eq _ _).mp c28
          exact hpost _ (by omega)
      · skip
        have c11 := (fa_eq _ _).mp c11
        intro v31 ev31
        have f32 := ti_shl1 7 128 x4 (by decide) (by omega)
        have hv31 := congrArg Int32.toInt ev31
        intro v33 ev33
        have f35 := ti_andl x2 (v31 ^^^ (-1)) (by omega)
        have hv33 := congrArg Int32.toInt ev33
        refine t_X3_waySeconds (by omega) (by omega) h_tr_standings (fun r36 => ?_)
        intro v37 ev37
        have hv37 := congrArg Int32.toInt ev37
        have f40 := tp_r v37
        have f41 := tp_r x3
        refine And.intro (fun c39 => ?_) (fun c39 => ?_)
        · skip
          have c39 := mt (fa_eq _ _).mpr c39
          exact ts_X3_firstOfWay_50 bD nJ dQ h_tr_standings hpost hKn x1 x2 x3 x4 h_x1 h_x2 (by omega) hn3
        · skip
          have c39 := (fa_eq _ _).mp c39
          exact hpost _ (by omega)
set_option maxHeartbeats 8000000 in
set_option maxRecDepth 200000 in
theorem tb_X3_firstOfWay_3 {post : Int32 → Prop} (bD : Int32) (nJ dQ : Nat → Int32) (h_tr_standings : 0 ≤ Int32.toInt bD ∧ Int32.toInt bD ≤ 8) (hpost : ∀ (r : Int32) , (-1 ≤ Int32.toInt r ∧ Int32.toInt r ≤ 7) → post r) : ∀ (n : Nat) (x1 x2 x3 x4 : Int32), (-1 ≤ Int32.toInt x1 ∧ Int32.toInt x1 ≤ 7) → (1 ≤ Int32.toInt x2 ∧ Int32.toInt x2 ≤ 255) → (0 ≤ Int32.toInt x4 ∧ Int32.toInt x4 ≤ 8) → (8 - Int32.toInt x4 < (n : Int)) → wb_X3_firstOfWay_3 post bD nJ dQ n x1 x2 x3 x4 := by
  intro n
  induction n with
  | zero =>
    intro x1 x2 x3 x4 h_x1 h_x2 h_x4 hm
    exfalso; omega
  | succ n ih =>
    intro x1 x2 x3 x4 h_x1 h_x2 h_x4 hm
    exact ts_X3_firstOfWay_3 bD nJ dQ h_tr_standings hpost ih x1 x2 x3 x4 h_x1 h_x2 h_x4 (by omega)
set_option maxHeartbeats 8000000 in
set_option maxRecDepth 200000 in
theorem t_X3_firstOfWay {post : Int32 → Prop} {p0 p1 p2 bD : Int32} {nJ dQ : Nat → Int32} (h_p0 : -1 ≤ Int32.toInt p0 ∧ Int32.toInt p0 ≤ 7) (h_p1 : 1 ≤ Int32.toInt p1 ∧ Int32.toInt p1 ≤ 255) (h_tr_standings : 0 ≤ Int32.toInt bD ∧ Int32.toInt bD ≤ 8) (hpost : ∀ (r : Int32) , (-1 ≤ Int32.toInt r ∧ Int32.toInt r ≤ 7) → post r) : wp_X3_firstOfWay post p0 p1 p2 bD nJ dQ := by
  have l0 := li_0
  have f42 := tp_r p2
  exact ⟨10, tb_X3_firstOfWay_3 bD nJ dQ h_tr_standings hpost _ p0 p1 p2 0 h_p0 h_p1 (by omega) (by omega)⟩
set_option maxHeartbeats 8000000 in
set_option maxRecDepth 200000 in
theorem ts_X9_route_55 {post : Int32 → Int32 → (Nat → Int32) → Prop} {next : Int32 → Int32 → Int32 → Int32 → Int32 → Int32 → (Nat → Int32) → Prop} {n55 : Int} (bD : Int32) (nJ dQ : Nat → Int32) (fJ : Int32) (h_tr_standings : 0 ≤ Int32.toInt bD ∧ Int32.toInt bD ≤ 8) (h_no_ladder : -1 ≤ Int32.toInt fJ ∧ Int32.toInt fJ ≤ 7) (hpost : ∀ (r : Int32) (ro_size' : Int32) (ro_numbers' : Nat → Int32), (0 ≤ Int32.toInt ro_size' ∧ Int32.toInt ro_size' ≤ 16) → post r ro_size' ro_numbers') (hKn : ∀ (x2 : Int32) (x3 : Int32) (x4 : Int32) (x5 : Int32) (x6 : Int32) (qF : Int32) (jJ : Nat → Int32), (0 ≤ Int32.toInt x2 ∧ Int32.toInt x2 ≤ 255) → (-1 ≤ Int32.toInt x3 ∧ Int32.toInt x3 ≤ 7) → (0 ≤ Int32.toInt x6 ∧ Int32.toInt x6 ≤ 8) → (0 ≤ Int32.toInt qF ∧ Int32.toInt qF ≤ 16) → (8 - Int32.toInt x6 < n55) → next x2 x3 x4 x5 x6 qF jJ) (x2 x3 x4 x5 x6 qF : Int32) (jJ : Nat → Int32) (h_x2 : 0 ≤ Int32.toInt x2 ∧ Int32.toInt x2 ≤ 255) (h_x3 : -1 ≤ Int32.toInt x3 ∧ Int32.toInt x3 ≤ 7) (h_x6 : 0 ≤ Int32.toInt x6 ∧ Int32.toInt x6 ≤ 8) (h_ro_size : 0 ≤ Int32.toInt qF ∧ Int32.toInt qF ≤ 16) (hn55 : 8 - Int32.toInt x6 ≤ n55) : ws_X9_route_55 post next bD nJ dQ fJ x2 x3 x4 x5 x6 qF jJ := by
  have l0 := li_m1
  have l1 := li_0
  have l2 := li_1
  have l3 := li_16
  have l4 := li_3
  have l5 := li_8
  refine And.intro (fun c1 => ?_) (fun c1 => ?_)
  · skip
    have c1 := (fa_le _ _).mp c1
    exact hpost _ _ _ h_ro_size
  · skip
    have c1 := mt (fa_le _ _).mpr c1
    refine And.intro (fun c2 => ?_) (fun c2 => ?_)
    · skip
      have c2 := (fa_eq _ _).mp c2
      exact hpost _ _ _ h_ro_size
    · skip
      have c2 := mt (fa_eq _ _).mpr c2
      refine t_X3_firstOfWay h_x3 (by omega) h_tr_standings (fun r3 h_r3 => ?_)
      refine And.intro (fun c4 => ?_) (fun c4 => ?_)
      · skip
        have c4 := mt (fa_eq _ _).mpr c4
        refine And.intro (fun c5 => ?_) (fun c5 => ?_)
        · skip
          have c5 := (fa_le _ _).mp c5
          refine And.intro (fun c6 => ?_) (fun c6 => ?_)
          · skip
            have c6 := mt (fa_eq _ _).mpr c6
            intro v7 ev7
            have hv7 := congrArg Int32.toInt ev7
            refine And.intro (t_in (by omega)) ?_
            intro v9 ev9
            have hv9 := congrArg Int32.toInt ev9
            refine And.intro (t_in (by omega)) ?_
            intro v11 ev11
            have hv11 := congrArg Int32.toInt ev11
            intro v13 ev13
            have hv13 := congrArg Int32.toInt ev13
            intro v15 ev15
            have hv15 := congrArg Int32.toInt ev15
            intro v17 ev17
            have f18 := ti_shl1 7 128 r3 (by decide) (by omega)
            have hv17 := congrArg Int32.toInt ev17
            intro v19 ev19
            have f21 := ti_andl x2 (v17 ^^^ (-1)) (by omega)
            have hv19 := congrArg Int32.toInt ev19
            intro v22 ev22
            have f23 : Int32.toInt (x6 + 1) = Int32.toInt x6 + Int32.toInt (1 : Int32) := ta_add _ _ (by omega)
            rw [← ev22] at f23
            have f24 := tp_r x4
            have f25 := tp_r v15
            exact hKn v19 r3 x4 v15 v22 qF jJ (by omega) h_r3 (by omega) h_ro_size (by omega)
          · skip
            have c6 := (fa_eq _ _).mp c6
            intro v26 ev26
            have hv26 := congrArg Int32.toInt ev26
            intro v28 ev28
            have f29 := ti_shl1 7 128 r3 (by decide) (by omega)
            have hv28 := congrArg Int32.toInt ev28
            intro v30 ev30
            have f32 := ti_andl x2 (v28 ^^^ (-1)) (by omega)
            have hv30 := congrArg Int32.toInt ev30
            intro v33 ev33
            have f34 : Int32.toInt (x6 + 1) = Int32.toInt x6 + Int32.toInt (1 : Int32) := ta_add _ _ (by omega)
            rw [← ev33] at f34
            have f35 := tp_r x4
            have f36 := tp_r v26
            exact hKn v30 r3 x4 v26 v33 qF jJ (by omega) h_r3 (by omega) h_ro_size (by omega)
        · skip
          have c5 := mt (fa_le _ _).mpr c5
          refine And.intro (t_in (by omega)) ?_
          intro v37 ev37
          have f38 : Int32.toInt (qF + 1) = Int32.toInt qF + Int32.toInt (1 : Int32) := ta_add _ _ (by omega)
          rw [← ev37] at f38
          refine And.intro (fun c39 => ?_) (fun c39 => ?_)
          · skip
            have c39 := mt (fa_eq _ _).mpr c39
            intro v40 ev40
            have hv40 := congrArg Int32.toInt ev40
            refine And.intro (t_in (by omega)) ?_
            intro v42 ev42
            have hv42 := congrArg Int32.toInt ev42
            refine And.intro (t_in (by omega)) ?_
            intro v44 ev44
            have hv44 := congrArg Int32.toInt ev44
            intro v46 ev46
            have hv46 := congrArg Int32.toInt ev46
            intro v48 ev48
            have hv48 := congrArg Int32.toInt ev48
            intro v50 ev50
            have f51 := ti_shl1 7 128 r3 (by decide) (by omega)
            have hv50 := congrArg Int32.toInt ev50
            intro v52 ev52
            have f54 := ti_andl x2 (v50 ^^^ (-1)) (by omega)
            have hv52 := congrArg Int32.toInt ev52
            intro v55 ev55
            have f56 : Int32.toInt (x6 + 1) = Int32.toInt x6 + Int32.toInt (1 : Int32) := ta_add _ _ (by omega)
            rw [← ev55] at f56
            have f57 := tp_r x4
            have f58 := tp_r v48
            exact hKn v52 r3 x4 v48 v55 v37 (upd jJ qF.toNatClampNeg r3) (by omega) h_r3 (by omega) (by omega) (by omega)
          · skip
            have c39 := (fa_eq _ _).mp c39
            intro v59 ev59
            have hv59 := congrArg Int32.toInt ev59
            intro v61 ev61
            have f62 := ti_shl1 7 128 r3 (by decide) (by omega)
            have hv61 := congrArg Int32.toInt ev61
            intro v63 ev63
            have f65 := ti_andl x2 (v61 ^^^ (-1)) (by omega)
            have hv63 := congrArg Int32.toInt ev63
            intro v66 ev66
            have f67 : Int32.toInt (x6 + 1) = Int32.toInt x6 + Int32.toInt (1 : Int32) := ta_add _ _ (by omega)
            rw [← ev66] at f67
            have f68 := tp_r x4
            have f69 := tp_r v59
            exact hKn v63 r3 x4 v59 v66 v37 (upd jJ qF.toNatClampNeg r3) (by omega) h_r3 (by omega) (by omega) (by omega)
      · skip
        have c4 := (fa_eq _ _).mp c4
        exact hpost _ _ _ h_ro_size
set_option maxHeartbeats 8000000 in
set_option maxRecDepth 200000 in
theorem tb_X9_route_55 {post : Int32 → Int32 → (Nat → Int32) → Prop} (bD : Int32) (nJ dQ : Nat → Int32) (fJ : Int32) (h_tr_standings : 0 ≤ Int32.toInt bD ∧ Int32.toInt bD ≤ 8) (h_no_ladder : -1 ≤ Int32.toInt fJ ∧ Int32.toInt fJ ≤ 7) (hpost : ∀ (r : Int32) (ro_size' : Int32) (ro_numbers' : Nat → Int32), (0 ≤ Int32.toInt ro_size' ∧ Int32.toInt ro_size' ≤ 16) → post r ro_size' ro_numbers') : ∀ (n : Nat) (x2 x3 x4 x5 x6 qF : Int32) (jJ : Nat → Int32), (0 ≤ Int32.toInt x2 ∧ Int32.toInt x2 ≤ 255) → (-1 ≤ Int32.toInt x3 ∧ Int32.toInt x3 ≤ 7) → (0 ≤ Int32.toInt x6 ∧ Int32.toInt x6 ≤ 8) → (0 ≤ Int32.toInt qF ∧ Int32.toInt qF ≤ 16) → (8 - Int32.toInt x6 < (n : Int)) → wb_X9_route_55 post bD nJ dQ fJ n x2 x3 x4 x5 x6 qF jJ := by
  intro n
  induction n with
  | zero =>
    intro x2 x3 x4 x5 x6 qF jJ h_x2 h_x3 h_x6 h_ro_size hm
    exfalso; omega
  | succ n ih =>
    intro x2 x3 x4 x5 x6 qF jJ h_x2 h_x3 h_x6 h_ro_size hm
    exact ts_X9_route_55 bD nJ dQ fJ h_tr_standings h_no_ladder hpost ih x2 x3 x4 x5 x6 qF jJ h_x2 h_x3 h_x6 h_ro_size (by omega)
set_option maxHeartbeats 8000000 in
set_option maxRecDepth 200000 in
theorem t_X9_route {post : Int32 → Int32 → (Nat → Int32) → Prop} {p0 bD : Int32} {nJ dQ : Nat → Int32} {fJ qF : Int32} {jJ : Nat → Int32} (h_tr_standings : 0 ≤ Int32.toInt bD ∧ Int32.toInt bD ≤ 8) (h_no_ladder : -1 ≤ Int32.toInt fJ ∧ Int32.toInt fJ ≤ 7) (h_ro_size : 0 ≤ Int32.toInt qF ∧ Int32.toInt qF ≤ 16) (hpost : ∀ (r : Int32) (ro_size' : Int32) (ro_numbers' : Nat → Int32), (0 ≤ Int32.toInt ro_size' ∧ Int32.toInt ro_size' ≤ 16) → post r ro_size' ro_numbers') : wp_X9_route post p0 bD nJ dQ fJ qF jJ := by
  have l0 := li_m1
  have l1 := li_0
  have l2 := li_1
  intro v70 ev70
  have f71 := ti_shl1 8 256 bD (by decide) (by omega)
  have hv70 := congrArg Int32.toInt ev70
  refine And.intro (fun c72 => ?_) (fun c72 => ?_)
  · skip
    have c72 := mt (fa_eq _ _).mpr c72
    refine And.intro (fun h9 => absurd h9 (by decide)) (fun _ => ?_)
    exact hpost _ _ _ h_ro_size
  · skip
    have c72Z := c72
    have c72 := (fa_eq _ _).mp c72
    have f74 : Int32.toInt (v70 - 1) = Int32.toInt v70 - Int32.toInt (1 : Int32) := ta_sub _ _ (by omega)
    have s75 := ti_subset p0 (v70 - 1) (c72Z) (by omega)
    refine And.intro (fun _ => ?_) (fun h9 => absurd h9 (by decide))
    refine And.intro (fun c76 => ?_) (fun c76 => ?_)
    · skip
      have c76 := mt (fa_eq _ _).mpr c76
      intro v77 ev77
      have f78 := ti_shl1 7 128 fJ (by decide) (by omega)
      have hv77 := congrArg Int32.toInt ev77
      have f81 := ti_andl p0 (v77 ^^^ (-1)) (by omega)
      refine t_X3_waySeconds h_no_ladder (by omega) h_tr_standings (fun r79 => ?_)
      have f82 := tp_r r79
      exact ⟨10, tb_X9_route_55 bD nJ dQ fJ h_tr_standings h_no_ladder hpost _ (p0 &&& (v77 ^^^ (-1))) fJ r79 r79 0 0 jJ (by omega) h_no_ladder (by omega) (by omega) (by omega)⟩
    · skip
      have c76 := (fa_eq _ _).mp c76
      refine t_X3_waySeconds h_no_ladder (by omega) h_tr_standings (fun r83 => ?_)
      have f84 := tp_r r83
      exact ⟨10, tb_X9_route_55 bD nJ dQ fJ h_tr_standings h_no_ladder hpost _ p0 fJ r83 r83 0 0 jJ (by omega) h_no_ladder (by omega) (by omega) (by omega)⟩
set_option maxHeartbeats 8000000 in
set_option maxRecDepth 200000 in
theorem ts_X5_timeAll_60 {post : (Nat → Int32) → (Nat → Int32) → (Nat → Int32) → Prop} {K2 : Int32 → (Nat → Int32) → (Nat → Int32) → (Nat → Int32) → Prop} {K15 : Int32 → Int32 → (Nat → Int32) → (Nat → Int32) → (Nat → Int32) → Prop} {n2 n15 : Int} (oX : Int32) (rX : Nat → Int32) (bZ bD : Int32) (wD gF pE nJ nY : Nat → Int32) (dO pG : Int32) (oF : Nat → Int32) (h_pl_wanted : 0 ≤ Int32.toInt oX ∧ Int32.toInt oX ≤ 65535) (h_pl_near : ∀ k : Nat, 0 ≤ Int32.toInt (rX k) ∧ Int32.toInt (rX k) ≤ 65535) (h_tr_fruits : 0 ≤ Int32.toInt bZ ∧ Int32.toInt bZ ≤ 16) (h_tr_standings : 0 ≤ Int32.toInt bD ∧ Int32.toInt bD ≤ 8) (h_ru_length : 0 ≤ Int32.toInt pG ∧ Int32.toInt pG ≤ 40) (hpost : ∀ (pl_seconds' : Nat → Int32) (ru_given' : Nat → Int32) (ru_stack' : Nat → Int32), (∀ k : Nat, 0 ≤ Int32.toInt (pl_seconds' k) ∧ Int32.toInt (pl_seconds' k) ≤ 99) → post pl_seconds' ru_given' ru_stack') (hK2 : ∀ (x1 : Int32) (rO : Nat → Int32) (qO : Nat → Int32) (qQ : Nat → Int32), (0 ≤ Int32.toInt x1 ∧ Int32.toInt x1 ≤ 16) → (∀ k : Nat, 0 ≤ Int32.toInt (rO k) ∧ Int32.toInt (rO k) ≤ 99) → (16 - Int32.toInt x1 < n2) → K2 x1 rO qO qQ) (hK15 : ∀ (x1 : Int32) (x2 : Int32) (rO : Nat → Int32) (qO : Nat → Int32) (qQ : Nat → Int32), (0 ≤ Int32.toInt x1 ∧ Int32.toInt x1 ≤ 15) → (0 ≤ Int32.toInt x2 ∧ Int32.toInt x2 ≤ 8) → (∀ k : Nat, 0 ≤ Int32.toInt (rO k) ∧ Int32.toInt (rO k) ≤ 99) → (16 - Int32.toInt x1 ≤ n2) → (8 - Int32.toInt x2 < n15) → K15 x1 x2 rO qO qQ) (x1 x2 : Int32) (rO qO qQ : Nat → Int32) (h_x1 : 0 ≤ Int32.toInt x1 ∧ Int32.toInt x1 ≤ 15) (h_x2 : 0 ≤ Int32.toInt x2 ∧ Int32.toInt x2 ≤ 7) (h_pl_seconds : ∀ k : Nat, 0 ≤ Int32.toInt (rO k) ∧ Int32.toInt (rO k) ≤ 99) (hn2 : 16 - Int32.toInt x1 ≤ n2) (hn15 : 8 - Int32.toInt x2 ≤ n15) : ws_X5_timeAll_60 post K2 K15 oX rX bZ bD wD gF pE nJ nY dO pG oF x1 x2 rO qO qQ := by
  have l0 := li_1
  intro v1 ev1
  have f2 : Int32.toInt (x2 + 1) = Int32.toInt x2 + Int32.toInt (1 : Int32) := ta_add _ _ (by omega)
  rw [← ev1] at f2
  exact hK15 x1 v1 rO qO qQ h_x1 (by omega) h_pl_seconds hn2 (by omega)
set_option maxHeartbeats 8000000 in
set_option maxRecDepth 200000 in
theorem ts_X5_timeAll_15 {post : (Nat → Int32) → (Nat → Int32) → (Nat → Int32) → Prop} {K2 : Int32 → (Nat → Int32) → (Nat → Int32) → (Nat → Int32) → Prop} {next : Int32 → Int32 → (Nat → Int32) → (Nat → Int32) → (Nat → Int32) → Prop} {n15 n2 : Int} (oX : Int32) (rX : Nat → Int32) (bZ bD : Int32) (wD gF pE nJ nY : Nat → Int32) (dO pG : Int32) (oF : Nat → Int32) (h_pl_wanted : 0 ≤ Int32.toInt oX ∧ Int32.toInt oX ≤ 65535) (h_pl_near : ∀ k : Nat, 0 ≤ Int32.toInt (rX k) ∧ Int32.toInt (rX k) ≤ 65535) (h_tr_fruits : 0 ≤ Int32.toInt bZ ∧ Int32.toInt bZ ≤ 16) (h_tr_standings : 0 ≤ Int32.toInt bD ∧ Int32.toInt bD ≤ 8) (h_ru_length : 0 ≤ Int32.toInt pG ∧ Int32.toInt pG ≤ 40) (hpost : ∀ (pl_seconds' : Nat → Int32) (ru_given' : Nat → Int32) (ru_stack' : Nat → Int32), (∀ k : Nat, 0 ≤ Int32.toInt (pl_seconds' k) ∧ Int32.toInt (pl_seconds' k) ≤ 99) → post pl_seconds' ru_given' ru_stack') (hK2 : ∀ (x1 : Int32) (rO : Nat → Int32) (qO : Nat → Int32) (qQ : Nat → Int32), (0 ≤ Int32.toInt x1 ∧ Int32.toInt x1 ≤ 16) → (∀ k : Nat, 0 ≤ Int32.toInt (rO k) ∧ Int32.toInt (rO k) ≤ 99) → (16 - Int32.toInt x1 < n2) → K2 x1 rO qO qQ) (hKn : ∀ (x1 : Int32) (x2 : Int32) (rO : Nat → Int32) (qO : Nat → Int32) (qQ : Nat → Int32), (0 ≤ Int32.toInt x1 ∧ Int32.toInt x1 ≤ 15) → (0 ≤ Int32.toInt x2 ∧ Int32.toInt x2 ≤ 8) → (∀ k : Nat, 0 ≤ Int32.toInt (rO k) ∧ Int32.toInt (rO k) ≤ 99) → (16 - Int32.toInt x1 ≤ n2) → (8 - Int32.toInt x2 < n15) → next x1 x2 rO qO qQ) (x1 x2 : Int32) (rO qO qQ : Nat → Int32) (h_x1 : 0 ≤ Int32.toInt x1 ∧ Int32.toInt x1 ≤ 15) (h_x2 : 0 ≤ Int32.toInt x2 ∧ Int32.toInt x2 ≤ 8) (h_pl_seconds : ∀ k : Nat, 0 ≤ Int32.toInt (rO k) ∧ Int32.toInt (rO k) ≤ 99) (hn2 : 16 - Int32.toInt x1 ≤ n2) (hn15 : 8 - Int32.toInt x2 ≤ n15) : ws_X5_timeAll_15 post K2 next oX rX bZ bD wD gF pE nJ nY dO pG oF x1 x2 rO qO qQ := by
  have l0 := li_0
  have l1 := li_1
  have l2 := li_8
  refine And.intro (fun c3 => ?_) (fun c3 => ?_)
  · skip
    have c3 := (fa_le _ _).mp c3
    intro v4 ev4
    have f5 : Int32.toInt (x1 + 1) = Int32.toInt x1 + Int32.toInt (1 : Int32) := ta_add _ _ (by omega)
    rw [← ev4] at f5
    exact hK2 v4 rO qO qQ (by omega) h_pl_seconds (by omega)
  · skip
    have c3 := mt (fa_le _ _).mpr c3
    refine And.intro (t_in (by omega)) ?_
    intro v6 ev6
    have f9 := h_pl_near x2.toNatClampNeg
    have f8 := ti_andr oX (rX x2.toNatClampNeg) (by omega)
    have f10 := ti_andl oX (rX x2.toNatClampNeg) (by omega)
    have f7 := ti_shr (oX &&& (rX x2.toNatClampNeg)) x1 (by omega)
    have hv6 := congrArg Int32.toInt ev6
    have f12 := ti_andr v6 1 (by omega)
    have f13 := ti_andl v6 1 (by omega)
    refine And.intro (fun c11 => ?_) (fun c11 => ?_)
    · skip
      have c11 := (fa_eq _ _).mp c11
      exact ts_X5_timeAll_60 oX rX bZ bD wD gF pE nJ nY dO pG oF h_pl_wanted h_pl_near h_tr_fruits h_tr_standings h_ru_length hpost hK2 hKn x1 x2 rO qO qQ h_x1 (by omega) h_pl_seconds hn2 hn15
    · skip
      have c11 := mt (fa_eq _ _).mpr c11
      intro v14 ev14
      have f15 : Int32.toInt (x1 * 8) = Int32.toInt x1 * 8 := ta_mulc _ _ (by decide) (by omega)
      rw [← ev14] at f15
      intro v16 ev16
      have f17 : Int32.toInt (v14 + x2) = Int32.toInt v14 + Int32.toInt x2 := ta_add _ _ (by omega)
      rw [← ev16] at f17
      refine t_X0_pickSeconds h_x1 (by omega) (by omega) h_tr_fruits h_ru_length (fun r20 ru_given_18 ru_stack_19 h_r20 => ?_)
      refine And.intro (t_in (by omega)) ?_
      have a21 : ∀ k : Nat, 0 ≤ Int32.toInt ((upd rO v16.toNatClampNeg r20) k) ∧ Int32.toInt ((upd rO v16.toNatClampNeg r20) k) ≤ 99 := t_upd (fun k => by have q9 := h_pl_seconds k; omega) (by omega)
      exact ts_X5_timeAll_60 oX rX bZ bD wD gF pE nJ nY dO pG oF h_pl_wanted h_pl_near h_tr_fruits h_tr_standings h_ru_length hpost hK2 hKn x1 x2 (upd rO v16.toNatClampNeg r20) ru_given_18 ru_stack_19 h_x1 (by omega) (fun k => by have q9 := a21 k; omega) hn2 hn15
set_option maxHeartbeats 8000000 in
set_option maxRecDepth 200000 in
theorem tb_X5_timeAll_15 {post : (Nat → Int32) → (Nat → Int32) → (Nat → Int32) → Prop} {K2 : Int32 → (Nat → Int32) → (Nat → Int32) → (Nat → Int32) → Prop} {n2 : Int} (oX : Int32) (rX : Nat → Int32) (bZ bD : Int32) (wD gF pE nJ nY : Nat → Int32) (dO pG : Int32) (oF : Nat → Int32) (h_pl_wanted : 0 ≤ Int32.toInt oX ∧ Int32.toInt oX ≤ 65535) (h_pl_near : ∀ k : Nat, 0 ≤ Int32.toInt (rX k) ∧ Int32.toInt (rX k) ≤ 65535) (h_tr_fruits : 0 ≤ Int32.toInt bZ ∧ Int32.toInt bZ ≤ 16) (h_tr_standings : 0 ≤ Int32.toInt bD ∧ Int32.toInt bD ≤ 8) (h_ru_length : 0 ≤ Int32.toInt pG ∧ Int32.toInt pG ≤ 40) (hpost : ∀ (pl_seconds' : Nat → Int32) (ru_given' : Nat → Int32) (ru_stack' : Nat → Int32), (∀ k : Nat, 0 ≤ Int32.toInt (pl_seconds' k) ∧ Int32.toInt (pl_seconds' k) ≤ 99) → post pl_seconds' ru_given' ru_stack') (hK2 : ∀ (x1 : Int32) (rO : Nat → Int32) (qO : Nat → Int32) (qQ : Nat → Int32), (0 ≤ Int32.toInt x1 ∧ Int32.toInt x1 ≤ 16) → (∀ k : Nat, 0 ≤ Int32.toInt (rO k) ∧ Int32.toInt (rO k) ≤ 99) → (16 - Int32.toInt x1 < n2) → K2 x1 rO qO qQ) : ∀ (n : Nat) (x1 x2 : Int32) (rO qO qQ : Nat → Int32), (0 ≤ Int32.toInt x1 ∧ Int32.toInt x1 ≤ 15) → (0 ≤ Int32.toInt x2 ∧ Int32.toInt x2 ≤ 8) → (∀ k : Nat, 0 ≤ Int32.toInt (rO k) ∧ Int32.toInt (rO k) ≤ 99) → (16 - Int32.toInt x1 ≤ n2) → (8 - Int32.toInt x2 < (n : Int)) → wb_X5_timeAll_15 post K2 oX rX bZ bD wD gF pE nJ nY dO pG oF n x1 x2 rO qO qQ := by
  intro n
  induction n with
  | zero =>
    intro x1 x2 rO qO qQ h_x1 h_x2 h_pl_seconds hn2 hm
    exfalso; omega
  | succ n ih =>
    intro x1 x2 rO qO qQ h_x1 h_x2 h_pl_seconds hn2 hm
    exact ts_X5_timeAll_15 oX rX bZ bD wD gF pE nJ nY dO pG oF h_pl_wanted h_pl_near h_tr_fruits h_tr_standings h_ru_length hpost hK2 ih x1 x2 rO qO qQ h_x1 h_x2 h_pl_seconds hn2 (by omega)
set_option maxHeartbeats 8000000 in
set_option maxRecDepth 200000 in
theorem ts_X5_timeAll_2 {post : (Nat → Int32) → (Nat → Int32) → (Nat → Int32) → Prop} {next : Int32 → (Nat → Int32) → (Nat → Int32) → (Nat → Int32) → Prop} {n2 : Int} (oX : Int32) (rX : Nat → Int32) (bZ bD : Int32) (wD gF pE nJ nY : Nat → Int32) (dO pG : Int32) (oF : Nat → Int32) (h_pl_wanted : 0 ≤ Int32.toInt oX ∧ Int32.toInt oX ≤ 65535) (h_pl_near : ∀ k : Nat, 0 ≤ Int32.toInt (rX k) ∧ Int32.toInt (rX k) ≤ 65535) (h_tr_fruits : 0 ≤ Int32.toInt bZ ∧ Int32.toInt bZ ≤ 16) (h_tr_standings : 0 ≤ Int32.toInt bD ∧ Int32.toInt bD ≤ 8) (h_ru_length : 0 ≤ Int32.toInt pG ∧ Int32.toInt pG ≤ 40) (hpost : ∀ (pl_seconds' : Nat → Int32) (ru_given' : Nat → Int32) (ru_stack' : Nat → Int32), (∀ k : Nat, 0 ≤ Int32.toInt (pl_seconds' k) ∧ Int32.toInt (pl_seconds' k) ≤ 99) → post pl_seconds' ru_given' ru_stack') (hKn : ∀ (x1 : Int32) (rO : Nat → Int32) (qO : Nat → Int32) (qQ : Nat → Int32), (0 ≤ Int32.toInt x1 ∧ Int32.toInt x1 ≤ 16) → (∀ k : Nat, 0 ≤ Int32.toInt (rO k) ∧ Int32.toInt (rO k) ≤ 99) → (16 - Int32.toInt x1 < n2) → next x1 rO qO qQ) (x1 : Int32) (rO qO qQ : Nat → Int32) (h_x1 : 0 ≤ Int32.toInt x1 ∧ Int32.toInt x1 ≤ 16) (h_pl_seconds : ∀ k : Nat, 0 ≤ Int32.toInt (rO k) ∧ Int32.toInt (rO k) ≤ 99) (hn2 : 16 - Int32.toInt x1 ≤ n2) : ws_X5_timeAll_2 post next oX rX bZ bD wD gF pE nJ nY dO pG oF x1 rO qO qQ := by
  have l0 := li_0
  refine And.intro (fun c22 => ?_) (fun c22 => ?_)
  · skip
    have c22 := (fa_le _ _).mp c22
    exact hpost _ _ _ h_pl_seconds
  · skip
    have c22 := mt (fa_le _ _).mpr c22
    exact ⟨10, tb_X5_timeAll_15 oX rX bZ bD wD gF pE nJ nY dO pG oF h_pl_wanted h_pl_near h_tr_fruits h_tr_standings h_ru_length hpost hKn _ x1 0 rO qO qQ (by omega) (by omega) h_pl_seconds hn2 (by omega)⟩
set_option maxHeartbeats 8000000 in
set_option maxRecDepth 200000 in
theorem tb_X5_timeAll_2 {post : (Nat → Int32) → (Nat → Int32) → (Nat → Int32) → Prop} (oX : Int32) (rX : Nat → Int32) (bZ bD : Int32) (wD gF pE nJ nY : Nat → Int32) (dO pG : Int32) (oF : Nat → Int32) (h_pl_wanted : 0 ≤ Int32.toInt oX ∧ Int32.toInt oX ≤ 65535) (h_pl_near : ∀ k : Nat, 0 ≤ Int32.toInt (rX k) ∧ Int32.toInt (rX k) ≤ 65535) (h_tr_fruits : 0 ≤ Int32.toInt bZ ∧ Int32.toInt bZ ≤ 16) (h_tr_standings : 0 ≤ Int32.toInt bD ∧ Int32.toInt bD ≤ 8) (h_ru_length : 0 ≤ Int32.toInt pG ∧ Int32.toInt pG ≤ 40) (hpost : ∀ (pl_seconds' : Nat → Int32) (ru_given' : Nat → Int32) (ru_stack' : Nat → Int32), (∀ k : Nat, 0 ≤ Int32.toInt (pl_seconds' k) ∧ Int32.toInt (pl_seconds' k) ≤ 99) → post pl_seconds' ru_given' ru_stack') : ∀ (n : Nat) (x1 : Int32) (rO qO qQ : Nat → Int32), (0 ≤ Int32.toInt x1 ∧ Int32.toInt x1 ≤ 16) → (∀ k : Nat, 0 ≤ Int32.toInt (rO k) ∧ Int32.toInt (rO k) ≤ 99) → (16 - Int32.toInt x1 < (n : Int)) → wb_X5_timeAll_2 post oX rX bZ bD wD gF pE nJ nY dO pG oF n x1 rO qO qQ := by
  intro n
  induction n with
  | zero =>
    intro x1 rO qO qQ h_x1 h_pl_seconds hm
    exfalso; omega
  | succ n ih =>
    intro x1 rO qO qQ h_x1 h_pl_seconds hm
    exact ts_X5_timeAll_2 oX rX bZ bD wD gF pE nJ nY dO pG oF h_pl_wanted h_pl_near h_tr_fruits h_tr_standings h_ru_length hpost ih x1 rO qO qQ h_x1 h_pl_seconds (by omega)
set_option maxHeartbeats 8000000 in
set_option maxRecDepth 200000 in
theorem t_X5_timeAll {post : (Nat → Int32) → (Nat → Int32) → (Nat → Int32) → Prop} {oX : Int32} {rX rO : Nat → Int32} {bZ bD : Int32} {wD gF pE nJ nY : Nat → Int32} {dO pG : Int32} {qO qQ oF : Nat → Int32} (h_pl_wanted : 0 ≤ Int32.toInt oX ∧ Int32.toInt oX ≤ 65535) (h_pl_near : ∀ k : Nat, 0 ≤ Int32.toInt (rX k) ∧ Int32.toInt (rX k) ≤ 65535) (h_pl_seconds : ∀ k : Nat, 0 ≤ Int32.toInt (rO k) ∧ Int32.toInt (rO k) ≤ 99) (h_tr_fruits : 0 ≤ Int32.toInt bZ ∧ Int32.toInt bZ ≤ 16) (h_tr_standings : 0 ≤ Int32.toInt bD ∧ Int32.toInt bD ≤ 8) (h_ru_length : 0 ≤ Int32.toInt pG ∧ Int32.toInt pG ≤ 40) (hpost : ∀ (pl_seconds' : Nat → Int32) (ru_given' : Nat → Int32) (ru_stack' : Nat → Int32), (∀ k : Nat, 0 ≤ Int32.toInt (pl_seconds' k) ∧ Int32.toInt (pl_seconds' k) ≤ 99) → post pl_seconds' ru_given' ru_stack') : wp_X5_timeAll post oX rX rO bZ bD wD gF pE nJ nY dO pG qO qQ oF := by
  have l0 := li_0
  exact ⟨18, tb_X5_timeAll_2 oX rX bZ bD wD gF pE nJ nY dO pG oF h_pl_wanted h_pl_near h_tr_fruits h_tr_standings h_ru_length hpost _ 0 rO qO qQ (by omega) h_pl_seconds (by omega)⟩
set_option maxHeartbeats 8000000 in
set_option maxRecDepth 200000 in
theorem ts_X5_quickest_76 {post : Int32 → Prop} {K8 : Int32 → Int32 → Int32 → Int32 → Int32 → Prop} {n8 : Int} (rX rO : Nat → Int32) (bD : Int32) (h_pl_near : ∀ k : Nat, 0 ≤ Int32.toInt (rX k) ∧ Int32.toInt (rX k) ≤ 65535) (h_pl_seconds : ∀ k : Nat, 0 ≤ Int32.toInt (rO k) ∧ Int32.toInt (rO k) ≤ 99) (h_tr_standings : 0 ≤ Int32.toInt bD ∧ Int32.toInt bD ≤ 8) (hpost : ∀ (r : Int32) , (-1 ≤ Int32.toInt r ∧ Int32.toInt r ≤ 7) → post r) (hK8 : ∀ (x1 : Int32) (x2 : Int32) (x3 : Int32) (x4 : Int32) (x5 : Int32), (0 ≤ Int32.toInt x1 ∧ Int32.toInt x1 ≤ 15) → (0 ≤ Int32.toInt x2 ∧ Int32.toInt x2 ≤ 255) → (-1 ≤ Int32.toInt x3 ∧ Int32.toInt x3 ≤ 7) → (0 ≤ Int32.toInt x4 ∧ Int32.toInt x4 ≤ 99) → (0 ≤ Int32.toInt x5 ∧ Int32.toInt x5 ≤ 8) → (8 - Int32.toInt x5 < n8) → K8 x1 x2 x3 x4 x5) (x1 x2 x3 x4 x5 : Int32) (h_x1 : 0 ≤ Int32.toInt x1 ∧ Int32.toInt x1 ≤ 15) (h_x2 : 0 ≤ Int32.toInt x2 ∧ Int32.toInt x2 ≤ 255) (h_x3 : -1 ≤ Int32.toInt x3 ∧ Int32.toInt x3 ≤ 7) (h_x4 : 0 ≤ Int32.toInt x4 ∧ Int32.toInt x4 ≤ 99) (h_x5 : 0 ≤ Int32.toInt x5 ∧ Int32.toInt x5 ≤ 7) (hn8 : 8 - Int32.toInt x5 ≤ n8) : ws_X5_quickest_76 post K8 rX rO bD x1 x2 x3 x4 x5 := by
  have l0 := li_1
  intro v1 ev1
  have f2 : Int32.toInt (x5 + 1) = Int32.toInt x5 + Int32.toInt (1 : Int32) := ta_add _ _ (by omega)
  rw [← ev1] at f2
  exact hK8 x1 x2 x3 x4 v1 h_x1 h_x2 h_x3 h_x4 (by omega) (by omega)
set_option maxHeartbeats 8000000 in
set_option maxRecDepth 200000 in
theorem ts_X5_quickest_69 {post : Int32 → Prop} {K8 : Int32 → Int32 → Int32 → Int32 → Int32 → Prop} {n8 : Int} (rX rO : Nat → Int32) (bD : Int32) (h_pl_near : ∀ k : Nat, 0 ≤ Int32.toInt (rX k) ∧ Int32.toInt (rX k) ≤ 65535) (h_pl_seconds : ∀ k : Nat, 0 ≤ Int32.toInt (rO k) ∧ Int32.toInt (rO k) ≤ 99) (h_tr_standings : 0 ≤ Int32.toInt bD ∧ Int32.toInt bD ≤ 8) (hpost : ∀ (r : Int32) , (-1 ≤ Int32.toInt r ∧ Int32.toInt r ≤ 7) → post r) (hK8 : ∀ (x1 : Int32) (x2 : Int32) (x3 : Int32) (x4 : Int32) (x5 : Int32), (0 ≤ Int32.toInt x1 ∧ Int32.toInt x1 ≤ 15) → (0 ≤ Int32.toInt x2 ∧ Int32.toInt x2 ≤ 255) → (-1 ≤ Int32.toInt x3 ∧ Int32.toInt x3 ≤ 7) → (0 ≤ Int32.toInt x4 ∧ Int32.toInt x4 ≤ 99) → (0 ≤ Int32.toInt x5 ∧ Int32.toInt x5 ≤ 8) → (8 - Int32.toInt x5 < n8) → K8 x1 x2 x3 x4 x5) (x1 x2 x5 x6 : Int32) (h_x1 : 0 ≤ Int32.toInt x1 ∧ Int32.toInt x1 ≤ 15) (h_x2 : 0 ≤ Int32.toInt x2 ∧ Int32.toInt x2 ≤ 255) (h_x5 : 0 ≤ Int32.toInt x5 ∧ Int32.toInt x5 ≤ 7) (h_x6 : 0 ≤ Int32.toInt x6 ∧ Int32.toInt x6 ≤ 99) (hn8 : 8 - Int32.toInt x5 ≤ n8) : ws_X5_quickest_69 post K8 rX rO bD x1 x2 x5 x6 := by
  exact ts_X5_quickest_76 rX rO bD h_pl_near h_pl_seconds h_tr_standings hpost hK8 x1 x2 x5 x6 x5 h_x1 h_x2 (by omega) h_x6 h_x5 hn8
set_option maxHeartbeats 8000000 in
set_option maxRecDepth 200000 in
theorem ts_X5_quickest_8 {post : Int32 → Prop} {next : Int32 → Int32 → Int32 → Int32 → Int32 → Prop} {n8 : Int} (rX rO : Nat → Int32) (bD : Int32) (h_pl_near : ∀ k : Nat, 0 ≤ Int32.toInt (rX k) ∧ Int32.toInt (rX k) ≤ 65535) (h_pl_seconds : ∀ k : Nat, 0 ≤ Int32.toInt (rO k) ∧ Int32.toInt (rO k) ≤ 99) (h_tr_standings : 0 ≤ Int32.toInt bD ∧ Int32.toInt bD ≤ 8) (hpost : ∀ (r : Int32) , (-1 ≤ Int32.toInt r ∧ Int32.toInt r ≤ 7) → post r) (hKn : ∀ (x1 : Int32) (x2 : Int32) (x3 : Int32) (x4 : Int32) (x5 : Int32), (0 ≤ Int32.toInt x1 ∧ Int32.toInt x1 ≤ 15) → (0 ≤ Int32.toInt x2 ∧ Int32.toInt x2 ≤ 255) → (-1 ≤ Int32.toInt x3 ∧ Int32.toInt x3 ≤ 7) → (0 ≤ Int32.toInt x4 ∧ Int32.toInt x4 ≤ 99) → (0 ≤ Int32.toInt x5 ∧ Int32.toInt x5 ≤ 8) → (8 - Int32.toInt x5 < n8) → next x1 x2 x3 x4 x5) (x1 x2 x3 x4 x5 : Int32) (h_x1 : 0 ≤ Int32.toInt x1 ∧ Int32.toInt x1 ≤ 15) (h_x2 : 0 ≤ Int32.toInt x2 ∧ Int32.toInt x2 ≤ 255) (h_x3 : -1 ≤ Int32.toInt x3 ∧ Int32.toInt x3 ≤ 7) (h_x4 : 0 ≤ Int32.toInt x4 ∧ Int32.toInt x4 ≤ 99) (h_x5 : 0 ≤ Int32.toInt x5 ∧ Int32.toInt x5 ≤ 8) (hn8 : 8 - Int32.toInt x5 ≤ n8) : ws_X5_quickest_8 post next rX rO bD x1 x2 x3 x4 x5 := by
  have l0 := li_m1
  have l1 := li_0
  have l2 := li_1
  have l3 := li_8
  refine And.intro (fun c3 => ?_) (fun c3 => ?_)
  · skip
    have c3 := (fa_le _ _).mp c3
    exact hpost _ h_x3
  · skip
    have c3 := mt (fa_le _ _).mpr c3
    intro v4 ev4
    have f5 := ti_shr x2 x5 (by omega)
    have hv4 := congrArg Int32.toInt ev4
    have f7 := ti_andr v4 1 (by omega)
    have f8 := ti_andl v4 1 (by omega)
    refine And.intro (fun c6 => ?_) (fun c6 => ?_)
    · skip
      have c6 := (fa_eq _ _).mp c6
      exact ts_X5_quickest_76 rX rO bD h_pl_near h_pl_seconds h_tr_standings hpost hKn x1 x2 x3 x4 x5 h_x1 h_x2 h_x3 h_x4 (by omega) hn8
    · skip
      have c6 := mt (fa_eq _ _).mpr c6
      refine And.intro (t_in (by omega)) ?_
      intro v9 ev9
      have f10 := h_pl_near x5.toNatClampNeg
      have hv9 := congrArg Int32.toInt ev9
      intro v11 ev11
      have f12 := ti_shr v9 x1 (by omega)
      have hv11 := congrArg Int32.toInt ev11
      have f14 := ti_andr v11 1 (by omega)
      have f15 := ti_andl v11 1 (by omega)
      refine And.intro (fun c13 => ?_) (fun c13 => ?_)
      · skip
        have c13 := (fa_eq _ _).mp c13
        exact ts_X5_quickest_76 rX rO bD h_pl_near h_pl_seconds h_tr_standings hpost hKn x1 x2 x3 x4 x5 h_x1 h_x2 h_x3 h_x4 (by omega) hn8
      · skip
        have c13 := mt (fa_eq _ _).mpr c13
        intro v16 ev16
        have f17 : Int32.toInt (x1 * 8) = Int32.toInt x1 * 8 := ta_mulc _ _ (by decide) (by omega)
        rw [← ev16] at f17
        intro v18 ev18
        have f19 : Int32.toInt (v16 + x5) = Int32.toInt v16 + Int32.toInt x5 := ta_add _ _ (by omega)
        rw [← ev18] at f19
        refine And.intro (t_in (by omega)) ?_
        intro v20 ev20
        have f21 := h_pl_seconds v18.toNatClampNeg
        have hv20 := congrArg Int32.toInt ev20
        refine And.intro (fun c22 => ?_) (fun c22 => ?_)
        · skip
          have c22 := (fa_eq _ _).mp c22
          exact ts_X5_quickest_69 rX rO bD h_pl_near h_pl_seconds h_tr_standings hpost hKn x1 x2 x5 v20 h_x1 h_x2 (by omega) (by omega) hn8
        · skip
          have c22 := mt (fa_eq _ _).mpr c22
          refine And.intro (fun c23 => ?_) (fun c23 => ?_)
          · skip
            have c23 := (fa_le _ _).mp c23
            exact ts_X5_quickest_76 rX rO bD h_pl_near h_pl_seconds h_tr_standings hpost hKn x1 x2 x3 x4 x5 h_x1 h_x2 h_x3 h_x4 (by omega) hn8
          · skip
            have c23 := mt (fa_le _ _).mpr c23
            exact ts_X5_quickest_69 rX rO bD h_pl_near h_pl_seconds h_tr_standings hpost hKn x1 x2 x5 v20 h_x1 h_x2 (by omega) (by omega) hn8
set_option maxHeartbeats 8000000 in
set_option maxRecDepth 200000 in
theorem tb_X5_quickest_8 {post : Int32 → Prop} (rX rO : Nat → Int32) (bD : Int32) (h_pl_near : ∀ k : Nat, 0 ≤ Int32.toInt (rX k) ∧ Int32.toInt (rX k) ≤ 65535) (h_pl_seconds : ∀ k : Nat, 0 ≤ Int32.toInt (rO k) ∧ Int32.toInt (rO k) ≤ 99) (h_tr_standings : 0 ≤ Int32.toInt bD ∧ Int32.toInt bD ≤ 8) (hpost : ∀ (r : Int32) , (-1 ≤ Int32.toInt r ∧ Int32.toInt r ≤ 7) → post r) : ∀ (n : Nat) (x1 x2 x3 x4 x5 : Int32), (0 ≤ Int32.toInt x1 ∧ Int32.toInt x1 ≤ 15) → (0 ≤ Int32.toInt x2 ∧ Int32.toInt x2 ≤ 255) → (-1 ≤ Int32.toInt x3 ∧ Int32.toInt x3 ≤ 7) → (0 ≤ Int32.toInt x4 ∧ Int32.toInt x4 ≤ 99) → (0 ≤ Int32.toInt x5 ∧ Int32.toInt x5 ≤ 8) → (8 - Int32.toInt x5 < (n : Int)) → wb_X5_quickest_8 post rX rO bD n x1 x2 x3 x4 x5 := by
  intro n
  induction n with
  | zero =>
    intro x1 x2 x3 x4 x5 h_x1 h_x2 h_x3 h_x4 h_x5 hm
    exfalso; omega
  | succ n ih =>
    intro x1 x2 x3 x4 x5 h_x1 h_x2 h_x3 h_x4 h_x5 hm
    exact ts_X5_quickest_8 rX rO bD h_pl_near h_pl_seconds h_tr_standings hpost ih x1 x2 x3 x4 x5 h_x1 h_x2 h_x3 h_x4 h_x5 (by omega)
set_option maxHeartbeats 8000000 in
set_option maxRecDepth 200000 in
theorem t_X5_quickest {post : Int32 → Prop} {p0 p1 : Int32} {rX rO : Nat → Int32} {bD : Int32} (h_p0 : 0 ≤ Int32.toInt p0 ∧ Int32.toInt p0 ≤ 15) (h_p1 : 0 ≤ Int32.toInt p1 ∧ Int32.toInt p1 ≤ 255) (h_pl_near : ∀ k : Nat, 0 ≤ Int32.toInt (rX k) ∧ Int32.toInt (rX k) ≤ 65535) (h_pl_seconds : ∀ k : Nat, 0 ≤ Int32.toInt (rO k) ∧ Int32.toInt (rO k) ≤ 99) (h_tr_standings : 0 ≤ Int32.toInt bD ∧ Int32.toInt bD ≤ 8) (hpost : ∀ (r : Int32) , (-1 ≤ Int32.toInt r ∧ Int32.toInt r ≤ 7) → post r) : wp_X5_quickest post p0 p1 rX rO bD := by
  have l0 := li_m1
  have l1 := li_0
  exact ⟨10, tb_X5_quickest_8 rX rO bD h_pl_near h_pl_seconds h_tr_standings hpost _ p0 p1 (-1) 0 0 h_p0 h_p1 (by omega) (by omega) (by omega) (by omega)⟩
set_option maxHeartbeats 8000000 in
set_option maxRecDepth 200000 in
theorem ts_X5_workSeconds_96 {post : Int32 → Int32 → Int32 → Int32 → (Nat → Int32) → Prop} {K28 : Int32 → Int32 → Int32 → Int32 → Int32 → (Nat → Int32) → Prop} {n28 : Int} (oX : Int32) (rX rO : Nat → Int32) (bZ bD : Int32) (nJ nY dQ : Nat → Int32) (fJ : Int32) (h_pl_wanted : 0 ≤ Int32.toInt oX ∧ Int32.toInt oX ≤ 65535) (h_pl_near : ∀ k : Nat, 0 ≤ Int32.toInt (rX k) ∧ Int32.toInt (rX k) ≤ 65535) (h_pl_seconds : ∀ k : Nat, 0 ≤ Int32.toInt (rO k) ∧ Int32.toInt (rO k) ≤ 99) (h_tr_fruits : 0 ≤ Int32.toInt bZ ∧ Int32.toInt bZ ≤ 16) (h_tr_standings : 0 ≤ Int32.toInt bD ∧ Int32.toInt bD ≤ 8) (h_no_ladder : -1 ≤ Int32.toInt fJ ∧ Int32.toInt fJ ≤ 7) (hpost : ∀ (r : Int32) (pl_moves' : Int32) (pl_picking' : Int32) (pl_downs' : Int32) (pl_many' : Nat → Int32), post r pl_moves' pl_picking' pl_downs' pl_many') (hK28 : ∀ (x1 : Int32) (x2 : Int32) (rJ : Int32) (pN : Int32) (rP : Int32) (vI : Nat → Int32), (0 ≤ Int32.toInt x1 ∧ Int32.toInt x1 ≤ 255) → (0 ≤ Int32.toInt x2 ∧ Int32.toInt x2 ≤ 16) → (16 - Int32.toInt x2 < n28) → K28 x1 x2 rJ pN rP vI) (x1 x2 rJ pN rP : Int32) (vI : Nat → Int32) (h_x1 : 0 ≤ Int32.toInt x1 ∧ Int32.toInt x1 ≤ 255) (h_x2 : 0 ≤ Int32.toInt x2 ∧ Int32.toInt x2 ≤ 15) (hn28 : 16 - Int32.toInt x2 ≤ n28) : ws_X5_workSeconds_96 post K28 oX rX rO bZ bD nJ nY dQ fJ x1 x2 rJ pN rP vI := by
  have l0 := li_1
  intro v1 ev1
  have f2 : Int32.toInt (x2 + 1) = Int32.toInt x2 + Int32.toInt (1 : Int32) := ta_add _ _ (by omega)
  rw [← ev1] at f2
  have f3 := tp_r rJ
  have f4 := tp_r pN
  have f5 := tp_r rP
  exact hK28 x1 v1 rJ pN rP vI h_x1 (by omega) (by omega)
set_option maxHeartbeats 8000000 in
set_option maxRecDepth 200000 in
theorem ts_X5_workSeconds_60 {post : Int32 → Int32 → Int32 → Int32 → (Nat → Int32) → Prop} {K28 : Int32 → Int32 → Int32 → Int32 → Int32 → (Nat → Int32) → Prop} {n28 : Int} (oX : Int32) (rX rO : Nat → Int32) (bZ bD : Int32) (nJ nY dQ : Nat → Int32) (fJ : Int32) (h_pl_wanted : 0 ≤ Int32.toInt oX ∧ Int32.toInt oX ≤ 65535) (h_pl_near : ∀ k : Nat, 0 ≤ Int32.toInt (rX k) ∧ Int32.toInt (rX k) ≤ 65535) (h_pl_seconds : ∀ k : Nat, 0 ≤ Int32.toInt (rO k) ∧ Int32.toInt (rO k) ≤ 99) (h_tr_fruits : 0 ≤ Int32.toInt bZ ∧ Int32.toInt bZ ≤ 16) (h_tr_standings : 0 ≤ Int32.toInt bD ∧ Int32.toInt bD ≤ 8) (h_no_ladder : -1 ≤ Int32.toInt fJ ∧ Int32.toInt fJ ≤ 7) (hpost : ∀ (r : Int32) (pl_moves' : Int32) (pl_picking' : Int32) (pl_downs' : Int32) (pl_many' : Nat → Int32), post r pl_moves' pl_picking' pl_downs' pl_many') (hK28 : ∀ (x1 : Int32) (x2 : Int32) (rJ : Int32) (pN : Int32) (rP : Int32) (vI : Nat → Int32), (0 ≤ Int32.toInt x1 ∧ Int32.toInt x1 ≤ 255) → (0 ≤ Int32.toInt x2 ∧ Int32.toInt x2 ≤ 16) → (16 - Int32.toInt x2 < n28) → K28 x1 x2 rJ pN rP vI) (x1 x2 k0 rJ pN rP : Int32) (vI : Nat → Int32) (h_x1 : 0 ≤ Int32.toInt x1 ∧ Int32.toInt x1 ≤ 255) (h_x2 : 0 ≤ Int32.toInt x2 ∧ Int32.toInt x2 ≤ 15) (h_k0 : -1 ≤ Int32.toInt k0 ∧ Int32.toInt k0 ≤ 7) (hn28 : 16 - Int32.toInt x2 ≤ n28) : ws_X5_workSeconds_60 post K28 oX rX rO bZ bD nJ nY dQ fJ x1 x2 k0 rJ pN rP vI := by
  have l0 := li_m1
  have l1 := li_8
  refine And.intro (fun c6 => ?_) (fun c6 => ?_)
  · skip
    have c6 := (fa_eq _ _).mp c6
    have f7 := tp_r rJ
    have f8 := tp_r pN
    have f9 := tp_r rP
    exact ts_X5_workSeconds_96 oX rX rO bZ bD nJ nY dQ fJ h_pl_wanted h_pl_near h_pl_seconds h_tr_fruits h_tr_standings h_no_ladder hpost hK28 x1 x2 rJ pN rP vI h_x1 h_x2 hn28
  · skip
    have c6 := mt (fa_eq _ _).mpr c6
    intro v10 ev10
    have f11 : Int32.toInt (x2 * 8) = Int32.toInt x2 * 8 := ta_mulc _ _ (by decide) (by omega)
    rw [← ev10] at f11
    intro v12 ev12
    have f13 : Int32.toInt (v10 + k0) = Int32.toInt v10 + Int32.toInt k0 := ta_add _ _ (by omega)
    rw [← ev12] at f13
    refine And.intro (t_in (by omega)) ?_
    intro v14 ev14
    have hv14 := congrArg Int32.toInt ev14
    refine And.intro (t_in (by omega)) ?_
    intro v16 ev16
    have hv16 := congrArg Int32.toInt ev16
    intro v18 ev18
    have hv18 := congrArg Int32.toInt ev18
    refine And.intro (t_in (by omega)) ?_
    have f20 := tp_r rJ
    have f21 := tp_r v14
    have f22 := tp_r rP
    exact ts_X5_workSeconds_96 oX rX rO bZ bD nJ nY dQ fJ h_pl_wanted h_pl_near h_pl_seconds h_tr_fruits h_tr_standings h_no_ladder hpost hK28 x1 x2 rJ v14 rP (upd vI k0.toNatClampNeg v18) h_x1 h_x2 hn28
set_option maxHeartbeats 8000000 in
set_option maxRecDepth 200000 in
theorem ts_X5_workSeconds_109 {post : Int32 → Int32 → Int32 → Int32 → (Nat → Int32) → Prop} {next : Int32 → Int32 → Int32 → Int32 → Int32 → (Nat → Int32) → Prop} {n109 : Int} (oX : Int32) (rX rO : Nat → Int32) (bZ bD : Int32) (nJ nY dQ : Nat → Int32) (fJ : Int32) (h_pl_wanted : 0 ≤ Int32.toInt oX ∧ Int32.toInt oX ≤ 65535) (h_pl_near : ∀ k : Nat, 0 ≤ Int32.toInt (rX k) ∧ Int32.toInt (rX k) ≤ 65535) (h_pl_seconds : ∀ k : Nat, 0 ≤ Int32.toInt (rO k) ∧ Int32.toInt (rO k) ≤ 99) (h_tr_fruits : 0 ≤ Int32.toInt bZ ∧ Int32.toInt bZ ≤ 16) (h_tr_standings : 0 ≤ Int32.toInt bD ∧ Int32.toInt bD ≤ 8) (h_no_ladder : -1 ≤ Int32.toInt fJ ∧ Int32.toInt fJ ≤ 7) (hpost : ∀ (r : Int32) (pl_moves' : Int32) (pl_picking' : Int32) (pl_downs' : Int32) (pl_many' : Nat → Int32), post r pl_moves' pl_picking' pl_downs' pl_many') (hKn : ∀ (x1 : Int32) (x2 : Int32) (rJ : Int32) (pN : Int32) (rP : Int32) (vI : Nat → Int32), (0 ≤ Int32.toInt x1 ∧ Int32.toInt x1 ≤ 255) → (0 ≤ Int32.toInt x2 ∧ Int32.toInt x2 ≤ 8) → (8 - Int32.toInt x2 < n109) → next x1 x2 rJ pN rP vI) (x1 x2 rJ pN rP : Int32) (vI : Nat → Int32) (h_x1 : 0 ≤ Int32.toInt x1 ∧ Int32.toInt x1 ≤ 255) (h_x2 : 0 ≤ Int32.toInt x2 ∧ Int32.toInt x2 ≤ 8) (hn109 : 8 - Int32.toInt x2 ≤ n109) : ws_X5_workSeconds_109 post next oX rX rO bZ bD nJ nY dQ fJ x1 x2 rJ pN rP vI := by
  have l0 := li_m1
  have l1 := li_0
  have l2 := li_1
  have l3 := li_4
  refine And.intro (fun c23 => ?_) (fun c23 => ?_)
  · skip
    have c23 := (fa_le _ _).mp c23
    refine And.intro (fun c24 => ?_) (fun c24 => ?_)
    · skip
      have c24 := mt (fa_eq _ _).mpr c24
      intro v25 ev25
      have f26 := ti_shl1 7 128 fJ (by decide) (by omega)
      have hv25 := congrArg Int32.toInt ev25
      have f29 := ti_andl x1 (v25 ^^^ (-1)) (by omega)
      refine t_X3_waySeconds h_no_ladder (by omega) h_tr_standings (fun r27 => ?_)
      intro v30 ev30
      have hv30 := congrArg Int32.toInt ev30
      exact hpost _ _ _ _ _ 
    · skip
      have c24 := (fa_eq _ _).mp c24
      refine t_X3_waySeconds h_no_ladder h_x1 h_tr_standings (fun r32 => ?_)
      intro v33 ev33
      have hv33 := congrArg Int32.toInt ev33
      exact hpost _ _ _ _ _ 
  · skip
    have c23 := mt (fa_le _ _).mpr c23
    refine And.intro (t_in (by omega)) ?_
    intro v35 ev35
    have hv35 := congrArg Int32.toInt ev35
    intro v37 ev37
    have hv37 := congrArg Int32.toInt ev37
    intro v39 ev39
    have f40 := tp_r (if 1 < v37 then v37 else 1)
    have f42 := tp_r v37
    have f41 := ti_max (1 : Int32) v37
    have hv39 := congrArg Int32.toInt ev39
    intro v43 ev43
    have hv43 := congrArg Int32.toInt ev43
    intro v45 ev45
    have hv45 := congrArg Int32.toInt ev45
    have f47 := tp_r v39
    refine And.intro (mt (fa_eq _ _).mp (by omega)) ?_
    intro v48 ev48
    refine And.intro (t_in (by omega)) ?_
    intro v49 ev49
    have hv49 := congrArg Int32.toInt ev49
    intro v51 ev51
    have hv51 := congrArg Int32.toInt ev51
    intro v53 ev53
    have hv53 := congrArg Int32.toInt ev53
    intro v55 ev55
    have f56 : Int32.toInt (x2 + 1) = Int32.toInt x2 + Int32.toInt (1 : Int32) := ta_add _ _ (by omega)
    rw [← ev55] at f56
    have f57 := tp_r rJ
    have f58 := tp_r pN
    have f59 := tp_r v53
    exact hKn x1 v55 rJ pN v53 vI h_x1 (by omega) (by omega)
set_option maxHeartbeats 8000000 in
set_option maxRecDepth 200000 in
theorem tb_X5_workSeconds_109 {post : Int32 → Int32 → Int32 → Int32 → (Nat → Int32) → Prop} (oX : Int32) (rX rO : Nat → Int32) (bZ bD : Int32) (nJ nY dQ : Nat → Int32) (fJ : Int32) (h_pl_wanted : 0 ≤ Int32.toInt oX ∧ Int32.toInt oX ≤ 65535) (h_pl_near : ∀ k : Nat, 0 ≤ Int32.toInt (rX k) ∧ Int32.toInt (rX k) ≤ 65535) (h_pl_seconds : ∀ k : Nat, 0 ≤ Int32.toInt (rO k) ∧ Int32.toInt (rO k) ≤ 99) (h_tr_fruits : 0 ≤ Int32.toInt bZ ∧ Int32.toInt bZ ≤ 16) (h_tr_standings : 0 ≤ Int32.toInt bD ∧ Int32.toInt bD ≤ 8) (h_no_ladder : -1 ≤ Int32.toInt fJ ∧ Int32.toInt fJ ≤ 7) (hpost : ∀ (r : Int32) (pl_moves' : Int32) (pl_picking' : Int32) (pl_downs' : Int32) (pl_many' : Nat → Int32), post r pl_moves' pl_picking' pl_downs' pl_many') : ∀ (n : Nat) (x1 x2 rJ pN rP : Int32) (vI : Nat → Int32), (0 ≤ Int32.toInt x1 ∧ Int32.toInt x1 ≤ 255) → (0 ≤ Int32.toInt x2 ∧ Int32.toInt x2 ≤ 8) → (8 - Int32.toInt x2 < (n : Int)) → wb_X5_workSeconds_109 post oX rX rO bZ bD nJ nY dQ fJ n x1 x2 rJ pN rP vI := by
  intro n
  induction n with
  | zero =>
    intro x1 x2 rJ pN rP vI h_x1 h_x2 hm
    exfalso; omega
  | succ n ih =>
    intro x1 x2 rJ pN rP vI h_x1 h_x2 hm
    exact ts_X5_workSeconds_109 oX rX rO bZ bD nJ nY dQ fJ h_pl_wanted h_pl_near h_pl_seconds h_tr_fruits h_tr_standings h_no_ladder hpost ih x1 x2 rJ pN rP vI h_x1 h_x2 (by omega)
set_option maxHeartbeats 8000000 in
set_option maxRecDepth 200000 in
theorem ts_X5_workSeconds_28 {post : Int32 → Int32 → Int32 → Int32 → (Nat → Int32) → Prop} {next : Int32 → Int32 → Int32 → Int32 → Int32 → (Nat → Int32) → Prop} {n28 : Int} (oX : Int32) (rX rO : Nat → Int32) (bZ bD : Int32) (nJ nY dQ : Nat → Int32) (fJ : Int32) (h_pl_wanted : 0 ≤ Int32.toInt oX ∧ Int32.toInt oX ≤ 65535) (h_pl_near : ∀ k : Nat, 0 ≤ Int32.toInt (rX k) ∧ Int32.toInt (rX k) ≤ 65535) (h_pl_seconds : ∀ k : Nat, 0 ≤ Int32.toInt (rO k) ∧ Int32.toInt (rO k) ≤ 99) (h_tr_fruits : 0 ≤ Int32.toInt bZ ∧ Int32.toInt bZ ≤ 16) (h_tr_standings : 0 ≤ Int32.toInt bD ∧ Int32.toInt bD ≤ 8) (h_no_ladder : -1 ≤ Int32.toInt fJ ∧ Int32.toInt fJ ≤ 7) (hpost : ∀ (r : Int32) (pl_moves' : Int32) (pl_picking' : Int32) (pl_downs' : Int32) (pl_many' : Nat → Int32), post r pl_moves' pl_picking' pl_downs' pl_many') (hKn : ∀ (x1 : Int32) (x2 : Int32) (rJ : Int32) (pN : Int32) (rP : Int32) (vI : Nat → Int32), (0 ≤ Int32.toInt x1 ∧ Int32.toInt x1 ≤ 255) → (0 ≤ Int32.toInt x2 ∧ Int32.toInt x2 ≤ 16) → (16 - Int32.toInt x2 < n28) → next x1 x2 rJ pN rP vI) (x1 x2 rJ pN rP : Int32) (vI : Nat → Int32) (h_x1 : 0 ≤ Int32.toInt x1 ∧ Int32.toInt x1 ≤ 255) (h_x2 : 0 ≤ Int32.toInt x2 ∧ Int32.toInt x2 ≤ 16) (hn28 : 16 - Int32.toInt x2 ≤ n28) : ws_X5_workSeconds_28 post next oX rX rO bZ bD nJ nY dQ fJ x1 x2 rJ pN rP vI := by
  have l0 := li_m1
  have l1 := li_0
  have l2 := li_1
  refine And.intro (fun c60 => ?_) (fun c60 => ?_)
  · skip
    have c60 := (fa_le _ _).mp c60
    have f61 := tp_r rJ
    have f62 := tp_r pN
    exact ⟨10, tb_X5_workSeconds_109 oX rX rO bZ bD nJ nY dQ fJ h_pl_wanted h_pl_near h_pl_seconds h_tr_fruits h_tr_standings h_no_ladder hpost _ x1 0 rJ pN 0 vI h_x1 (by omega) (by omega)⟩
  · skip
    have c60 := mt (fa_le _ _).mpr c60
    intro v63 ev63
    have f64 := ti_shr oX x2 (by omega)
    have hv63 := congrArg Int32.toInt ev63
    have f66 := ti_andr v63 1 (by omega)
    have f67 := ti_andl v63 1 (by omega)
    refine And.intro (fun c65 => ?_) (fun c65 => ?_)
    · skip
      have c65 := (fa_eq _ _).mp c65
      have f68 := tp_r rJ
      have f69 := tp_r pN
      have f70 := tp_r rP
      exact ts_X5_workSeconds_60 oX rX rO bZ bD nJ nY dQ fJ h_pl_wanted h_pl_near h_pl_seconds h_tr_fruits h_tr_standings h_no_ladder hpost hKn x1 x2 (-1) rJ pN rP vI h_x1 (by omega) (by omega) hn28
    · skip
      have c65 := mt (fa_eq _ _).mpr c65
      refine t_X5_quickest (by omega) h_x1 h_pl_near h_pl_seconds h_tr_standings (fun r71 h_r71 => ?_)
      have f72 := tp_r rJ
      have f73 := tp_r pN
      have f74 := tp_r rP
      exact ts_X5_workSeconds_60 oX rX rO bZ bD nJ nY dQ fJ h_pl_wanted h_pl_near h_pl_seconds h_tr_fruits h_tr_standings h_no_ladder hpost hKn x1 x2 r71 rJ pN rP vI h_x1 (by omega) h_r71 hn28
set_option maxHeartbeats 8000000 in
set_option maxRecDepth 200000 in
theorem tb_X5_workSeconds_28 {post : Int32 → Int32 → Int32 → Int32 → (Nat → Int32) → Prop} (oX : Int32) (rX rO : Nat → Int32) (bZ bD : Int32) (nJ nY dQ : Nat → Int32) (fJ : Int32) (h_pl_wanted : 0 ≤ Int32.toInt oX ∧ Int32.toInt oX ≤ 65535) (h_pl_near : ∀ k : Nat, 0 ≤ Int32.toInt (rX k) ∧ Int32.toInt (rX k) ≤ 65535) (h_pl_seconds : ∀ k : Nat, 0 ≤ Int32.toInt (rO k) ∧ Int32.toInt (rO k) ≤ 99) (h_tr_fruits : 0 ≤ Int32.toInt bZ ∧ Int32.toInt bZ ≤ 16) (h_tr_standings : 0 ≤ Int32.toInt bD ∧ Int32.toInt bD ≤ 8) (h_no_ladder : -1 ≤ Int32.toInt fJ ∧ Int32.toInt fJ ≤ 7) (hpost : ∀ (r : Int32) (pl_moves' : Int32) (pl_picking' : Int32) (pl_downs' : Int32) (pl_many' : Nat → Int32), post r pl_moves' pl_picking' pl_downs' pl_many') : ∀ (n : Nat) (x1 x2 rJ pN rP : Int32) (vI : Nat → Int32), (0 ≤ Int32.toInt x1 ∧ Int32.toInt x1 ≤ 255) → (0 ≤ Int32.toInt x2 ∧ Int32.toInt x2 ≤ 16) → (16 - Int32.toInt x2 < (n : Int)) → wb_X5_workSeconds_28 post oX rX rO bZ bD nJ nY dQ fJ n x1 x2 rJ pN rP vI := by
  intro n
  induction n with
  | zero =>
    intro x1 x2 rJ pN rP vI h_x1 h_x2 hm
    exfalso; omega
  | succ n ih =>
    intro x1 x2 rJ pN rP vI h_x1 h_x2 hm
    exact ts_X5_workSeconds_28 oX rX rO bZ bD nJ nY dQ fJ h_pl_wanted h_pl_near h_pl_seconds h_tr_fruits h_tr_standings h_no_ladder hpost ih x1 x2 rJ pN rP vI h_x1 h_x2 (by omega)
set_option maxHeartbeats 8000000 in
set_option maxRecDepth 200000 in
theorem ts_X5_workSeconds_2 {post : Int32 → Int32 → Int32 → Int32 → (Nat → Int32) → Prop} {next : Int32 → Int32 → Int32 → Int32 → Int32 → (Nat → Int32) → Prop} {n2 : Int} (oX : Int32) (rX rO : Nat → Int32) (bZ bD : Int32) (nJ nY dQ : Nat → Int32) (fJ : Int32) (h_pl_wanted : 0 ≤ Int32.toInt oX ∧ Int32.toInt oX ≤ 65535) (h_pl_near : ∀ k : Nat, 0 ≤ Int32.toInt (rX k) ∧ Int32.toInt (rX k) ≤ 65535) (h_pl_seconds : ∀ k : Nat, 0 ≤ Int32.toInt (rO k) ∧ Int32.toInt (rO k) ≤ 99) (h_tr_fruits : 0 ≤ Int32.toInt bZ ∧ Int32.toInt bZ ≤ 16) (h_tr_standings : 0 ≤ Int32.toInt bD ∧ Int32.toInt bD ≤ 8) (h_no_ladder : -1 ≤ Int32.toInt fJ ∧ Int32.toInt fJ ≤ 7) (hpost : ∀ (r : Int32) (pl_moves' : Int32) (pl_picking' : Int32) (pl_downs' : Int32) (pl_many' : Nat → Int32), post r pl_moves' pl_picking' pl_downs' pl_many') (hKn : ∀ (x1 : Int32) (x2 : Int32) (rJ : Int32) (pN : Int32) (rP : Int32) (vI : Nat → Int32), (0 ≤ Int32.toInt x1 ∧ Int32.toInt x1 ≤ 255) → (0 ≤ Int32.toInt x2 ∧ Int32.toInt x2 ≤ 8) → (8 - Int32.toInt x2 < n2) → next x1 x2 rJ pN rP vI) (x1 x2 rJ pN rP : Int32) (vI : Nat → Int32) (h_x1 : 0 ≤ Int32.toInt x1 ∧ Int32.toInt x1 ≤ 255) (h_x2 : 0 ≤ Int32.toInt x2 ∧ Int32.toInt x2 ≤ 8) (hn2 : 8 - Int32.toInt x2 ≤ n2) : ws_X5_workSeconds_2 post next oX rX rO bZ bD nJ nY dQ fJ x1 x2 rJ pN rP vI := by
  have l0 := li_0
  have l1 := li_1
  have l2 := li_8
  refine And.intro (fun c75 => ?_) (fun c75 => ?_)
  · skip
    have c75 := (fa_le _ _).mp c75
    have f76 := tp_r rJ
    have f77 := tp_r rP
    exact ⟨18, tb_X5_workSeconds_28 oX rX rO bZ bD nJ nY dQ fJ h_pl_wanted h_pl_near h_pl_seconds h_tr_fruits h_tr_standings h_no_ladder hpost _ x1 0 rJ 0 rP vI h_x1 (by omega) (by omega)⟩
  · skip
    have c75 := mt (fa_le _ _).mpr c75
    refine And.intro (t_in (by omega)) ?_
    intro v78 ev78
    have f79 : Int32.toInt (x2 + 1) = Int32.toInt x2 + Int32.toInt (1 : Int32) := ta_add _ _ (by omega)
    rw [← ev78] at f79
    have f80 := tp_r rJ
    have f81 := tp_r pN
    have f82 := tp_r rP
    exact hKn x1 v78 rJ pN rP (upd vI x2.toNatClampNeg 0) h_x1 (by omega) (by omega)
set_option maxHeartbeats 8000000 in
set_option maxRecDepth 200000 in
theorem tb_X5_workSeconds_2 {post : Int32 → Int32 → Int32 → Int32 → (Nat → Int32) → Prop} (oX : Int32) (rX rO : Nat → Int32) (bZ bD : Int32) (nJ nY dQ : Nat → Int32) (fJ : Int32) (h_pl_wanted : 0 ≤ Int32.toInt oX ∧ Int32.toInt oX ≤ 65535) (h_pl_near : ∀ k : Nat, 0 ≤ Int32.toInt (rX k) ∧ Int32.toInt (rX k) ≤ 65535) (h_pl_seconds : ∀ k : Nat, 0 ≤ Int32.toInt (rO k) ∧ Int32.toInt (rO k) ≤ 99) (h_tr_fruits : 0 ≤ Int32.toInt bZ ∧ Int32.toInt bZ ≤ 16) (h_tr_standings : 0 ≤ Int32.toInt bD ∧ Int32.toInt bD ≤ 8) (h_no_ladder : -1 ≤ Int32.toInt fJ ∧ Int32.toInt fJ ≤ 7) (hpost : ∀ (r : Int32) (pl_moves' : Int32) (pl_picking' : Int32) (pl_downs' : Int32) (pl_many' : Nat → Int32), post r pl_moves' pl_picking' pl_downs' pl_many') : ∀ (n : Nat) (x1 x2 rJ pN rP : Int32) (vI : Nat → Int32), (0 ≤ Int32.toInt x1 ∧ Int32.toInt x1 ≤ 255) → (0 ≤ Int32.toInt x2 ∧ Int32.toInt x2 ≤ 8) → (8 - Int32.toInt x2 < (n : Int)) → wb_X5_workSeconds_2 post oX rX rO bZ bD nJ nY dQ fJ n x1 x2 rJ pN rP vI := by
  intro n
  induction n with
  | zero =>
    intro x1 x2 rJ pN rP vI h_x1 h_x2 hm
    exfalso; omega
  | succ n ih =>
    intro x1 x2 rJ pN rP vI h_x1 h_x2 hm
    exact ts_X5_workSeconds_2 oX rX rO bZ bD nJ nY dQ fJ h_pl_wanted h_pl_near h_pl_seconds h_tr_fruits h_tr_standings h_no_ladder hpost ih x1 x2 rJ pN rP vI h_x1 h_x2 (by omega)
set_option maxHeartbeats 8000000 in
set_option maxRecDepth 200000 in
theorem t_X5_workSeconds {post : Int32 → Int32 → Int32 → Int32 → (Nat → Int32) → Prop} {p0 oX rJ pN rP : Int32} {rX rO vI : Nat → Int32} {bZ bD : Int32} {nJ nY dQ : Nat → Int32} {fJ : Int32} (h_p0 : 0 ≤ Int32.toInt p0 ∧ Int32.toInt p0 ≤ 255) (h_pl_wanted : 0 ≤ Int32.toInt oX ∧ Int32.toInt oX ≤ 65535) (h_pl_near : ∀ k : Nat, 0 ≤ Int32.toInt (rX k) ∧ Int32.toInt (rX k) ≤ 65535) (h_pl_seconds : ∀ k : Nat, 0 ≤ Int32.toInt (rO k) ∧ Int32.toInt (rO k) ≤ 99) (h_tr_fruits : 0 ≤ Int32.toInt bZ ∧ Int32.toInt bZ ≤ 16) (h_tr_standings : 0 ≤ Int32.toInt bD ∧ Int32.toInt bD ≤ 8) (h_no_ladder : -1 ≤ Int32.toInt fJ ∧ Int32.toInt fJ ≤ 7) (hpost : ∀ (r : Int32) (pl_moves' : Int32) (pl_picking' : Int32) (pl_downs' : Int32) (pl_many' : Nat → Int32), post r pl_moves' pl_picking' pl_downs' pl_many') : wp_X5_workSeconds post p0 oX rJ pN rP rX rO vI bZ bD nJ nY dQ fJ := by
  have l0 := li_0
  have f83 := tp_r rJ
  have f84 := tp_r pN
  have f85 := tp_r rP
  exact ⟨10, tb_X5_workSeconds_2 oX rX rO bZ bD nJ nY dQ fJ h_pl_wanted h_pl_near h_pl_seconds h_tr_fruits h_tr_standings h_no_ladder hpost _ p0 0 rJ pN rP vI h_p0 (by omega) (by omega)⟩
set_option maxHeartbeats 8000000 in
set_option maxRecDepth 200000 in
theorem t_X9_work {post : Int32 → Int32 → Int32 → Int32 → Int32 → (Nat → Int32) → (Nat → Int32) → (Nat → Int32) → (Nat → Int32) → (Nat → Int32) → Int32 → (Nat → Int32) → Prop} {p0 oX rJ pN rP : Int32} {rX rO vI : Nat → Int32} {bZ bD : Int32} {wD gF pE qA nJ nY dQ : Nat → Int32} {jC eO eW dO fJ fY jD pG : Int32} {qO qQ oF : Nat → Int32} {qF : Int32} {jJ : Nat → Int32} (h_pl_wanted : 0 ≤ Int32.toInt oX ∧ Int32.toInt oX ≤ 65535) (h_pl_near : ∀ k : Nat, 0 ≤ Int32.toInt (rX k) ∧ Int32.toInt (rX k) ≤ 65535) (h_pl_seconds : ∀ k : Nat, 0 ≤ Int32.toInt (rO k) ∧ Int32.toInt (rO k) ≤ 99) (h_tr_fruits : 0 ≤ Int32.toInt bZ ∧ Int32.toInt bZ ≤ 16) (h_tr_standings : 0 ≤ Int32.toInt bD ∧ Int32.toInt bD ≤ 8) (h_no_ladder : -1 ≤ Int32.toInt fJ ∧ Int32.toInt fJ ≤ 7) (h_no_today : 0 ≤ Int32.toInt jD ∧ Int32.toInt jD ≤ 9) (h_ru_length : 0 ≤ Int32.toInt pG ∧ Int32.toInt pG ≤ 40) (h_ro_size : 0 ≤ Int32.toInt qF ∧ Int32.toInt qF ≤ 16) (hpost : ∀ (r : Int32) (pl_wanted' : Int32) (pl_moves' : Int32) (pl_picking' : Int32) (pl_downs' : Int32) (pl_near' : Nat → Int32) (pl_seconds' : Nat → Int32) (pl_many' : Nat → Int32) (ru_given' : Nat → Int32) (ru_stack' : Nat → Int32) (ro_size' : Int32) (ro_numbers' : Nat → Int32), (0 ≤ Int32.toInt pl_wanted' ∧ Int32.toInt pl_wanted' ≤ 65535) → (∀ k : Nat, 0 ≤ Int32.toInt (pl_near' k) ∧ Int32.toInt (pl_near' k) ≤ 65535) → (∀ k : Nat, 0 ≤ Int32.toInt (pl_seconds' k) ∧ Int32.toInt (pl_seconds' k) ≤ 99) → (0 ≤ Int32.toInt ro_size' ∧ Int32.toInt ro_size' ≤ 16) → post r pl_wanted' pl_moves' pl_picking' pl_downs' pl_near' pl_seconds' pl_many' ru_given' ru_stack' ro_size' ro_numbers') : wp_X9_work post p0 oX rJ pN rP rX rO vI bZ bD wD gF pE qA nJ nY dQ jC eO eW dO fJ fY jD pG qO qQ oF qF jJ := by
  have l0 := li_0
  have l1 := li_1
  have l2 := li_16
  intro v1 ev1
  have f2 := ti_shl1 8 256 bD (by decide) (by omega)
  have hv1 := congrArg Int32.toInt ev1
  refine And.intro (fun c3 => ?_) (fun c3 => ?_)
  · skip
    have c3 := mt (fa_eq _ _).mpr c3
    refine And.intro (fun h9 => absurd h9 (by decide)) (fun _ => ?_)
    exact hpost _ _ _ _ _ _ _ _ _ _ _ _ h_pl_wanted h_pl_near h_pl_seconds h_ro_size
  · skip
    have c3Z := c3
    have c3 := (fa_eq _ _).mp c3
    have f5 : Int32.toInt (v1 - 1) = Int32.toInt v1 - Int32.toInt (1 : Int32) := ta_sub _ _ (by omega)
    have s6 := ti_subset p0 (v1 - 1) (c3Z) (by omega)
    refine And.intro (fun _ => ?_) (fun h9 => absurd h9 (by decide))
    refine t_X5_lookAs h_no_today h_pl_wanted h_pl_near h_tr_fruits h_tr_standings (fun pl_wanted_7 pl_near_8 h_pl_wanted_7 h_pl_near_8 => ?_)
    refine t_X5_timeAll h_pl_wanted_7 h_pl_near_8 h_pl_seconds h_tr_fruits h_tr_standings h_ru_length (fun pl_seconds_9 aCA aCB h_pl_seconds_9 => ?_)
    refine t_X5_workSeconds (by omega) h_pl_wanted_7 h_pl_near_8 h_pl_seconds_9 h_tr_fruits h_tr_standings h_no_ladder (fun r16 pl_moves_12 pl_picking_13 pl_downs_14 pl_many_15 => ?_)
    refine And.intro (fun h9 => absurd h9 (by decide)) (fun _ => ?_)
    refine And.intro (t_in (by omega)) ?_
    intro v17 ev17
    have f18 : Int32.toInt (0 + 1) = Int32.toInt (0 : Int32) + Int32.toInt (1 : Int32) := ta_add _ _ (by omega)
    rw [← ev17] at f18
    refine And.intro (fun c19 => ?_) (fun c19 => ?_)
    · skip
      have c19 := (fa_le _ _).mp c19
      exfalso; omega
    · skip
      have c19 := mt (fa_le _ _).mpr c19
      refine And.intro (t_in (by omega)) ?_
      intro v20 ev20
      have f21 : Int32.toInt (v17 + 1) = Int32.toInt v17 + Int32.toInt (1 : Int32) := ta_add _ _ (by omega)
      rw [← ev20] at f21
      refine And.intro (fun c22 => ?_) (fun c22 => ?_)
      · skip
        have c22 := (fa_le _ _).mp c22
        exfalso; omega
      · skip
        have c22 := mt (fa_le _ _).mpr c22
        refine And.intro (t_in (by omega)) ?_
        intro v23 ev23
        have f24 : Int32.toInt (v20 + 1) = Int32.toInt v20 + Int32.toInt (1 : Int32) := ta_add _ _ (by omega)
        rw [← ev23] at f24
        exact hpost _ _ _ _ _ _ _ _ _ _ _ _ h_pl_wanted_7 h_pl_near_8 h_pl_seconds_9 (by omega)
set_option maxHeartbeats 8000000 in
set_option maxRecDepth 200000 in
theorem ts_X9_soonest_100 {post : Int32 → Int32 → Int32 → Int32 → Int32 → (Nat → Int32) → (Nat → Int32) → (Nat → Int32) → (Nat → Int32) → (Nat → Int32) → Int32 → (Nat → Int32) → Prop} {K33 : Int32 → Int32 → Int32 → Int32 → Int32 → Int32 → Int32 → (Nat → Int32) → (Nat → Int32) → (Nat → Int32) → (Nat → Int32) → (Nat → Int32) → Int32 → (Nat → Int32) → Prop} {n33 : Int} (bZ bD : Int32) (wD gF pE qA nJ nY dQ : Nat → Int32) (jC eO eW dO fJ fY jD pG : Int32) (oF : Nat → Int32) (h_tr_fruits : 0 ≤ Int32.toInt bZ ∧ Int32.toInt bZ ≤ 16) (h_tr_standings : 0 ≤ Int32.toInt bD ∧ Int32.toInt bD ≤ 8) (h_no_ladder : -1 ≤ Int32.toInt fJ ∧ Int32.toInt fJ ≤ 7) (h_no_today : 0 ≤ Int32.toInt jD ∧ Int32.toInt jD ≤ 9) (h_ru_length : 0 ≤ Int32.toInt pG ∧ Int32.toInt pG ≤ 40) (hpost : ∀ (r : Int32) (pl_wanted' : Int32) (pl_moves' : Int32) (pl_picking' : Int32) (pl_downs' : Int32) (pl_near' : Nat → Int32) (pl_seconds' : Nat → Int32) (pl_many' : Nat → Int32) (ru_given' : Nat → Int32) (ru_stack' : Nat → Int32) (ro_size' : Int32) (ro_numbers' : Nat → Int32), (0 ≤ Int32.toInt pl_wanted' ∧ Int32.toInt pl_wanted' ≤ 65535) → (∀ k : Nat, 0 ≤ Int32.toInt (pl_near' k) ∧ Int32.toInt (pl_near' k) ≤ 65535) → (∀ k : Nat, 0 ≤ Int32.toInt (pl_seconds' k) ∧ Int32.toInt (pl_seconds' k) ≤ 99) → (1 ≤ Int32.toInt ro_size' ∧ Int32.toInt ro_size' ≤ 1) → post r pl_wanted' pl_moves' pl_picking' pl_downs' pl_near' pl_seconds' pl_many' ru_given' ru_stack' ro_size' ro_numbers') (hK33 : ∀ (x1 : Int32) (x2 : Int32) (x3 : Int32) (oX : Int32) (rJ : Int32) (pN : Int32) (rP : Int32) (rX : Nat → Int32) (rO : Nat → Int32) (vI : Nat → Int32) (qO : Nat → Int32) (qQ : Nat → Int32) (qF : Int32) (jJ : Nat → Int32), (0 ≤ Int32.toInt x1 ∧ Int32.toInt x1 ≤ 255) → (0 ≤ Int32.toInt x3 ∧ Int32.toInt x3 ≤ 256) → (0 ≤ Int32.toInt oX ∧ Int32.toInt oX ≤ 65535) → (∀ k : Nat, 0 ≤ Int32.toInt (rX k) ∧ Int32.toInt (rX k) ≤ 65535) → (∀ k : Nat, 0 ≤ Int32.toInt (rO k) ∧ Int32.toInt (rO k) ≤ 99) → (0 ≤ Int32.toInt qF ∧ Int32.toInt qF ≤ 16) → (256 - Int32.toInt x3 < n33) → K33 x1 x2 x3 oX rJ pN rP rX rO vI qO qQ qF jJ) (x1 x2 x3 oX rJ pN rP : Int32) (rX rO vI qO qQ : Nat → Int32) (qF : Int32) (jJ : Nat → Int32) (h_x1 : 0 ≤ Int32.toInt x1 ∧ Int32.toInt x1 ≤ 255) (h_x3 : 0 ≤ Int32.toInt x3 ∧ Int32.toInt x3 ≤ 255) (h_pl_wanted : 0 ≤ Int32.toInt oX ∧ Int32.toInt oX ≤ 65535) (h_pl_near : ∀ k : Nat, 0 ≤ Int32.toInt (rX k) ∧ Int32.toInt (rX k) ≤ 65535) (h_pl_seconds : ∀ k : Nat, 0 ≤ Int32.toInt (rO k) ∧ Int32.toInt (rO k) ≤ 99) (h_ro_size : 0 ≤ Int32.toInt qF ∧ Int32.toInt qF ≤ 16) (hn33 : 256 - Int32.toInt x3 ≤ n33) : ws_X9_soonest_100 post K33 bZ bD wD gF pE qA nJ nY dQ jC eO eW dO fJ fY jD pG oF x1 x2 x3 oX rJ pN rP rX rO vI qO qQ qF jJ := by
  have l0 := li_1
  intro v1 ev1
  have f2 : Int32.toInt (x3 + 1) = Int32.toInt x3 + Int32.toInt (1 : Int32) := ta_add _ _ (by omega)
  rw [← ev1] at f2
  have f3 := tp_r x2
  have f4 := tp_r rJ
  have f5 := tp_r pN
  have f6 := tp_r rP
  exact hK33 x1 x2 v1 oX rJ pN rP rX rO vI qO qQ qF jJ h_x1 (by omega) h_pl_wanted h_pl_near h_pl_seconds h_ro_size (by omega)
set_option maxHeartbeats 8000000 in
set_option maxRecDepth 200000 in
theorem ts_X9_soonest_95 {post : Int32 → Int32 → Int32 → Int32 → Int32 → (Nat → Int32) → (Nat → Int32) → (Nat → Int32) → (Nat → Int32) → (Nat → Int32) → Int32 → (Nat → Int32) → Prop} {K33 : Int32 → Int32 → Int32 → Int32 → Int32 → Int32 → Int32 → (Nat → Int32) → (Nat → Int32) → (Nat → Int32) → (Nat → Int32) → (Nat → Int32) → Int32 → (Nat → Int32) → Prop} {n33 : Int} (bZ bD : Int32) (wD gF pE qA nJ nY dQ : Nat → Int32) (jC eO eW dO fJ fY jD pG : Int32) (oF : Nat → Int32) (h_tr_fruits : 0 ≤ Int32.toInt bZ ∧ Int32.toInt bZ ≤ 16) (h_tr_standings : 0 ≤ Int32.toInt bD ∧ Int32.toInt bD ≤ 8) (h_no_ladder : -1 ≤ Int32.toInt fJ ∧ Int32.toInt fJ ≤ 7) (h_no_today : 0 ≤ Int32.toInt jD ∧ Int32.toInt jD ≤ 9) (h_ru_length : 0 ≤ Int32.toInt pG ∧ Int32.toInt pG ≤ 40) (hpost : ∀ (r : Int32) (pl_wanted' : Int32) (pl_moves' : Int32) (pl_picking' : Int32) (pl_downs' : Int32) (pl_near' : Nat → Int32) (pl_seconds' : Nat → Int32) (pl_many' : Nat → Int32) (ru_given' : Nat → Int32) (ru_stack' : Nat → Int32) (ro_size' : Int32) (ro_numbers' : Nat → Int32), (0 ≤ Int32.toInt pl_wanted' ∧ Int32.toInt pl_wanted' ≤ 65535) → (∀ k : Nat, 0 ≤ Int32.toInt (pl_near' k) ∧ Int32.toInt (pl_near' k) ≤ 65535) → (∀ k : Nat, 0 ≤ Int32.toInt (pl_seconds' k) ∧ Int32.toInt (pl_seconds' k) ≤ 99) → (1 ≤ Int32.toInt ro_size' ∧ Int32.toInt ro_size' ≤ 1) → post r pl_wanted' pl_moves' pl_picking' pl_downs' pl_near' pl_seconds' pl_many' ru_given' ru_stack' ro_size' ro_numbers') (hK33 : ∀ (x1 : Int32) (x2 : Int32) (x3 : Int32) (oX : Int32) (rJ : Int32) (pN : Int32) (rP : Int32) (rX : Nat → Int32) (rO : Nat → Int32) (vI : Nat → Int32) (qO : Nat → Int32) (qQ : Nat → Int32) (qF : Int32) (jJ : Nat → Int32), (0 ≤ Int32.toInt x1 ∧ Int32.toInt x1 ≤ 255) → (0 ≤ Int32.toInt x3 ∧ Int32.toInt x3 ≤ 256) → (0 ≤ Int32.toInt oX ∧ Int32.toInt oX ≤ 65535) → (∀ k : Nat, 0 ≤ Int32.toInt (rX k) ∧ Int32.toInt (rX k) ≤ 65535) → (∀ k : Nat, 0 ≤ Int32.toInt (rO k) ∧ Int32.toInt (rO k) ≤ 99) → (0 ≤ Int32.toInt qF ∧ Int32.toInt qF ≤ 16) → (256 - Int32.toInt x3 < n33) → K33 x1 x2 x3 oX rJ pN rP rX rO vI qO qQ qF jJ) (x3 x4 oX rJ pN rP : Int32) (rX rO vI qO qQ : Nat → Int32) (qF : Int32) (jJ : Nat → Int32) (h_x3 : 0 ≤ Int32.toInt x3 ∧ Int32.toInt x3 ≤ 255) (h_pl_wanted : 0 ≤ Int32.toInt oX ∧ Int32.toInt oX ≤ 65535) (h_pl_near : ∀ k : Nat, 0 ≤ Int32.toInt (rX k) ∧ Int32.toInt (rX k) ≤ 65535) (h_pl_seconds : ∀ k : Nat, 0 ≤ Int32.toInt (rO k) ∧ Int32.toInt (rO k) ≤ 99) (h_ro_size : 0 ≤ Int32.toInt qF ∧ Int32.toInt qF ≤ 16) (hn33 : 256 - Int32.toInt x3 ≤ n33) : ws_X9_soonest_95 post K33 bZ bD wD gF pE qA nJ nY dQ jC eO eW dO fJ fY jD pG oF x3 x4 oX rJ pN rP rX rO vI qO qQ qF jJ := by
  have f7 := tp_r x4
  have f8 := tp_r rJ
  have f9 := tp_r pN
  have f10 := tp_r rP
  exact ts_X9_soonest_100 bZ bD wD gF pE qA nJ nY dQ jC eO eW dO fJ fY jD pG oF h_tr_fruits h_tr_standings h_no_ladder h_no_today h_ru_length hpost hK33 x3 x4 x3 oX rJ pN rP rX rO vI qO qQ qF jJ h_x3 h_x3 h_pl_wanted h_pl_near h_pl_seconds h_ro_size hn33
set_option maxHeartbeats 8000000 in
set_option maxRecDepth 200000 in
theorem ts_X9_soonest_33 {post : Int32 → Int32 → Int32 → Int32 → Int32 → (Nat → Int32) → (Nat → Int32) → (Nat → Int32) → (Nat → Int32) → (Nat → Int32) → Int32 → (Nat → Int32) → Prop} {next : Int32 → Int32 → Int32 → Int32 → Int32 → Int32 → Int32 → (Nat → Int32) → (Nat → Int32) → (Nat → Int32) → (Nat → Int32) → (Nat → Int32) → Int32 → (Nat → Int32) → Prop} {n33 : Int} (bZ bD : Int32) (wD gF pE qA nJ nY dQ : Nat → Int32) (jC eO eW dO fJ fY jD pG : Int32) (oF : Nat → Int32) (h_tr_fruits : 0 ≤ Int32.toInt bZ ∧ Int32.toInt bZ ≤ 16) (h_tr_standings : 0 ≤ Int32.toInt bD ∧ Int32.toInt bD ≤ 8) (h_no_ladder : -1 ≤ Int32.toInt fJ ∧ Int32.toInt fJ ≤ 7) (h_no_today : 0 ≤ Int32.toInt jD ∧ Int32.toInt jD ≤ 9) (h_ru_length : 0 ≤ Int32.toInt pG ∧ Int32.toInt pG ≤ 40) (hpost : ∀ (r : Int32) (pl_wanted' : Int32) (pl_moves' : Int32) (pl_picking' : Int32) (pl_downs' : Int32) (pl_near' : Nat → Int32) (pl_seconds' : Nat → Int32) (pl_many' : Nat → Int32) (ru_given' : Nat → Int32) (ru_stack' : Nat → Int32) (ro_size' : Int32) (ro_numbers' : Nat → Int32), (0 ≤ Int32.toInt pl_wanted' ∧ Int32.toInt pl_wanted' ≤ 65535) → (∀ k : Nat, 0 ≤ Int32.toInt (pl_near' k) ∧ Int32.toInt (pl_near' k) ≤ 65535) → (∀ k : Nat, 0 ≤ Int32.toInt (pl_seconds' k) ∧ Int32.toInt (pl_seconds' k) ≤ 99) → (1 ≤ Int32.toInt ro_size' ∧ Int32.toInt ro_size' ≤ 1) → post r pl_wanted' pl_moves' pl_picking' pl_downs' pl_near' pl_seconds' pl_many' ru_given' ru_stack' ro_size' ro_numbers') (hKn : ∀ (x1 : Int32) (x2 : Int32) (x3 : Int32) (oX : Int32) (rJ : Int32) (pN : Int32) (rP : Int32) (rX : Nat → Int32) (rO : Nat → Int32) (vI : Nat → Int32) (qO : Nat → Int32) (qQ : Nat → Int32) (qF : Int32) (jJ : Nat → Int32), (0 ≤ Int32.toInt x1 ∧ Int32.toInt x1 ≤ 255) → (0 ≤ Int32.toInt x3 ∧ Int32.toInt x3 ≤ 256) → (0 ≤ Int32.toInt oX ∧ Int32.toInt oX ≤ 65535) → (∀ k : Nat, 0 ≤ Int32.toInt (rX k) ∧ Int32.toInt (rX k) ≤ 65535) → (∀ k : Nat, 0 ≤ Int32.toInt (rO k) ∧ Int32.toInt (rO k) ≤ 99) → (0 ≤ Int32.toInt qF ∧ Int32.toInt qF ≤ 16) → (256 - Int32.toInt x3 < n33) → next x1 x2 x3 oX rJ pN rP rX rO vI qO qQ qF jJ) (x1 x2 x3 oX rJ pN rP : Int32) (rX rO vI qO qQ : Nat → Int32) (qF : Int32) (jJ : Nat → Int32) (h_x1 : 0 ≤ Int32.toInt x1 ∧ Int32.toInt x1 ≤ 255) (h_x3 : 0 ≤ Int32.toInt x3 ∧ Int32.toInt x3 ≤ 256) (h_pl_wanted : 0 ≤ Int32.toInt oX ∧ Int32.toInt oX ≤ 65535) (h_pl_near : ∀ k : Nat, 0 ≤ Int32.toInt (rX k) ∧ Int32.toInt (rX k) ≤ 65535) (h_pl_seconds : ∀ k : Nat, 0 ≤ Int32.toInt (rO k) ∧ Int32.toInt (rO k) ≤ 99) (h_ro_size : 0 ≤ Int32.toInt qF ∧ Int32.toInt qF ≤ 16) (hn33 : 256 - Int32.toInt x3 ≤ n33) : ws_X9_soonest_33 post next bZ bD wD gF pE qA nJ nY dQ jC eO eW dO fJ fY jD pG oF x1 x2 x3 oX rJ pN rP rX rO vI qO qQ qF jJ := by
  have l0 := li_0
  have l1 := li_1
  intro v11 ev11
  have f12 := ti_shl1 8 256 bD (by decide) (by omega)
  have hv11 := congrArg Int32.toInt ev11
  have f14 : Int32.toInt (v11 - 1) = Int32.toInt v11 - Int32.toInt (1 : Int32) := ta_sub _ _ (by omega)
  refine And.intro (fun c13 => ?_) (fun c13 => ?_)
  · skip
    have c13 := (fa_le _ _).mp c13
    refine And.intro (fun h9 => absurd h9 (by decide)) (fun _ => ?_)
    refine And.intro (t_in (by omega)) ?_
    intro v15 ev15
    have f16 : Int32.toInt (0 + 1) = Int32.toInt (0 : Int32) + Int32.toInt (1 : Int32) := ta_add _ _ (by omega)
    rw [← ev15] at f16
    exact hpost _ _ _ _ _ _ _ _ _ _ _ _ h_pl_wanted h_pl_near h_pl_seconds (by omega)
  · skip
    have c13 := mt (fa_le _ _).mpr c13
    refine t_X5_reachedBy (by omega) h_pl_near h_tr_standings (fun r17 h_r17 => ?_)
    have f20 := ti_andl oX (r17 ^^^ (-1)) (by omega)
    refine And.intro (fun c18 => ?_) (fun c18 => ?_)
    · skip
      have c18 := mt (fa_eq _ _).mpr c18
      have f21 := tp_r x2
      have f22 := tp_r rJ
      have f23 := tp_r pN
      have f24 := tp_r rP
      exact ts_X9_soonest_100 bZ bD wD gF pE qA nJ nY dQ jC eO eW dO fJ fY jD pG oF h_tr_fruits h_tr_standings h_no_ladder h_no_today h_ru_length hpost hKn x1 x2 x3 oX rJ pN rP rX rO vI qO qQ qF jJ h_x1 (by omega) h_pl_wanted h_pl_near h_pl_seconds h_ro_size hn33
    · skip
      have c18Z := c18
      have c18 := (fa_eq _ _).mp c18
      have s25 := ti_subset oX r17 (c18Z) (by omega)
      refine t_X5_workSeconds (by omega) h_pl_wanted h_pl_near h_pl_seconds h_tr_fruits h_tr_standings h_no_ladder (fun r30 aGH aDt aGI pl_many_29 => ?_)
      have f32 := tp_r r30
      have f33 := tp_r x2
      refine And.intro (fun c31 => ?_) (fun c31 => ?_)
      · skip
        have c31 := (fa_lt _ _).mp c31
        have f34 := tp_r aGH
        have f35 := tp_r aDt
        have f36 := tp_r aGI
        exact ts_X9_soonest_95 bZ bD wD gF pE qA nJ nY dQ jC eO eW dO fJ fY jD pG oF h_tr_fruits h_tr_standings h_no_ladder h_no_today h_ru_length hpost hKn x3 r30 oX aGH aDt aGI rX rO pl_many_29 qO qQ qF jJ (by omega) h_pl_wanted h_pl_near h_pl_seconds h_ro_size hn33
      · skip
        have c31 := mt (fa_lt _ _).mpr c31
        refine And.intro (fun c37 => ?_) (fun c37 => ?_)
        · skip
          have c37 := mt (fa_eq _ _).mpr c37
          have f38 := tp_r aGH
          have f39 := tp_r aDt
          have f40 := tp_r aGI
          exact ts_X9_soonest_100 bZ bD wD gF pE qA nJ nY dQ jC eO eW dO fJ fY jD pG oF h_tr_fruits h_tr_standings h_no_ladder h_no_today h_ru_length hpost hKn x1 x2 x3 oX aGH aDt aGI rX rO pl_many_29 qO qQ qF jJ h_x1 (by omega) h_pl_wanted h_pl_near h_pl_seconds h_ro_size hn33
        · skip
          have c37 := (fa_eq _ _).mp c37
          refine t_X9_isFewer (by omega) h_x1 (fun r41 h_r41 => ?_)
          refine And.intro (fun c42 => ?_) (fun c42 => ?_)
          · skip
            have c42 := (fa_eq _ _).mp c42
            have f43 := tp_r aGH
            have f44 := tp_r aDt
            have f45 := tp_r aGI
            exact ts_X9_soonest_100 bZ bD wD gF pE qA nJ nY dQ jC eO eW dO fJ fY jD pG oF h_tr_fruits h_tr_standings h_no_ladder h_no_today h_ru_length hpost hKn x1 x2 x3 oX aGH aDt aGI rX rO pl_many_29 qO qQ qF jJ h_x1 (by omega) h_pl_wanted h_pl_near h_pl_seconds h_ro_size hn33
          · skip
            have c42 := mt (fa_eq _ _).mpr c42
            have f46 := tp_r aGH
            have f47 := tp_r aDt
            have f48 := tp_r aGI
            exact ts_X9_soonest_95 bZ bD wD gF pE qA nJ nY dQ jC eO eW dO fJ fY jD pG oF h_tr_fruits h_tr_standings h_no_ladder h_no_today h_ru_length hpost hKn x3 r30 oX aGH aDt aGI rX rO pl_many_29 qO qQ qF jJ (by omega) h_pl_wanted h_pl_near h_pl_seconds h_ro_size hn33
set_option maxHeartbeats 8000000 in
set_option maxRecDepth 200000 in
theorem tb_X9_soonest_33 {post : Int32 → Int32 → Int32 → Int32 → Int32 → (Nat → Int32) → (Nat → Int32) → (Nat → Int32) → (Nat → Int32) → (Nat → Int32) → Int32 → (Nat → Int32) → Prop} (bZ bD : Int32) (wD gF pE qA nJ nY dQ : Nat → Int32) (jC eO eW dO fJ fY jD pG : Int32) (oF : Nat → Int32) (h_tr_fruits : 0 ≤ Int32.toInt bZ ∧ Int32.toInt bZ ≤ 16) (h_tr_standings : 0 ≤ Int32.toInt bD ∧ Int32.toInt bD ≤ 8) (h_no_ladder : -1 ≤ Int32.toInt fJ ∧ Int32.toInt fJ ≤ 7) (h_no_today : 0 ≤ Int32.toInt jD ∧ Int32.toInt jD ≤ 9) (h_ru_length : 0 ≤ Int32.toInt pG ∧ Int32.toInt pG ≤ 40) (hpost : ∀ (r : Int32) (pl_wanted' : Int32) (pl_moves' : Int32) (pl_picking' : Int32) (pl_downs' : Int32) (pl_near' : Nat → Int32) (pl_seconds' : Nat → Int32) (pl_many' : Nat → Int32) (ru_given' : Nat → Int32) (ru_stack' : Nat → Int32) (ro_size' : Int32) (ro_numbers' : Nat → Int32), (0 ≤ Int32.toInt pl_wanted' ∧ Int32.toInt pl_wanted' ≤ 65535) → (∀ k : Nat, 0 ≤ Int32.toInt (pl_near' k) ∧ Int32.toInt (pl_near' k) ≤ 65535) → (∀ k : Nat, 0 ≤ Int32.toInt (pl_seconds' k) ∧ Int32.toInt (pl_seconds' k) ≤ 99) → (1 ≤ Int32.toInt ro_size' ∧ Int32.toInt ro_size' ≤ 1) → post r pl_wanted' pl_moves' pl_picking' pl_downs' pl_near' pl_seconds' pl_many' ru_given' ru_stack' ro_size' ro_numbers') : ∀ (n : Nat) (x1 x2 x3 oX rJ pN rP : Int32) (rX rO vI qO qQ : Nat → Int32) (qF : Int32) (jJ : Nat → Int32), (0 ≤ Int32.toInt x1 ∧ Int32.toInt x1 ≤ 255) → (0 ≤ Int32.toInt x3 ∧ Int32.toInt x3 ≤ 256) → (0 ≤ Int32.toInt oX ∧ Int32.toInt oX ≤ 65535) → (∀ k : Nat, 0 ≤ Int32.toInt (rX k) ∧ Int32.toInt (rX k) ≤ 65535) → (∀ k : Nat, 0 ≤ Int32.toInt (rO k) ∧ Int32.toInt (rO k) ≤ 99) → (0 ≤ Int32.toInt qF ∧ Int32.toInt qF ≤ 16) → (256 - Int32.toInt x3 < (n : Int)) → wb_X9_soonest_33 post bZ bD wD gF pE qA nJ nY dQ jC eO eW dO fJ fY jD pG oF n x1 x2 x3 oX rJ pN rP rX rO vI qO qQ qF jJ := by
  intro n
  induction n with
  | zero =>
    intro x1 x2 x3 oX rJ pN rP rX rO vI qO qQ qF jJ h_x1 h_x3 h_pl_wanted h_pl_near h_pl_seconds h_ro_size hm
    exfalso; omega
  | succ n ih =>
    intro x1 x2 x3 oX rJ pN rP rX rO vI qO qQ qF jJ h_x1 h_x3 h_pl_wanted h_pl_near h_pl_seconds h_ro_size hm
    exact ts_X9_soonest_33 bZ bD wD gF pE qA nJ nY dQ jC eO eW dO fJ fY jD pG oF h_tr_fruits h_tr_standings h_no_ladder h_no_today h_ru_length hpost ih x1 x2 x3 oX rJ pN rP rX rO vI qO qQ qF jJ h_x1 h_x3 h_pl_wanted h_pl_near h_pl_seconds h_ro_size (by omega)
set_option maxHeartbeats 8000000 in
set_option maxRecDepth 200000 in
theorem t_X9_soonest {post : Int32 → Int32 → Int32 → Int32 → Int32 → (Nat → Int32) → (Nat → Int32) → (Nat → Int32) → (Nat → Int32) → (Nat → Int32) → Int32 → (Nat → Int32) → Prop} {oX rJ pN rP : Int32} {rX rO vI : Nat → Int32} {bZ bD : Int32} {wD gF pE qA nJ nY dQ : Nat → Int32} {jC eO eW dO fJ fY jD pG : Int32} {qO qQ oF : Nat → Int32} {qF : Int32} {jJ : Nat → Int32} (h_pl_wanted : 0 ≤ Int32.toInt oX ∧ Int32.toInt oX ≤ 65535) (h_pl_near : ∀ k : Nat, 0 ≤ Int32.toInt (rX k) ∧ Int32.toInt (rX k) ≤ 65535) (h_pl_seconds : ∀ k : Nat, 0 ≤ Int32.toInt (rO k) ∧ Int32.toInt (rO k) ≤ 99) (h_tr_fruits : 0 ≤ Int32.toInt bZ ∧ Int32.toInt bZ ≤ 16) (h_tr_standings : 0 ≤ Int32.toInt bD ∧ Int32.toInt bD ≤ 8) (h_no_ladder : -1 ≤ Int32.toInt fJ ∧ Int32.toInt fJ ≤ 7) (h_no_today : 0 ≤ Int32.toInt jD ∧ Int32.toInt jD ≤ 9) (h_ru_length : 0 ≤ Int32.toInt pG ∧ Int32.toInt pG ≤ 40) (h_ro_size : 0 ≤ Int32.toInt qF ∧ Int32.toInt qF ≤ 16) (hpost : ∀ (r : Int32) (pl_wanted' : Int32) (pl_moves' : Int32) (pl_picking' : Int32) (pl_downs' : Int32) (pl_near' : Nat → Int32) (pl_seconds' : Nat → Int32) (pl_many' : Nat → Int32) (ru_given' : Nat → Int32) (ru_stack' : Nat → Int32) (ro_size' : Int32) (ro_numbers' : Nat → Int32), (0 ≤ Int32.toInt pl_wanted' ∧ Int32.toInt pl_wanted' ≤ 65535) → (∀ k : Nat, 0 ≤ Int32.toInt (pl_near' k) ∧ Int32.toInt (pl_near' k) ≤ 65535) → (∀ k : Nat, 0 ≤ Int32.toInt (pl_seconds' k) ∧ Int32.toInt (pl_seconds' k) ≤ 99) → (1 ≤ Int32.toInt ro_size' ∧ Int32.toInt ro_size' ≤ 1) → post r pl_wanted' pl_moves' pl_picking' pl_downs' pl_near' pl_seconds' pl_many' ru_given' ru_stack' ro_size' ro_numbers') : wp_X9_soonest post oX rJ pN rP rX rO vI bZ bD wD gF pE qA nJ nY dQ jC eO eW dO fJ fY jD pG qO qQ oF qF jJ := by
  have l0 := li_0
  have l1 := li_1
  refine t_X5_lookAs h_no_today h_pl_wanted h_pl_near h_tr_fruits h_tr_standings (fun pl_wanted_49 pl_near_50 h_pl_wanted_49 h_pl_near_50 => ?_)
  refine t_X5_timeAll h_pl_wanted_49 h_pl_near_50 h_pl_seconds h_tr_fruits h_tr_standings h_ru_length (fun pl_seconds_51 ru_given_52 ru_stack_53 h_pl_seconds_51 => ?_)
  intro v54 ev54
  have f55 := ti_shl1 8 256 bD (by decide) (by omega)
  have hv54 := congrArg Int32.toInt ev54
  have f61 : Int32.toInt (v54 - 1) = Int32.toInt v54 - Int32.toInt (1 : Int32) := ta_sub _ _ (by omega)
  refine t_X5_workSeconds (by omega) h_pl_wanted_49 h_pl_near_50 h_pl_seconds_51 h_tr_fruits h_tr_standings h_no_ladder (fun r60 pl_moves_56 pl_picking_57 pl_downs_58 pl_many_59 => ?_)
  have f62 := tp_r r60
  have f63 := tp_r pl_moves_56
  have f64 := tp_r pl_picking_57
  have f65 := tp_r pl_downs_58
  exact ⟨258, tb_X9_soonest_33 bZ bD wD gF pE qA nJ nY dQ jC eO eW dO fJ fY jD pG oF h_tr_fruits h_tr_standings h_no_ladder h_no_today h_ru_length hpost _ (v54 - 1) r60 0 pl_wanted_49 pl_moves_56 pl_picking_57 pl_downs_58 pl_near_50 pl_seconds_51 pl_many_59 ru_given_52 ru_stack_53 qF jJ (by omega) (by omega) h_pl_wanted_49 h_pl_near_50 h_pl_seconds_51 h_ro_size (by omega)⟩
set_option maxHeartbeats 8000000 in
set_option maxRecDepth 200000 in
theorem ts_X9_pays_104 {post : Int32 → Int32 → (Nat → Int32) → (Nat → Int32) → (Nat → Int32) → Int32 → (Nat → Int32) → Prop} {K66 : Int32 → Int32 → Int32 → Int32 → Int32 → Int32 → (Nat → Int32) → (Nat → Int32) → (Nat → Int32) → Int32 → (Nat → Int32) → Prop} {n66 : Int} (bZ bD : Int32) (wD gF pE qA nJ nY dQ : Nat → Int32) (jC eO eW dO fJ fY jD pG : Int32) (oF : Nat → Int32) (h_tr_fruits : 0 ≤ Int32.toInt bZ ∧ Int32.toInt bZ ≤ 16) (h_tr_standings : 0 ≤ Int32.toInt bD ∧ Int32.toInt bD ≤ 8) (h_no_ladder : -1 ≤ Int32.toInt fJ ∧ Int32.toInt fJ ≤ 7) (h_no_today : 0 ≤ Int32.toInt jD ∧ Int32.toInt jD ≤ 9) (h_ru_length : 0 ≤ Int32.toInt pG ∧ Int32.toInt pG ≤ 40) (hpost : ∀ (r : Int32) (pl_wanted' : Int32) (pl_near' : Nat → Int32) (ru_given' : Nat → Int32) (ru_stack' : Nat → Int32) (ro_size' : Int32) (ro_numbers' : Nat → Int32), (0 ≤ Int32.toInt pl_wanted' ∧ Int32.toInt pl_wanted' ≤ 65535) → (∀ k : Nat, 0 ≤ Int32.toInt (pl_near' k) ∧ Int32.toInt (pl_near' k) ≤ 65535) → (0 ≤ Int32.toInt ro_size' ∧ Int32.toInt ro_size' ≤ 16) → post r pl_wanted' pl_near' ru_given' ru_stack' ro_size' ro_numbers') (hK66 : ∀ (x1 : Int32) (x2 : Int32) (x3 : Int32) (x4 : Int32) (x5 : Int32) (oX : Int32) (rX : Nat → Int32) (qO : Nat → Int32) (qQ : Nat → Int32) (qF : Int32) (jJ : Nat → Int32), (0 ≤ Int32.toInt x1 ∧ Int32.toInt x1 ≤ 7) → (0 ≤ Int32.toInt x2 ∧ Int32.toInt x2 ≤ 65535) → (0 ≤ Int32.toInt x5 ∧ Int32.toInt x5 ≤ 16) → (0 ≤ Int32.toInt oX ∧ Int32.toInt oX ≤ 65535) → (∀ k : Nat, 0 ≤ Int32.toInt (rX k) ∧ Int32.toInt (rX k) ≤ 65535) → (0 ≤ Int32.toInt qF ∧ Int32.toInt qF ≤ 16) → (16 - Int32.toInt x5 < n66) → K66 x1 x2 x3 x4 x5 oX rX qO qQ qF jJ) (x1 x2 x3 x4 x5 oX : Int32) (rX qO qQ : Nat → Int32) (qF : Int32) (jJ : Nat → Int32) (h_x1 : 0 ≤ Int32.toInt x1 ∧ Int32.toInt x1 ≤ 7) (h_x2 : 0 ≤ Int32.toInt x2 ∧ Int32.toInt x2 ≤ 65535) (h_x5 : 0 ≤ Int32.toInt x5 ∧ Int32.toInt x5 ≤ 15) (h_pl_wanted : 0 ≤ Int32.toInt oX ∧ Int32.toInt oX ≤ 65535) (h_pl_near : ∀ k : Nat, 0 ≤ Int32.toInt (rX k) ∧ Int32.toInt (rX k) ≤ 65535) (h_ro_size : 0 ≤ Int32.toInt qF ∧ Int32.toInt qF ≤ 16) (hn66 : 16 - Int32.toInt x5 ≤ n66) : ws_X9_pays_104 post K66 bZ bD wD gF pE qA nJ nY dQ jC eO eW dO fJ fY jD pG oF x1 x2 x3 x4 x5 oX rX qO qQ qF jJ := by
  have l0 := li_1
  intro v1 ev1
  have f2 : Int32.toInt (x5 + 1) = Int32.toInt x5 + Int32.toInt (1 : Int32) := ta_add _ _ (by omega)
  rw [← ev1] at f2
  have f3 := tp_r x3
  have f4 := tp_r x4
  exact hK66 x1 x2 x3 x4 v1 oX rX qO qQ qF jJ h_x1 h_x2 (by omega) h_pl_wanted h_pl_near h_ro_size (by omega)
set_option maxHeartbeats 8000000 in
set_option maxRecDepth 200000 in
theorem ts_X9_pays_66 {post : Int32 → Int32 → (Nat → Int32) → (Nat → Int32) → (Nat → Int32) → Int32 → (Nat → Int32) → Prop} {next : Int32 → Int32 → Int32 → Int32 → Int32 → Int32 → (Nat → Int32) → (Nat → Int32) → (Nat → Int32) → Int32 → (Nat → Int32) → Prop} {n66 : Int} (bZ bD : Int32) (wD gF pE qA nJ nY dQ : Nat → Int32) (jC eO eW dO fJ fY jD pG : Int32) (oF : Nat → Int32) (h_tr_fruits : 0 ≤ Int32.toInt bZ ∧ Int32.toInt bZ ≤ 16) (h_tr_standings : 0 ≤ Int32.toInt bD ∧ Int32.toInt bD ≤ 8) (h_no_ladder : -1 ≤ Int32.toInt fJ ∧ Int32.toInt fJ ≤ 7) (h_no_today : 0 ≤ Int32.toInt jD ∧ Int32.toInt jD ≤ 9) (h_ru_length : 0 ≤ Int32.toInt pG ∧ Int32.toInt pG ≤ 40) (hpost : ∀ (r : Int32) (pl_wanted' : Int32) (pl_near' : Nat → Int32) (ru_given' : Nat → Int32) (ru_stack' : Nat → Int32) (ro_size' : Int32) (ro_numbers' : Nat → Int32), (0 ≤ Int32.toInt pl_wanted' ∧ Int32.toInt pl_wanted' ≤ 65535) → (∀ k : Nat, 0 ≤ Int32.toInt (pl_near' k) ∧ Int32.toInt (pl_near' k) ≤ 65535) → (0 ≤ Int32.toInt ro_size' ∧ Int32.toInt ro_size' ≤ 16) → post r pl_wanted' pl_near' ru_given' ru_stack' ro_size' ro_numbers') (hKn : ∀ (x1 : Int32) (x2 : Int32) (x3 : Int32) (x4 : Int32) (x5 : Int32) (oX : Int32) (rX : Nat → Int32) (qO : Nat → Int32) (qQ : Nat → Int32) (qF : Int32) (jJ : Nat → Int32), (0 ≤ Int32.toInt x1 ∧ Int32.toInt x1 ≤ 7) → (0 ≤ Int32.toInt x2 ∧ Int32.toInt x2 ≤ 65535) → (0 ≤ Int32.toInt x5 ∧ Int32.toInt x5 ≤ 16) → (0 ≤ Int32.toInt oX ∧ Int32.toInt oX ≤ 65535) → (∀ k : Nat, 0 ≤ Int32.toInt (rX k) ∧ Int32.toInt (rX k) ≤ 65535) → (0 ≤ Int32.toInt qF ∧ Int32.toInt qF ≤ 16) → (16 - Int32.toInt x5 < n66) → next x1 x2 x3 x4 x5 oX rX qO qQ qF jJ) (x1 x2 x3 x4 x5 oX : Int32) (rX qO qQ : Nat → Int32) (qF : Int32) (jJ : Nat → Int32) (h_x1 : 0 ≤ Int32.toInt x1 ∧ Int32.toInt x1 ≤ 7) (h_x2 : 0 ≤ Int32.toInt x2 ∧ Int32.toInt x2 ≤ 65535) (h_x5 : 0 ≤ Int32.toInt x5 ∧ Int32.toInt x5 ≤ 16) (h_pl_wanted : 0 ≤ Int32.toInt oX ∧ Int32.toInt oX ≤ 65535) (h_pl_near : ∀ k : Nat, 0 ≤ Int32.toInt (rX k) ∧ Int32.toInt (rX k) ≤ 65535) (h_ro_size : 0 ≤ Int32.toInt qF ∧ Int32.toInt qF ≤ 16) (hn66 : 16 - Int32.toInt x5 ≤ n66) : ws_X9_pays_66 post next bZ bD wD gF pE qA nJ nY dQ jC eO eW dO fJ fY jD pG oF x1 x2 x3 x4 x5 oX rX qO qQ qF jJ := by
  have l0 := li_0
  have l1 := li_1
  have l2 := li_1431655765
  have l3 := li_16
  have l4 := li_252645135
  have l5 := li_4
  have l6 := li_858993459
  refine And.intro (fun c5 => ?_) (fun c5 => ?_)
  · skip
    have c5 := (fa_le _ _).mp c5
    intro v6 ev6
    intro v7 ev7
    have f9 := ti_andr v6 1431655765 (by omega)
    have f8 : Int32.toInt (x2 - (v6 &&& 1431655765)) = Int32.toInt x2 - Int32.toInt (v6 &&& 1431655765) := ta_sub _ _ (by omega)
    rw [← ev7] at f8
    intro v10 ev10
    have f11 := ti_andr v7 858993459 (by omega)
    have hv10 := congrArg Int32.toInt ev10
    intro v12 ev12
    intro v13 ev13
    have f15 := ti_andr v12 858993459 (by omega)
    have f14 : Int32.toInt (v10 + (v12 &&& 858993459)) = Int32.toInt v10 + Int32.toInt (v12 &&& 858993459) := ta_add _ _ (by omega)
    rw [← ev13] at f14
    intro v16 ev16
    have hv16 := congrArg Int32.toInt ev16
    intro v18 ev18
    have f19 := ti_andr v16 252645135 (by omega)
    have hv18 := congrArg Int32.toInt ev18
    intro v20 ev20
    have hv20 := congrArg Int32.toInt ev20
    intro v22 ev22
    have hv22 := congrArg Int32.toInt ev22
    intro v24 ev24
    have hv24 := congrArg Int32.toInt ev24
    intro v26 ev26
    have f27 := tp_r (if 1 < v24 then v24 else 1)
    have f29 := tp_r v24
    have f28 := ti_max (1 : Int32) v24
    have hv26 := congrArg Int32.toInt ev26
    intro v30 ev30
    have hv30 := congrArg Int32.toInt ev30
    intro v32 ev32
    have hv32 := congrArg Int32.toInt ev32
    have f34 := tp_r v26
    refine And.intro (mt (fa_eq _ _).mp (by omega)) ?_
    intro v35 ev35
    refine And.intro (t_in (by omega)) ?_
    intro v36 ev36
    have hv36 := congrArg Int32.toInt ev36
    intro v38 ev38
    have hv38 := congrArg Int32.toInt ev38
    refine And.intro (fun h9 => absurd h9 (by decide)) (fun _ => ?_)
    refine And.intro (t_in (by omega)) ?_
    intro v40 ev40
    have f41 : Int32.toInt (0 + 1) = Int32.toInt (0 : Int32) + Int32.toInt (1 : Int32) := ta_add _ _ (by omega)
    rw [← ev40] at f41
    refine And.intro (fun c42 => ?_) (fun c42 => ?_)
    · skip
      have c42 := (fa_le _ _).mp c42
      exfalso; omega
    · skip
      have c42 := mt (fa_le _ _).mpr c42
      refine And.intro (t_in (by omega)) ?_
      intro v43 ev43
      have f44 : Int32.toInt (v40 + 1) = Int32.toInt v40 + Int32.toInt (1 : Int32) := ta_add _ _ (by omega)
      rw [← ev43] at f44
      refine And.intro (fun c45 => ?_) (fun c45 => ?_)
      · skip
        have c45 := (fa_le _ _).mp c45
        exfalso; omega
      · skip
        have c45 := mt (fa_le _ _).mpr c45
        refine And.intro (t_in (by omega)) ?_
        intro v46 ev46
        have f47 : Int32.toInt (v43 + 1) = Int32.toInt v43 + Int32.toInt (1 : Int32) := ta_add _ _ (by omega)
        rw [← ev46] at f47
        refine t_X3_worthOf h_tr_fruits (fun r48 => ?_)
        exact hpost _ _ _ _ _ _ _ h_pl_wanted h_pl_near (by omega)
  · skip
    have c5 := mt (fa_le _ _).mpr c5
    intro v49 ev49
    have f50 := ti_shr x2 x5 (by omega)
    have hv49 := congrArg Int32.toInt ev49
    have f52 := ti_andr v49 1 (by omega)
    have f53 := ti_andl v49 1 (by omega)
    refine And.intro (fun c51 => ?_) (fun c51 => ?_)
    · skip
      have c51 := (fa_eq _ _).mp c51
      have f54 := tp_r x3
      have f55 := tp_r x4
      exact ts_X9_pays_104 bZ bD wD gF pE qA nJ nY dQ jC eO eW dO fJ fY jD pG oF h_tr_fruits h_tr_standings h_no_ladder h_no_today h_ru_length hpost hKn x1 x2 x3 x4 x5 oX rX qO qQ qF jJ h_x1 h_x2 (by omega) h_pl_wanted h_pl_near h_ro_size hn66
    · skip
      have c51 := mt (fa_eq _ _).mpr c51
      refine t_X0_pickSeconds (by omega) h_x1 (by omega) h_tr_fruits h_ru_length (fun r58 ru_given_56 ru_stack_57 h_r58 => ?_)
      intro v59 ev59
      have hv59 := congrArg Int32.toInt ev59
      have f61 := tp_r x3
      have f62 := tp_r v59
      exact ts_X9_pays_104 bZ bD wD gF pE qA nJ nY dQ jC eO eW dO fJ fY jD pG oF h_tr_fruits h_tr_standings h_no_ladder h_no_today h_ru_length hpost hKn x1 x2 x3 v59 x5 oX rX ru_given_56 ru_stack_57 qF jJ h_x1 h_x2 (by omega) h_pl_wanted h_pl_near h_ro_size hn66
set_option maxHeartbeats 8000000 in
set_option maxRecDepth 200000 in
theorem tb_X9_pays_66 {post : Int32 → Int32 → (Nat → Int32) → (Nat → Int32) → (Nat → Int32) → Int32 → (Nat → Int32) → Prop} (bZ bD : Int32) (wD gF pE qA nJ nY dQ : Nat → Int32) (jC eO eW dO fJ fY jD pG : Int32) (oF : Nat → Int32) (h_tr_fruits : 0 ≤ Int32.toInt bZ ∧ Int32.toInt bZ ≤ 16) (h_tr_standings : 0 ≤ Int32.toInt bD ∧ Int32.toInt bD ≤ 8) (h_no_ladder : -1 ≤ Int32.toInt fJ ∧ Int32.toInt fJ ≤ 7) (h_no_today : 0 ≤ Int32.toInt jD ∧ Int32.toInt jD ≤ 9) (h_ru_length : 0 ≤ Int32.toInt pG ∧ Int32.toInt pG ≤ 40) (hpost : ∀ (r : Int32) (pl_wanted' : Int32) (pl_near' : Nat → Int32) (ru_given' : Nat → Int32) (ru_stack' : Nat → Int32) (ro_size' : Int32) (ro_numbers' : Nat → Int32), (0 ≤ Int32.toInt pl_wanted' ∧ Int32.toInt pl_wanted' ≤ 65535) → (∀ k : Nat, 0 ≤ Int32.toInt (pl_near' k) ∧ Int32.toInt (pl_near' k) ≤ 65535) → (0 ≤ Int32.toInt ro_size' ∧ Int32.toInt ro_size' ≤ 16) → post r pl_wanted' pl_near' ru_given' ru_stack' ro_size' ro_numbers') : ∀ (n : Nat) (x1 x2 x3 x4 x5 oX : Int32) (rX qO qQ : Nat → Int32) (qF : Int32) (jJ : Nat → Int32), (0 ≤ Int32.toInt x1 ∧ Int32.toInt x1 ≤ 7) → (0 ≤ Int32.toInt x2 ∧ Int32.toInt x2 ≤ 65535) → (0 ≤ Int32.toInt x5 ∧ Int32.toInt x5 ≤ 16) → (0 ≤ Int32.toInt oX ∧ Int32.toInt oX ≤ 65535) → (∀ k : Nat, 0 ≤ Int32.toInt (rX k) ∧ Int32.toInt (rX k) ≤ 65535) → (0 ≤ Int32.toInt qF ∧ Int32.toInt qF ≤ 16) → (16 - Int32.toInt x5 < (n : Int)) → wb_X9_pays_66 post bZ bD wD gF pE qA nJ nY dQ jC eO eW dO fJ fY jD pG oF n x1 x2 x3 x4 x5 oX rX qO qQ qF jJ := by
  intro n
  induction n with
  | zero =>
    intro x1 x2 x3 x4 x5 oX rX qO qQ qF jJ h_x1 h_x2 h_x5 h_pl_wanted h_pl_near h_ro_size hm
    exfalso; omega
  | succ n ih =>
    intro x1 x2 x3 x4 x5 oX rX qO qQ qF jJ h_x1 h_x2 h_x5 h_pl_wanted h_pl_near h_ro_size hm
    exact ts_X9_pays_66 bZ bD wD gF pE qA nJ nY dQ jC eO eW dO fJ fY jD pG oF h_tr_fruits h_tr_standings h_no_ladder h_no_today h_ru_length hpost ih x1 x2 x3 x4 x5 oX rX qO qQ qF jJ h_x1 h_x2 h_x5 h_pl_wanted h_pl_near h_ro_size (by omega)
set_option maxHeartbeats 8000000 in
set_option maxRecDepth 200000 in
theorem ts_X9_pays_59 {post : Int32 → Int32 → (Nat → Int32) → (Nat → Int32) → (Nat → Int32) → Int32 → (Nat → Int32) → Prop} (bZ bD : Int32) (wD gF pE qA nJ nY dQ : Nat → Int32) (jC eO eW dO fJ fY jD pG : Int32) (oF : Nat → Int32) (h_tr_fruits : 0 ≤ Int32.toInt bZ ∧ Int32.toInt bZ ≤ 16) (h_tr_standings : 0 ≤ Int32.toInt bD ∧ Int32.toInt bD ≤ 8) (h_no_ladder : -1 ≤ Int32.toInt fJ ∧ Int32.toInt fJ ≤ 7) (h_no_today : 0 ≤ Int32.toInt jD ∧ Int32.toInt jD ≤ 9) (h_ru_length : 0 ≤ Int32.toInt pG ∧ Int32.toInt pG ≤ 40) (hpost : ∀ (r : Int32) (pl_wanted' : Int32) (pl_near' : Nat → Int32) (ru_given' : Nat → Int32) (ru_stack' : Nat → Int32) (ro_size' : Int32) (ro_numbers' : Nat → Int32), (0 ≤ Int32.toInt pl_wanted' ∧ Int32.toInt pl_wanted' ≤ 65535) → (∀ k : Nat, 0 ≤ Int32.toInt (pl_near' k) ∧ Int32.toInt (pl_near' k) ≤ 65535) → (0 ≤ Int32.toInt ro_size' ∧ Int32.toInt ro_size' ≤ 16) → post r pl_wanted' pl_near' ru_given' ru_stack' ro_size' ro_numbers') (x1 x2 k0 oX : Int32) (rX qO qQ : Nat → Int32) (qF : Int32) (jJ : Nat → Int32) (h_x1 : 0 ≤ Int32.toInt x1 ∧ Int32.toInt x1 ≤ 7) (h_x2 : 0 ≤ Int32.toInt x2 ∧ Int32.toInt x2 ≤ 65535) (h_pl_wanted : 0 ≤ Int32.toInt oX ∧ Int32.toInt oX ≤ 65535) (h_pl_near : ∀ k : Nat, 0 ≤ Int32.toInt (rX k) ∧ Int32.toInt (rX k) ≤ 65535) (h_ro_size : 0 ≤ Int32.toInt qF ∧ Int32.toInt qF ≤ 16) : ws_X9_pays_59 post bZ bD wD gF pE qA nJ nY dQ jC eO eW dO fJ fY jD pG oF x1 x2 k0 oX rX qO qQ qF jJ := by
  have l0 := li_0
  have f63 := tp_r k0
  exact ⟨18, tb_X9_pays_66 bZ bD wD gF pE qA nJ nY dQ jC eO eW dO fJ fY jD pG oF h_tr_fruits h_tr_standings h_no_ladder h_no_today h_ru_length hpost _ x1 x2 k0 0 0 oX rX qO qQ qF jJ h_x1 h_x2 (by omega) h_pl_wanted h_pl_near h_ro_size (by omega)⟩
set_option maxHeartbeats 8000000 in
set_option maxRecDepth 200000 in
theorem t_X9_pays {post : Int32 → Int32 → (Nat → Int32) → (Nat → Int32) → (Nat → Int32) → Int32 → (Nat → Int32) → Prop} {p0 oX : Int32} {rX : Nat → Int32} {bZ bD : Int32} {wD gF pE qA nJ nY dQ : Nat → Int32} {jC eO eW dO fJ fY jD pG : Int32} {qO qQ oF : Nat → Int32} {qF : Int32} {jJ : Nat → Int32} (h_pl_wanted : 0 ≤ Int32.toInt oX ∧ Int32.toInt oX ≤ 65535) (h_pl_near : ∀ k : Nat, 0 ≤ Int32.toInt (rX k) ∧ Int32.toInt (rX k) ≤ 65535) (h_tr_fruits : 0 ≤ Int32.toInt bZ ∧ Int32.toInt bZ ≤ 16) (h_tr_standings : 0 ≤ Int32.toInt bD ∧ Int32.toInt bD ≤ 8) (h_no_ladder : -1 ≤ Int32.toInt fJ ∧ Int32.toInt fJ ≤ 7) (h_no_today : 0 ≤ Int32.toInt jD ∧ Int32.toInt jD ≤ 9) (h_ru_length : 0 ≤ Int32.toInt pG ∧ Int32.toInt pG ≤ 40) (h_ro_size : 0 ≤ Int32.toInt qF ∧ Int32.toInt qF ≤ 16) (hpost : ∀ (r : Int32) (pl_wanted' : Int32) (pl_near' : Nat → Int32) (ru_given' : Nat → Int32) (ru_stack' : Nat → Int32) (ro_size' : Int32) (ro_numbers' : Nat → Int32), (0 ≤ Int32.toInt pl_wanted' ∧ Int32.toInt pl_wanted' ≤ 65535) → (∀ k : Nat, 0 ≤ Int32.toInt (pl_near' k) ∧ Int32.toInt (pl_near' k) ≤ 65535) → (0 ≤ Int32.toInt ro_size' ∧ Int32.toInt ro_size' ≤ 16) → post r pl_wanted' pl_near' ru_given' ru_stack' ro_size' ro_numbers') : wp_X9_pays post p0 oX rX bZ bD wD gF pE qA nJ nY dQ jC eO eW dO fJ fY jD pG qO qQ oF qF jJ := by
  have l0 := li_m1
  have l1 := li_0
  have l2 := li_3
  have l3 := li_9
  have f65 := tp_r p0
  refine And.intro (fun c64 => ?_) (fun c64 => ?_)
  · skip
    have c64 := (fa_lt _ _).mp c64
    refine And.intro (fun h9 => absurd h9 (by decide)) (fun _ => ?_)
    exact hpost _ _ _ _ _ _ _ h_pl_wanted h_pl_near h_ro_size
  · skip
    have c64 := mt (fa_lt _ _).mpr c64
    refine And.intro (fun c66 => ?_) (fun c66 => ?_)
    · skip
      have c66 := (fa_le _ _).mp c66
      refine And.intro (fun h9 => absurd h9 (by decide)) (fun _ => ?_)
      exact hpost _ _ _ _ _ _ _ h_pl_wanted h_pl_near h_ro_size
    · skip
      have c66 := mt (fa_le _ _).mpr c66
      refine And.intro (fun _ => ?_) (fun h9 => absurd h9 (by decide))
      refine t_X5_lookAs h_no_today h_pl_wanted h_pl_near h_tr_fruits h_tr_standings (fun aBC aC0 h_pl_wanted_67 h_pl_near_68 => ?_)
      refine And.intro (t_in (by omega)) ?_
      refine And.intro (fun c69 => ?_) (fun c69 => ?_)
      · skip
        have c69 := mt (fa_eq _ _).mpr c69
        refine And.intro (fun c70 => ?_) (fun c70 => ?_)
        · skip
          have c70 := mt (fa_eq _ _).mpr c70
          intro v71 ev71
          have hv71 := congrArg Int32.toInt ev71
          refine And.intro (t_in (by omega)) ?_
          intro v73 ev73
          have hv73 := congrArg Int32.toInt ev73
          refine And.intro (t_in (by omega)) ?_
          intro v75 ev75
          have hv75 := congrArg Int32.toInt ev75
          intro v77 ev77
          have hv77 := congrArg Int32.toInt ev77
          have f80 := h_pl_near_68 p0.toNatClampNeg
          have f79 := ti_andr aBC (aC0 p0.toNatClampNeg) (by omega)
          have f81 := ti_andl aBC (aC0 p0.toNatClampNeg) (by omega)
          exact ts_X9_pays_59 bZ bD wD gF pE qA nJ nY dQ jC eO eW dO fJ fY jD pG oF h_tr_fruits h_tr_standings h_no_ladder h_no_today h_ru_length hpost p0 (aBC &&& (aC0 p0.toNatClampNeg)) (9 + (v71 * v77)) aBC aC0 qO qQ qF jJ (by omega) (by omega) h_pl_wanted_67 h_pl_near_68 h_ro_size
        · skip
          have c70 := (fa_eq _ _).mp c70
          have f84 := h_pl_near_68 p0.toNatClampNeg
          have f83 := ti_andr aBC (aC0 p0.toNatClampNeg) (by omega)
          have f85 := ti_andl aBC (aC0 p0.toNatClampNeg) (by omega)
          exact ts_X9_pays_59 bZ bD wD gF pE qA nJ nY dQ jC eO eW dO fJ fY jD pG oF h_tr_fruits h_tr_standings h_no_ladder h_no_today h_ru_length hpost p0 (aBC &&& (aC0 p0.toNatClampNeg)) 9 aBC aC0 qO qQ qF jJ (by omega) (by omega) h_pl_wanted_67 h_pl_near_68 h_ro_size
      · skip
        have c69 := (fa_eq _ _).mp c69
        have f87 := h_pl_near_68 p0.toNatClampNeg
        have f86 := ti_andr aBC (aC0 p0.toNatClampNeg) (by omega)
        have f88 := ti_andl aBC (aC0 p0.toNatClampNeg) (by omega)
        exact ts_X9_pays_59 bZ bD wD gF pE qA nJ nY dQ jC eO eW dO fJ fY jD pG oF h_tr_fruits h_tr_standings h_no_ladder h_no_today h_ru_length hpost p0 (aBC &&& (aC0 p0.toNatClampNeg)) 0 aBC aC0 qO qQ qF jJ (by omega) (by omega) h_pl_wanted_67 h_pl_near_68 h_ro_size
set_option maxHeartbeats 8000000 in
set_option maxRecDepth 200000 in
theorem ts_X9_trips_89 {post : Int32 → Int32 → (Nat → Int32) → Int32 → (Nat → Int32) → Prop} {K64 : Int32 → Int32 → Int32 → Int32 → Int32 → (Nat → Int32) → Int32 → (Nat → Int32) → Prop} {n64 : Int} (bZ bD : Int32) (wD gF qA nJ nY dQ : Nat → Int32) (jC eO eW fJ fY jD : Int32) (h_tr_fruits : 0 ≤ Int32.toInt bZ ∧ Int32.toInt bZ ≤ 16) (h_tr_standings : 0 ≤ Int32.toInt bD ∧ Int32.toInt bD ≤ 8) (h_no_ladder : -1 ≤ Int32.toInt fJ ∧ Int32.toInt fJ ≤ 7) (h_no_today : 0 ≤ Int32.toInt jD ∧ Int32.toInt jD ≤ 9) (hpost : ∀ (r : Int32) (pl_wanted' : Int32) (pl_near' : Nat → Int32) (ro_size' : Int32) (ro_numbers' : Nat → Int32), (0 ≤ Int32.toInt pl_wanted' ∧ Int32.toInt pl_wanted' ≤ 65535) → (∀ k : Nat, 0 ≤ Int32.toInt (pl_near' k) ∧ Int32.toInt (pl_near' k) ≤ 65535) → (0 ≤ Int32.toInt ro_size' ∧ Int32.toInt ro_size' ≤ 16) → post r pl_wanted' pl_near' ro_size' ro_numbers') (hK64 : ∀ (x2 : Int32) (x3 : Int32) (x4 : Int32) (x5 : Int32) (oX : Int32) (rX : Nat → Int32) (qF : Int32) (jJ : Nat → Int32), (0 ≤ Int32.toInt x4 ∧ Int32.toInt x4 ≤ 63) → (0 ≤ Int32.toInt x5 ∧ Int32.toInt x5 ≤ 63) → (0 ≤ Int32.toInt oX ∧ Int32.toInt oX ≤ 65535) → (∀ k : Nat, 0 ≤ Int32.toInt (rX k) ∧ Int32.toInt (rX k) ≤ 65535) → (0 ≤ Int32.toInt qF ∧ Int32.toInt qF ≤ 16) → (63 - Int32.toInt x5 < n64) → K64 x2 x3 x4 x5 oX rX qF jJ) (x2 x3 x4 x5 oX : Int32) (rX : Nat → Int32) (qF : Int32) (jJ : Nat → Int32) (h_x4 : 1 ≤ Int32.toInt x4 ∧ Int32.toInt x4 ≤ 63) (h_x5 : 0 ≤ Int32.toInt x5 ∧ Int32.toInt x5 ≤ 62) (h_pl_wanted : 0 ≤ Int32.toInt oX ∧ Int32.toInt oX ≤ 65535) (h_pl_near : ∀ k : Nat, 0 ≤ Int32.toInt (rX k) ∧ Int32.toInt (rX k) ≤ 65535) (h_ro_size : 0 ≤ Int32.toInt qF ∧ Int32.toInt qF ≤ 16) (hn64 : 63 - Int32.toInt x5 ≤ n64) : ws_X9_trips_89 post K64 bZ bD wD gF qA nJ nY dQ jC eO eW fJ fY jD x2 x3 x4 x5 oX rX qF jJ := by
  have l0 := li_1
  intro v1 ev1
  have hv1 := congrArg Int32.toInt ev1
  intro v3 ev3
  have f4 : Int32.toInt (x5 + 1) = Int32.toInt x5 + Int32.toInt (1 : Int32) := ta_add _ _ (by omega)
  rw [← ev3] at f4
  have f5 := tp_r v1
  have f6 := tp_r x3
  exact hK64 v1 x3 x4 v3 oX rX qF jJ (by omega) (by omega) h_pl_wanted h_pl_near h_ro_size (by omega)
set_option maxHeartbeats 8000000 in
set_option maxRecDepth 200000 in
theorem ts_X9_trips_64 {post : Int32 → Int32 → (Nat → Int32) → Int32 → (Nat → Int32) → Prop} {next : Int32 → Int32 → Int32 → Int32 → Int32 → (Nat → Int32) → Int32 → (Nat → Int32) → Prop} {n64 : Int} (bZ bD : Int32) (wD gF qA nJ nY dQ : Nat → Int32) (jC eO eW fJ fY jD : Int32) (h_tr_fruits : 0 ≤ Int32.toInt bZ ∧ Int32.toInt bZ ≤ 16) (h_tr_standings : 0 ≤ Int32.toInt bD ∧ Int32.toInt bD ≤ 8) (h_no_ladder : -1 ≤ Int32.toInt fJ ∧ Int32.toInt fJ ≤ 7) (h_no_today : 0 ≤ Int32.toInt jD ∧ Int32.toInt jD ≤ 9) (hpost : ∀ (r : Int32) (pl_wanted' : Int32) (pl_near' : Nat → Int32) (ro_size' : Int32) (ro_numbers' : Nat → Int32), (0 ≤ Int32.toInt pl_wanted' ∧ Int32.toInt pl_wanted' ≤ 65535) → (∀ k : Nat, 0 ≤ Int32.toInt (pl_near' k) ∧ Int32.toInt (pl_near' k) ≤ 65535) → (0 ≤ Int32.toInt ro_size' ∧ Int32.toInt ro_size' ≤ 16) → post r pl_wanted' pl_near' ro_size' ro_numbers') (hKn : ∀ (x2 : Int32) (x3 : Int32) (x4 : Int32) (x5 : Int32) (oX : Int32) (rX : Nat → Int32) (qF : Int32) (jJ : Nat → Int32), (0 ≤ Int32.toInt x4 ∧ Int32.toInt x4 ≤ 63) → (0 ≤ Int32.toInt x5 ∧ Int32.toInt x5 ≤ 63) → (0 ≤ Int32.toInt oX ∧ Int32.toInt oX ≤ 65535) → (∀ k : Nat, 0 ≤ Int32.toInt (rX k) ∧ Int32.toInt (rX k) ≤ 65535) → (0 ≤ Int32.toInt qF ∧ Int32.toInt qF ≤ 16) → (63 - Int32.toInt x5 < n64) → next x2 x3 x4 x5 oX rX qF jJ) (x2 x3 x4 x5 oX : Int32) (rX : Nat → Int32) (qF : Int32) (jJ : Nat → Int32) (h_x4 : 0 ≤ Int32.toInt x4 ∧ Int32.toInt x4 ≤ 63) (h_x5 : 0 ≤ Int32.toInt x5 ∧ Int32.toInt x5 ≤ 63) (h_pl_wanted : 0 ≤ Int32.toInt oX ∧ Int32.toInt oX ≤ 65535) (h_pl_near : ∀ k : Nat, 0 ≤ Int32.toInt (rX k) ∧ Int32.toInt (rX k) ≤ 65535) (h_ro_size : 0 ≤ Int32.toInt qF ∧ Int32.toInt qF ≤ 16) (hn64 : 63 - Int32.toInt x5 ≤ n64) : ws_X9_trips_64 post next bZ bD wD gF qA nJ nY dQ jC eO eW fJ fY jD x2 x3 x4 x5 oX rX qF jJ := by
  have l0 := li_0
  have l1 := li_1
  have l2 := li_4
  refine And.intro (fun c7 => ?_) (fun c7 => ?_)
  · skip
    have c7 := (fa_le _ _).mp c7
    refine And.intro (fun h9 => absurd h9 (by decide)) (fun _ => ?_)
    refine And.intro (t_in (by omega)) ?_
    intro v8 ev8
    have f9 : Int32.toInt (0 + 1) = Int32.toInt (0 : Int32) + Int32.toInt (1 : Int32) := ta_add _ _ (by omega)
    rw [← ev8] at f9
    exact hpost _ _ _ _ _ h_pl_wanted h_pl_near (by omega)
  · skip
    have c7 := mt (fa_le _ _).mpr c7
    have f11 := tp_r x2
    refine And.intro (fun c10 => ?_) (fun c10 => ?_)
    · skip
      have c10 := (fa_lt _ _).mp c10
      have f13 := tp_r x3
      exact ts_X9_trips_89 bZ bD wD gF qA nJ nY dQ jC eO eW fJ fY jD h_tr_fruits h_tr_standings h_no_ladder h_no_today hpost hKn x2 x3 x4 x5 oX rX qF jJ (by omega) (by omega) h_pl_wanted h_pl_near h_ro_size hn64
    · skip
      have c10 := mt (fa_lt _ _).mpr c10
      intro v14 ev14
      have hv14 := congrArg Int32.toInt ev14
      have f16 := tp_r v14
      exact ts_X9_trips_89 bZ bD wD gF qA nJ nY dQ jC eO eW fJ fY jD h_tr_fruits h_tr_standings h_no_ladder h_no_today hpost hKn 0 v14 x4 x5 oX rX qF jJ (by omega) (by omega) h_pl_wanted h_pl_near h_ro_size hn64
set_option maxHeartbeats 8000000 in
set_option maxRecDepth 200000 in
theorem tb_X9_trips_64 {post : Int32 → Int32 → (Nat → Int32) → Int32 → (Nat → Int32) → Prop} (bZ bD : Int32) (wD gF qA nJ nY dQ : Nat → Int32) (jC eO eW fJ fY jD : Int32) (h_tr_fruits : 0 ≤ Int32.toInt bZ ∧ Int32.toInt bZ ≤ 16) (h_tr_standings : 0 ≤ Int32.toInt bD ∧ Int32.toInt bD ≤ 8) (h_no_ladder : -1 ≤ Int32.toInt fJ ∧ Int32.toInt fJ ≤ 7) (h_no_today : 0 ≤ Int32.toInt jD ∧ Int32.toInt jD ≤ 9) (hpost : ∀ (r : Int32) (pl_wanted' : Int32) (pl_near' : Nat → Int32) (ro_size' : Int32) (ro_numbers' : Nat → Int32), (0 ≤ Int32.toInt pl_wanted' ∧ Int32.toInt pl_wanted' ≤ 65535) → (∀ k : Nat, 0 ≤ Int32.toInt (pl_near' k) ∧ Int32.toInt (pl_near' k) ≤ 65535) → (0 ≤ Int32.toInt ro_size' ∧ Int32.toInt ro_size' ≤ 16) → post r pl_wanted' pl_near' ro_size' ro_numbers') : ∀ (n : Nat) (x2 x3 x4 x5 oX : Int32) (rX : Nat → Int32) (qF : Int32) (jJ : Nat → Int32), (0 ≤ Int32.toInt x4 ∧ Int32.toInt x4 ≤ 63) → (0 ≤ Int32.toInt x5 ∧ Int32.toInt x5 ≤ 63) → (0 ≤ Int32.toInt oX ∧ Int32.toInt oX ≤ 65535) → (∀ k : Nat, 0 ≤ Int32.toInt (rX k) ∧ Int32.toInt (rX k) ≤ 65535) → (0 ≤ Int32.toInt qF ∧ Int32.toInt qF ≤ 16) → (63 - Int32.toInt x5 < (n : Int)) → wb_X9_trips_64 post bZ bD wD gF qA nJ nY dQ jC eO eW fJ fY jD n x2 x3 x4 x5 oX rX qF jJ := by
  intro n
  induction n with
  | zero =>
    intro x2 x3 x4 x5 oX rX qF jJ h_x4 h_x5 h_pl_wanted h_pl_near h_ro_size hm
    exfalso; omega
  | succ n ih =>
    intro x2 x3 x4 x5 oX rX qF jJ h_x4 h_x5 h_pl_wanted h_pl_near h_ro_size hm
    exact ts_X9_trips_64 bZ bD wD gF qA nJ nY dQ jC eO eW fJ fY jD h_tr_fruits h_tr_standings h_no_ladder h_no_today hpost ih x2 x3 x4 x5 oX rX qF jJ h_x4 h_x5 h_pl_wanted h_pl_near h_ro_size (by omega)
set_option maxHeartbeats 8000000 in
set_option maxRecDepth 200000 in
theorem ts_X9_trips_45 {post : Int32 → Int32 → (Nat → Int32) → Int32 → (Nat → Int32) → Prop} (bZ bD : Int32) (wD gF qA nJ nY dQ : Nat → Int32) (jC eO eW fJ fY jD : Int32) (h_tr_fruits : 0 ≤ Int32.toInt bZ ∧ Int32.toInt bZ ≤ 16) (h_tr_standings : 0 ≤ Int32.toInt bD ∧ Int32.toInt bD ≤ 8) (h_no_ladder : -1 ≤ Int32.toInt fJ ∧ Int32.toInt fJ ≤ 7) (h_no_today : 0 ≤ Int32.toInt jD ∧ Int32.toInt jD ≤ 9) (hpost : ∀ (r : Int32) (pl_wanted' : Int32) (pl_near' : Nat → Int32) (ro_size' : Int32) (ro_numbers' : Nat → Int32), (0 ≤ Int32.toInt pl_wanted' ∧ Int32.toInt pl_wanted' ≤ 65535) → (∀ k : Nat, 0 ≤ Int32.toInt (pl_near' k) ∧ Int32.toInt (pl_near' k) ≤ 65535) → (0 ≤ Int32.toInt ro_size' ∧ Int32.toInt ro_size' ≤ 16) → post r pl_wanted' pl_near' ro_size' ro_numbers') (x1 k0 oX : Int32) (rX : Nat → Int32) (qF : Int32) (jJ : Nat → Int32) (h_x1 : 0 ≤ Int32.toInt x1 ∧ Int32.toInt x1 ≤ 7) (h_k0 : 0 ≤ Int32.toInt k0 ∧ Int32.toInt k0 ≤ 63) (h_pl_wanted : 0 ≤ Int32.toInt oX ∧ Int32.toInt oX ≤ 65535) (h_pl_near : ∀ k : Nat, 0 ≤ Int32.toInt (rX k) ∧ Int32.toInt (rX k) ≤ 65535) (h_ro_size : 0 ≤ Int32.toInt qF ∧ Int32.toInt qF ≤ 16) : ws_X9_trips_45 post bZ bD wD gF qA nJ nY dQ jC eO eW fJ fY jD x1 k0 oX rX qF jJ := by
  have l0 := li_0
  have l1 := li_1431655765
  have l2 := li_252645135
  have l3 := li_63
  have l4 := li_858993459
  refine And.intro (t_in (by omega)) ?_
  intro v17 ev17
  intro v18 ev18
  have f21 := h_pl_near x1.toNatClampNeg
  have f20 := ti_andr oX (rX x1.toNatClampNeg) (by omega)
  have f22 := ti_andl oX (rX x1.toNatClampNeg) (by omega)
  have f23 := ti_andr v17 1431655765 (by omega)
  have f19 : Int32.toInt ((oX &&& (rX x1.toNatClampNeg)) - (v17 &&& 1431655765)) = Int32.toInt (oX &&& (rX x1.toNatClampNeg)) - Int32.toInt (v17 &&& 1431655765) := ta_sub _ _ (by omega)
  rw [← ev18] at f19
  intro v24 ev24
  have f25 := ti_andr v18 858993459 (by omega)
  have hv24 := congrArg Int32.toInt ev24
  intro v26 ev26
  intro v27 ev27
  have f29 := ti_andr v26 858993459 (by omega)
  have f28 : Int32.toInt (v24 + (v26 &&& 858993459)) = Int32.toInt v24 + Int32.toInt (v26 &&& 858993459) := ta_add _ _ (by omega)
  rw [← ev27] at f28
  intro v30 ev30
  have hv30 := congrArg Int32.toInt ev30
  intro v32 ev32
  have f33 := ti_andr v30 252645135 (by omega)
  have hv32 := congrArg Int32.toInt ev32
  intro v34 ev34
  have hv34 := congrArg Int32.toInt ev34
  intro v36 ev36
  have hv36 := congrArg Int32.toInt ev36
  have f38 := ti_andr v36 63 (by omega)
  exact ⟨65, tb_X9_trips_64 bZ bD wD gF qA nJ nY dQ jC eO eW fJ fY jD h_tr_fruits h_tr_standings h_no_ladder h_no_today hpost _ k0 0 (v36 &&& 63) 0 oX rX qF jJ (by omega) (by omega) h_pl_wanted h_pl_near h_ro_size (by omega)⟩
set_option maxHeartbeats 8000000 in
set_option maxRecDepth 200000 in
theorem t_X9_trips {post : Int32 → Int32 → (Nat → Int32) → Int32 → (Nat → Int32) → Prop} {p0 oX : Int32} {rX : Nat → Int32} {bZ bD : Int32} {wD gF qA nJ nY dQ : Nat → Int32} {jC eO eW fJ fY jD qF : Int32} {jJ : Nat → Int32} (h_pl_wanted : 0 ≤ Int32.toInt oX ∧ Int32.toInt oX ≤ 65535) (h_pl_near : ∀ k : Nat, 0 ≤ Int32.toInt (rX k) ∧ Int32.toInt (rX k) ≤ 65535) (h_tr_fruits : 0 ≤ Int32.toInt bZ ∧ Int32.toInt bZ ≤ 16) (h_tr_standings : 0 ≤ Int32.toInt bD ∧ Int32.toInt bD ≤ 8) (h_no_ladder : -1 ≤ Int32.toInt fJ ∧ Int32.toInt fJ ≤ 7) (h_no_today : 0 ≤ Int32.toInt jD ∧ Int32.toInt jD ≤ 9) (h_ro_size : 0 ≤ Int32.toInt qF ∧ Int32.toInt qF ≤ 16) (hpost : ∀ (r : Int32) (pl_wanted' : Int32) (pl_near' : Nat → Int32) (ro_size' : Int32) (ro_numbers' : Nat → Int32), (0 ≤ Int32.toInt pl_wanted' ∧ Int32.toInt pl_wanted' ≤ 65535) → (∀ k : Nat, 0 ≤ Int32.toInt (pl_near' k) ∧ Int32.toInt (pl_near' k) ≤ 65535) → (0 ≤ Int32.toInt ro_size' ∧ Int32.toInt ro_size' ≤ 16) → post r pl_wanted' pl_near' ro_size' ro_numbers') : wp_X9_trips post p0 oX rX bZ bD wD gF qA nJ nY dQ jC eO eW fJ fY jD qF jJ := by
  have l0 := li_0
  have l1 := li_252645135
  have l2 := li_63
  have l3 := li_858993459
  have f40 := tp_r p0
  refine And.intro (fun c39 => ?_) (fun c39 => ?_)
  · skip
    have c39 := (fa_lt _ _).mp c39
    refine And.intro (fun h9 => absurd h9 (by decide)) (fun _ => ?_)
    exact hpost _ _ _ _ _ h_pl_wanted h_pl_near h_ro_size
  · skip
    have c39 := mt (fa_lt _ _).mpr c39
    refine And.intro (fun c41 => ?_) (fun c41 => ?_)
    · skip
      have c41 := (fa_le _ _).mp c41
      refine And.intro (fun h9 => absurd h9 (by decide)) (fun _ => ?_)
      exact hpost _ _ _ _ _ h_pl_wanted h_pl_near h_ro_size
    · skip
      have c41 := mt (fa_le _ _).mpr c41
      refine And.intro (fun _ => ?_) (fun h9 => absurd h9 (by decide))
      refine t_X5_lookAs h_no_today h_pl_wanted h_pl_near h_tr_fruits h_tr_standings (fun pl_wanted_42 pl_near_43 h_pl_wanted_42 h_pl_near_43 => ?_)
      refine And.intro (fun c44 => ?_) (fun c44 => ?_)
      · skip
        have c44 := mt (fa_eq _ _).mpr c44
        exact ts_X9_trips_45 bZ bD wD gF qA nJ nY dQ jC eO eW fJ fY jD h_tr_fruits h_tr_standings h_no_ladder h_no_today hpost p0 0 pl_wanted_42 pl_near_43 qF jJ (by omega) (by omega) h_pl_wanted_42 h_pl_near_43 h_ro_size
      · skip
        have c44 := (fa_eq _ _).mp c44
        intro v45 ev45
        intro v46 ev46
        have hv46 := congrArg Int32.toInt ev46
        intro v48 ev48
        have f49 := ti_andr v46 858993459 (by omega)
        have hv48 := congrArg Int32.toInt ev48
        intro v50 ev50
        intro v51 ev51
        have f53 := ti_andr v50 858993459 (by omega)
        have f52 : Int32.toInt (v48 + (v50 &&& 858993459)) = Int32.toInt v48 + Int32.toInt (v50 &&& 858993459) := ta_add _ _ (by omega)
        rw [← ev51] at f52
        intro v54 ev54
        have hv54 := congrArg Int32.toInt ev54
        intro v56 ev56
        have f57 := ti_andr v54 252645135 (by omega)
        have hv56 := congrArg Int32.toInt ev56
        intro v58 ev58
        have hv58 := congrArg Int32.toInt ev58
        intro v60 ev60
        have hv60 := congrArg Int32.toInt ev60
        have f62 := ti_andr v60 63 (by omega)
        exact ts_X9_trips_45 bZ bD wD gF qA nJ nY dQ jC eO eW fJ fY jD h_tr_fruits h_tr_standings h_no_ladder h_no_today hpost p0 (v60 &&& 63) pl_wanted_42 pl_near_43 qF jJ (by omega) (by omega) h_pl_wanted_42 h_pl_near_43 h_ro_size
set_option maxHeartbeats 8000000 in
set_option maxRecDepth 200000 in
theorem t_X9_helps {post : Int32 → Int32 → (Nat → Int32) → Int32 → (Nat → Int32) → Prop} {oX : Int32} {rX : Nat → Int32} {bZ bD : Int32} {wD gF qA nJ nY dQ : Nat → Int32} {jC eO eW jD qF : Int32} {jJ : Nat → Int32} (h_pl_wanted : 0 ≤ Int32.toInt oX ∧ Int32.toInt oX ≤ 65535) (h_pl_near : ∀ k : Nat, 0 ≤ Int32.toInt (rX k) ∧ Int32.toInt (rX k) ≤ 65535) (h_tr_fruits : 0 ≤ Int32.toInt bZ ∧ Int32.toInt bZ ≤ 16) (h_tr_standings : 0 ≤ Int32.toInt bD ∧ Int32.toInt bD ≤ 8) (h_no_today : 0 ≤ Int32.toInt jD ∧ Int32.toInt jD ≤ 9) (h_ro_size : 0 ≤ Int32.toInt qF ∧ Int32.toInt qF ≤ 16) (hpost : ∀ (r : Int32) (pl_wanted' : Int32) (pl_near' : Nat → Int32) (ro_size' : Int32) (ro_numbers' : Nat → Int32), (-63 ≤ Int32.toInt r ∧ Int32.toInt r ≤ 63) → (0 ≤ Int32.toInt pl_wanted' ∧ Int32.toInt pl_wanted' ≤ 65535) → (∀ k : Nat, 0 ≤ Int32.toInt (pl_near' k) ∧ Int32.toInt (pl_near' k) ≤ 65535) → (2 ≤ Int32.toInt ro_size' ∧ Int32.toInt ro_size' ≤ 2) → post r pl_wanted' pl_near' ro_size' ro_numbers') : wp_X9_helps post oX rX bZ bD wD gF qA nJ nY dQ jC eO eW jD qF jJ := by
  have l0 := li_0
  have l1 := li_1
  have l2 := li_1431655765
  have l3 := li_16
  have l4 := li_252645135
  have l5 := li_63
  have l6 := li_858993459
  refine t_X5_lookAs h_no_today h_pl_wanted h_pl_near h_tr_fruits h_tr_standings (fun xM xQ h_pl_wanted_1 h_pl_near_2 => ?_)
  intro v3 ev3
  have f4 := ti_shl1 8 256 bD (by decide) (by omega)
  have hv3 := congrArg Int32.toInt ev3
  have f6 : Int32.toInt (v3 - 1) = Int32.toInt v3 - Int32.toInt (1 : Int32) := ta_sub _ _ (by omega)
  refine t_X5_smallestCover h_pl_wanted_1 (by omega) h_pl_near_2 h_tr_standings (fun r5 h_r5 => ?_)
  refine t_X5_lookAs h_no_today h_pl_wanted_1 h_pl_near_2 h_tr_fruits h_tr_standings (fun pl_wanted_7 pl_near_8 h_pl_wanted_7 h_pl_near_8 => ?_)
  intro v9 ev9
  have hv9 := congrArg Int32.toInt ev9
  have f11 : Int32.toInt (v9 - 1) = Int32.toInt v9 - Int32.toInt (1 : Int32) := ta_sub _ _ (by omega)
  refine t_X5_smallestCover h_pl_wanted_7 (by omega) h_pl_near_8 h_tr_standings (fun r10 h_r10 => ?_)
  intro v12 ev12
  intro v13 ev13
  have f15 := ti_andr v12 1431655765 (by omega)
  have f14 : Int32.toInt (xM - (v12 &&& 1431655765)) = Int32.toInt xM - Int32.toInt (v12 &&& 1431655765) := ta_sub _ _ (by omega)
  rw [← ev13] at f14
  intro v16 ev16
  have f17 := ti_andr v13 858993459 (by omega)
  have hv16 := congrArg Int32.toInt ev16
  intro v18 ev18
  intro v19 ev19
  have f21 := ti_andr v18 858993459 (by omega)
  have f20 : Int32.toInt (v16 + (v18 &&& 858993459)) = Int32.toInt v16 + Int32.toInt (v18 &&& 858993459) := ta_add _ _ (by omega)
  rw [← ev19] at f20
  intro v22 ev22
  have hv22 := congrArg Int32.toInt ev22
  intro v24 ev24
  have f25 := ti_andr v22 252645135 (by omega)
  have hv24 := congrArg Int32.toInt ev24
  intro v26 ev26
  have hv26 := congrArg Int32.toInt ev26
  intro v28 ev28
  have hv28 := congrArg Int32.toInt ev28
  intro v30 ev30
  intro v31 ev31
  have f33 := ti_andr v30 1431655765 (by omega)
  have f32 : Int32.toInt (pl_wanted_7 - (v30 &&& 1431655765)) = Int32.toInt pl_wanted_7 - Int32.toInt (v30 &&& 1431655765) := ta_sub _ _ (by omega)
  rw [← ev31] at f32
  intro v34 ev34
  have f35 := ti_andr v31 858993459 (by omega)
  have hv34 := congrArg Int32.toInt ev34
  intro v36 ev36
  intro v37 ev37
  have f39 := ti_andr v36 858993459 (by omega)
  have f38 : Int32.toInt (v34 + (v36 &&& 858993459)) = Int32.toInt v34 + Int32.toInt (v36 &&& 858993459) := ta_add _ _ (by omega)
  rw [← ev37] at f38
  intro v40 ev40
  have hv40 := congrArg Int32.toInt ev40
  intro v42 ev42
  have f43 := ti_andr v40 252645135 (by omega)
  have hv42 := congrArg Int32.toInt ev42
  intro v44 ev44
  have hv44 := congrArg Int32.toInt ev44
  intro v46 ev46
  have hv46 := congrArg Int32.toInt ev46
  refine And.intro (fun h9 => absurd h9 (by decide)) (fun _ => ?_)
  refine And.intro (t_in (by omega)) ?_
  intro v48 ev48
  have f49 : Int32.toInt (0 + 1) = Int32.toInt (0 : Int32) + Int32.toInt (1 : Int32) := ta_add _ _ (by omega)
  rw [← ev48] at f49
  refine And.intro (fun c50 => ?_) (fun c50 => ?_)
  · skip
    have c50 := (fa_le _ _).mp c50
    exfalso; omega
  · skip
    have c50 := mt (fa_le _ _).mpr c50
    refine And.intro (t_in (by omega)) ?_
    intro v51 ev51
    have f52 : Int32.toInt (v48 + 1) = Int32.toInt v48 + Int32.toInt (1 : Int32) := ta_add _ _ (by omega)
    rw [← ev51] at f52
    intro v53 ev53
    intro v54 ev54
    have f56 := ti_andr v53 1431655765 (by omega)
    have f55 : Int32.toInt (r5 - (v53 &&& 1431655765)) = Int32.toInt r5 - Int32.toInt (v53 &&& 1431655765) := ta_sub _ _ (by omega)
    rw [← ev54] at f55
    intro v57 ev57
    have f58 := ti_andr v54 858993459 (by omega)
    have hv57 := congrArg Int32.toInt ev57
    intro v59 ev59
    intro v60 ev60
    have f62 := ti_andr v59 858993459 (by omega)
    have f61 : Int32.toInt (v57 + (v59 &&& 858993459)) = Int32.toInt v57 + Int32.toInt (v59 &&& 858993459) := ta_add _ _ (by omega)
    rw [← ev60] at f61
    intro v63 ev63
    have hv63 := congrArg Int32.toInt ev63
    intro v65 ev65
    have f66 := ti_andr v63 252645135 (by omega)
    have hv65 := congrArg Int32.toInt ev65
    intro v67 ev67
    have hv67 := congrArg Int32.toInt ev67
    intro v69 ev69
    have hv69 := congrArg Int32.toInt ev69
    intro v71 ev71
    intro v72 ev72
    have f74 := ti_andr v71 1431655765 (by omega)
    have f73 : Int32.toInt (r10 - (v71 &&& 1431655765)) = Int32.toInt r10 - Int32.toInt (v71 &&& 1431655765) := ta_sub _ _ (by omega)
    rw [← ev72] at f73
    intro v75 ev75
    have f76 := ti_andr v72 858993459 (by omega)
    have hv75 := congrArg Int32.toInt ev75
    intro v77 ev77
    intro v78 ev78
    have f80 := ti_andr v77 858993459 (by omega)
    have f79 : Int32.toInt (v75 + (v77 &&& 858993459)) = Int32.toInt v75 + Int32.toInt (v77 &&& 858993459) := ta_add _ _ (by omega)
    rw [← ev78] at f79
    intro v81 ev81
    have hv81 := congrArg Int32.toInt ev81
    intro v83 ev83
    have f84 := ti_andr v81 252645135 (by omega)
    have hv83 := congrArg Int32.toInt ev83
    intro v85 ev85
    have hv85 := congrArg Int32.toInt ev85
    intro v87 ev87
    have hv87 := congrArg Int32.toInt ev87
    have f90 := ti_andr v69 63 (by omega)
    have f91 := ti_andr v87 63 (by omega)
    have f89 : Int32.toInt ((v69 &&& 63) - (v87 &&& 63)) = Int32.toInt (v69 &&& 63) - Int32.toInt (v87 &&& 63) := ta_sub _ _ (by omega)
    exact hpost _ _ _ _ _ (by omega) h_pl_wanted_7 h_pl_near_8 (by omega)
set_option maxHeartbeats 8000000 in
set_option maxRecDepth 200000 in
theorem ts_X9_hooked_115 {post : Int32 → Int32 → (Nat → Int32) → Int32 → (Nat → Int32) → Prop} {K50 : Int32 → Int32 → Int32 → Int32 → Int32 → Int32 → (Nat → Int32) → Int32 → (Nat → Int32) → Prop} {n50 : Int} (bZ bD : Int32) (wD gF qA nJ nY dQ : Nat → Int32) (jC eO eW fY jD : Int32) (h_tr_fruits : 0 ≤ Int32.toInt bZ ∧ Int32.toInt bZ ≤ 16) (h_tr_standings : 0 ≤ Int32.toInt bD ∧ Int32.toInt bD ≤ 8) (h_no_today : 0 ≤ Int32.toInt jD ∧ Int32.toInt jD ≤ 9) (hpost : ∀ (r : Int32) (pl_wanted' : Int32) (pl_near' : Nat → Int32) (ro_size' : Int32) (ro_numbers' : Nat → Int32), (0 ≤ Int32.toInt r ∧ Int32.toInt r ≤ 65535) → (0 ≤ Int32.toInt pl_wanted' ∧ Int32.toInt pl_wanted' ≤ 65535) → (∀ k : Nat, 0 ≤ Int32.toInt (pl_near' k) ∧ Int32.toInt (pl_near' k) ≤ 65535) → (2 ≤ Int32.toInt ro_size' ∧ Int32.toInt ro_size' ≤ 2) → post r pl_wanted' pl_near' ro_size' ro_numbers') (hK50 : ∀ (x1 : Int32) (x2 : Int32) (x3 : Int32) (x4 : Int32) (x5 : Int32) (oX : Int32) (rX : Nat → Int32) (qF : Int32) (jJ : Nat → Int32), (0 ≤ Int32.toInt x1 ∧ Int32.toInt x1 ≤ 65535) → (0 ≤ Int32.toInt x2 ∧ Int32.toInt x2 ≤ 65535) → (-1 ≤ Int32.toInt x3 ∧ Int32.toInt x3 ≤ 7) → (0 ≤ Int32.toInt x4 ∧ Int32.toInt x4 ≤ 63) → (0 ≤ Int32.toInt x5 ∧ Int32.toInt x5 ≤ 8) → (0 ≤ Int32.toInt oX ∧ Int32.toInt oX ≤ 65535) → (∀ k : Nat, 0 ≤ Int32.toInt (rX k) ∧ Int32.toInt (rX k) ≤ 65535) → (0 ≤ Int32.toInt qF ∧ Int32.toInt qF ≤ 16) → (8 - Int32.toInt x5 < n50) → K50 x1 x2 x3 x4 x5 oX rX qF jJ) (x1 x2 x3 x4 x5 oX : Int32) (rX : Nat → Int32) (qF : Int32) (jJ : Nat → Int32) (h_x1 : 0 ≤ Int32.toInt x1 ∧ Int32.toInt x1 ≤ 65535) (h_x2 : 0 ≤ Int32.toInt x2 ∧ Int32.toInt x2 ≤ 65535) (h_x3 : -1 ≤ Int32.toInt x3 ∧ Int32.toInt x3 ≤ 7) (h_x4 : 0 ≤ Int32.toInt x4 ∧ Int32.toInt x4 ≤ 63) (h_x5 : 0 ≤ Int32.toInt x5 ∧ Int32.toInt x5 ≤ 7) (h_pl_wanted : 0 ≤ Int32.toInt oX ∧ Int32.toInt oX ≤ 65535) (h_pl_near : ∀ k : Nat, 0 ≤ Int32.toInt (rX k) ∧ Int32.toInt (rX k) ≤ 65535) (h_ro_size : 0 ≤ Int32.toInt qF ∧ Int32.toInt qF ≤ 16) (hn50 : 8 - Int32.toInt x5 ≤ n50) : ws_X9_hooked_115 post K50 bZ bD wD gF qA nJ nY dQ jC eO eW fY jD x1 x2 x3 x4 x5 oX rX qF jJ := by
  have l0 := li_1
  intro v1 ev1
  have f2 : Int32.toInt (x5 + 1) = Int32.toInt x5 + Int32.toInt (1 : Int32) := ta_add _ _ (by omega)
  rw [← ev1] at f2
  exact hK50 x1 x2 x3 x4 v1 oX rX qF jJ h_x1 h_x2 h_x3 h_x4 (by omega) h_pl_wanted h_pl_near h_ro_size (by omega)
set_option maxHeartbeats 8000000 in
set_option maxRecDepth 200000 in
theorem ts_X9_hooked_50 {post : Int32 → Int32 → (Nat → Int32) → Int32 → (Nat → Int32) → Prop} {next : Int32 → Int32 → Int32 → Int32 → Int32 → Int32 → (Nat → Int32) → Int32 → (Nat → Int32) → Prop} {n50 : Int} (bZ bD : Int32) (wD gF qA nJ nY dQ : Nat → Int32) (jC eO eW fY jD : Int32) (h_tr_fruits : 0 ≤ Int32.toInt bZ ∧ Int32.toInt bZ ≤ 16) (h_tr_standings : 0 ≤ Int32.toInt bD ∧ Int32.toInt bD ≤ 8) (h_no_today : 0 ≤ Int32.toInt jD ∧ Int32.toInt jD ≤ 9) (hpost : ∀ (r : Int32) (pl_wanted' : Int32) (pl_near' : Nat → Int32) (ro_size' : Int32) (ro_numbers' : Nat → Int32), (0 ≤ Int32.toInt r ∧ Int32.toInt r ≤ 65535) → (0 ≤ Int32.toInt pl_wanted' ∧ Int32.toInt pl_wanted' ≤ 65535) → (∀ k : Nat, 0 ≤ Int32.toInt (pl_near' k) ∧ Int32.toInt (pl_near' k) ≤ 65535) → (2 ≤ Int32.toInt ro_size' ∧ Int32.toInt ro_size' ≤ 2) → post r pl_wanted' pl_near' ro_size' ro_numbers') (hKn : ∀ (x1 : Int32) (x2 : Int32) (x3 : Int32) (x4 : Int32) (x5 : Int32) (oX : Int32) (rX : Nat → Int32) (qF : Int32) (jJ : Nat → Int32), (0 ≤ Int32.toInt x1 ∧ Int32.toInt x1 ≤ 65535) → (0 ≤ Int32.toInt x2 ∧ Int32.toInt x2 ≤ 65535) → (-1 ≤ Int32.toInt x3 ∧ Int32.toInt x3 ≤ 7) → (0 ≤ Int32.toInt x4 ∧ Int32.toInt x4 ≤ 63) → (0 ≤ Int32.toInt x5 ∧ Int32.toInt x5 ≤ 8) → (0 ≤ Int32.toInt oX ∧ Int32.toInt oX ≤ 65535) → (∀ k : Nat, 0 ≤ Int32.toInt (rX k) ∧ Int32.toInt (rX k) ≤ 65535) → (0 ≤ Int32.toInt qF ∧ Int32.toInt qF ≤ 16) → (8 - Int32.toInt x5 < n50) → next x1 x2 x3 x4 x5 oX rX qF jJ) (x1 x2 x3 x4 x5 oX : Int32) (rX : Nat → Int32) (qF : Int32) (jJ : Nat → Int32) (h_x1 : 0 ≤ Int32.toInt x1 ∧ Int32.toInt x1 ≤ 65535) (h_x2 : 0 ≤ Int32.toInt x2 ∧ Int32.toInt x2 ≤ 65535) (h_x3 : -1 ≤ Int32.toInt x3 ∧ Int32.toInt x3 ≤ 7) (h_x4 : 0 ≤ Int32.toInt x4 ∧ Int32.toInt x4 ≤ 63) (h_x5 : 0 ≤ Int32.toInt x5 ∧ Int32.toInt x5 ≤ 8) (h_pl_wanted : 0 ≤ Int32.toInt oX ∧ Int32.toInt oX ≤ 65535) (h_pl_near : ∀ k : Nat, 0 ≤ Int32.toInt (rX k) ∧ Int32.toInt (rX k) ≤ 65535) (h_ro_size : 0 ≤ Int32.toInt qF ∧ Int32.toInt qF ≤ 16) (hn50 : 8 - Int32.toInt x5 ≤ n50) : ws_X9_hooked_50 post next bZ bD wD gF qA nJ nY dQ jC eO eW fY jD x1 x2 x3 x4 x5 oX rX qF jJ := by
  have l0 := li_0
  have l1 := li_1
  have l2 := li_1431655765
  have l3 := li_16
  have l4 := li_2
  have l5 := li_252645135
  have l6 := li_63
  have l7 := li_858993459
  refine And.intro (fun c3 => ?_) (fun c3 => ?_)
  · skip
    have c3 := (fa_le _ _).mp c3
    refine And.intro (fun h9 => absurd h9 (by decide)) (fun _ => ?_)
    refine And.intro (t_in (by omega)) ?_
    intro v4 ev4
    have f5 : Int32.toInt (0 + 1) = Int32.toInt (0 : Int32) + Int32.toInt (1 : Int32) := ta_add _ _ (by omega)
    rw [← ev4] at f5
    refine And.intro (fun c6 => ?_) (fun c6 => ?_)
    · skip
      have c6 := (fa_le _ _).mp c6
      exfalso; omega
    · skip
      have c6 := mt (fa_le _ _).mpr c6
      refine And.intro (t_in (by omega)) ?_
      intro v7 ev7
      have f8 : Int32.toInt (v4 + 1) = Int32.toInt v4 + Int32.toInt (1 : Int32) := ta_add _ _ (by omega)
      rw [← ev7] at f8
      exact hpost _ _ _ _ _ h_x2 h_pl_wanted h_pl_near (by omega)
  · skip
    have c3 := mt (fa_le _ _).mpr c3
    intro v9 ev9
    have hv9 := congrArg Int32.toInt ev9
    intro v11 ev11
    have hv11 := congrArg Int32.toInt ev11
    refine t_X3_within (by omega) h_tr_fruits (fun r13 h_r13 => ?_)
    intro v14 ev14
    have f15 := ti_andr x1 r13 (by omega)
    have f16 := ti_andl x1 r13 (by omega)
    have hv14 := congrArg Int32.toInt ev14
    intro v17 ev17
    have f18 := ti_or 16 65536 x2 v14 (by decide) (by omega) (by omega)
    have hv17 := congrArg Int32.toInt ev17
    intro v19 ev19
    intro v20 ev20
    have f22 := ti_andr v19 1431655765 (by omega)
    have f21 : Int32.toInt (v14 - (v19 &&& 1431655765)) = Int32.toInt v14 - Int32.toInt (v19 &&& 1431655765) := ta_sub _ _ (by omega)
    rw [← ev20] at f21
    intro v23 ev23
    have f24 := ti_andr v20 858993459 (by omega)
    have hv23 := congrArg Int32.toInt ev23
    intro v25 ev25
    intro v26 ev26
    have f28 := ti_andr v25 858993459 (by omega)
    have f27 : Int32.toInt (v23 + (v25 &&& 858993459)) = Int32.toInt v23 + Int32.toInt (v25 &&& 858993459) := ta_add _ _ (by omega)
    rw [← ev26] at f27
    intro v29 ev29
    have hv29 := congrArg Int32.toInt ev29
    intro v31 ev31
    have f32 := ti_andr v29 252645135 (by omega)
    have hv31 := congrArg Int32.toInt ev31
    intro v33 ev33
    have hv33 := congrArg Int32.toInt ev33
    intro v35 ev35
    have hv35 := congrArg Int32.toInt ev35
    have f38 := ti_andr v35 63 (by omega)
    refine And.intro (fun c37 => ?_) (fun c37 => ?_)
    · skip
      have c37 := (fa_le _ _).mp c37
      exact ts_X9_hooked_115 bZ bD wD gF qA nJ nY dQ jC eO eW fY jD h_tr_fruits h_tr_standings h_no_today hpost hKn x1 v17 x3 x4 x5 oX rX qF jJ h_x1 (by omega) h_x3 h_x4 (by omega) h_pl_wanted h_pl_near h_ro_size hn50
    · skip
      have c37 := mt (fa_le _ _).mpr c37
      intro v39 ev39
      intro v40 ev40
      have f42 := ti_andr v39 1431655765 (by omega)
      have f41 : Int32.toInt (v14 - (v39 &&& 1431655765)) = Int32.toInt v14 - Int32.toInt (v39 &&& 1431655765) := ta_sub _ _ (by omega)
      rw [← ev40] at f41
      intro v43 ev43
      have f44 := ti_andr v40 858993459 (by omega)
      have hv43 := congrArg Int32.toInt ev43
      intro v45 ev45
      intro v46 ev46
      have f48 := ti_andr v45 858993459 (by omega)
      have f47 : Int32.toInt (v43 + (v45 &&& 858993459)) = Int32.toInt v43 + Int32.toInt (v45 &&& 858993459) := ta_add _ _ (by omega)
      rw [← ev46] at f47
      intro v49 ev49
      have hv49 := congrArg Int32.toInt ev49
      intro v51 ev51
      have f52 := ti_andr v49 252645135 (by omega)
      have hv51 := congrArg Int32.toInt ev51
      intro v53 ev53
      have hv53 := congrArg Int32.toInt ev53
      intro v55 ev55
      have hv55 := congrArg Int32.toInt ev55
      have f57 := ti_andr v55 63 (by omega)
      exact ts_X9_hooked_115 bZ bD wD gF qA nJ nY dQ jC eO eW fY jD h_tr_fruits h_tr_standings h_no_today hpost hKn x1 v17 x5 (v55 &&& 63) x5 oX rX qF jJ h_x1 (by omega) (by omega) (by omega) (by omega) h_pl_wanted h_pl_near h_ro_size hn50
set_option maxHeartbeats 8000000 in
set_option maxRecDepth 200000 in
theorem tb_X9_hooked_50 {post : Int32 → Int32 → (Nat → Int32) → Int32 → (Nat → Int32) → Prop} (bZ bD : Int32) (wD gF qA nJ nY dQ : Nat → Int32) (jC eO eW fY jD : Int32) (h_tr_fruits : 0 ≤ Int32.toInt bZ ∧ Int32.toInt bZ ≤ 16) (h_tr_standings : 0 ≤ Int32.toInt bD ∧ Int32.toInt bD ≤ 8) (h_no_today : 0 ≤ Int32.toInt jD ∧ Int32.toInt jD ≤ 9) (hpost : ∀ (r : Int32) (pl_wanted' : Int32) (pl_near' : Nat → Int32) (ro_size' : Int32) (ro_numbers' : Nat → Int32), (0 ≤ Int32.toInt r ∧ Int32.toInt r ≤ 65535) → (0 ≤ Int32.toInt pl_wanted' ∧ Int32.toInt pl_wanted' ≤ 65535) → (∀ k : Nat, 0 ≤ Int32.toInt (pl_near' k) ∧ Int32.toInt (pl_near' k) ≤ 65535) → (2 ≤ Int32.toInt ro_size' ∧ Int32.toInt ro_size' ≤ 2) → post r pl_wanted' pl_near' ro_size' ro_numbers') : ∀ (n : Nat) (x1 x2 x3 x4 x5 oX : Int32) (rX : Nat → Int32) (qF : Int32) (jJ : Nat → Int32), (0 ≤ Int32.toInt x1 ∧ Int32.toInt x1 ≤ 65535) → (0 ≤ Int32.toInt x2 ∧ Int32.toInt x2 ≤ 65535) → (-1 ≤ Int32.toInt x3 ∧ Int32.toInt x3 ≤ 7) → (0 ≤ Int32.toInt x4 ∧ Int32.toInt x4 ≤ 63) → (0 ≤ Int32.toInt x5 ∧ Int32.toInt x5 ≤ 8) → (0 ≤ Int32.toInt oX ∧ Int32.toInt oX ≤ 65535) → (∀ k : Nat, 0 ≤ Int32.toInt (rX k) ∧ Int32.toInt (rX k) ≤ 65535) → (0 ≤ Int32.toInt qF ∧ Int32.toInt qF ≤ 16) → (8 - Int32.toInt x5 < (n : Int)) → wb_X9_hooked_50 post bZ bD wD gF qA nJ nY dQ jC eO eW fY jD n x1 x2 x3 x4 x5 oX rX qF jJ := by
  intro n
  induction n with
  | zero =>
    intro x1 x2 x3 x4 x5 oX rX qF jJ h_x1 h_x2 h_x3 h_x4 h_x5 h_pl_wanted h_pl_near h_ro_size hm
    exfalso; omega
  | succ n ih =>
    intro x1 x2 x3 x4 x5 oX rX qF jJ h_x1 h_x2 h_x3 h_x4 h_x5 h_pl_wanted h_pl_near h_ro_size hm
    exact ts_X9_hooked_50 bZ bD wD gF qA nJ nY dQ jC eO eW fY jD h_tr_fruits h_tr_standings h_no_today hpost ih x1 x2 x3 x4 x5 oX rX qF jJ h_x1 h_x2 h_x3 h_x4 h_x5 h_pl_wanted h_pl_near h_ro_size (by omega)
set_option maxHeartbeats 8000000 in
set_option maxRecDepth 200000 in
theorem t_X9_hooked {post : Int32 → Int32 → (Nat → Int32) → Int32 → (Nat → Int32) → Prop} {oX : Int32} {rX : Nat → Int32} {bZ bD : Int32} {wD gF qA nJ nY dQ : Nat → Int32} {jC eO eW fY jD qF : Int32} {jJ : Nat → Int32} (h_pl_wanted : 0 ≤ Int32.toInt oX ∧ Int32.toInt oX ≤ 65535) (h_pl_near : ∀ k : Nat, 0 ≤ Int32.toInt (rX k) ∧ Int32.toInt (rX k) ≤ 65535) (h_tr_fruits : 0 ≤ Int32.toInt bZ ∧ Int32.toInt bZ ≤ 16) (h_tr_standings : 0 ≤ Int32.toInt bD ∧ Int32.toInt bD ≤ 8) (h_no_today : 0 ≤ Int32.toInt jD ∧ Int32.toInt jD ≤ 9) (h_ro_size : 0 ≤ Int32.toInt qF ∧ Int32.toInt qF ≤ 16) (hpost : ∀ (r : Int32) (pl_wanted' : Int32) (pl_near' : Nat → Int32) (ro_size' : Int32) (ro_numbers' : Nat → Int32), (0 ≤ Int32.toInt r ∧ Int32.toInt r ≤ 65535) → (0 ≤ Int32.toInt pl_wanted' ∧ Int32.toInt pl_wanted' ≤ 65535) → (∀ k : Nat, 0 ≤ Int32.toInt (pl_near' k) ∧ Int32.toInt (pl_near' k) ≤ 65535) → (2 ≤ Int32.toInt ro_size' ∧ Int32.toInt ro_size' ≤ 2) → post r pl_wanted' pl_near' ro_size' ro_numbers') : wp_X9_hooked post oX rX bZ bD wD gF qA nJ nY dQ jC eO eW fY jD qF jJ := by
  have l0 := li_m1
  have l1 := li_0
  have l2 := li_1
  refine t_X5_lookAs h_no_today h_pl_wanted h_pl_near h_tr_fruits h_tr_standings (fun pl_wanted_58 pl_near_59 h_pl_wanted_58 h_pl_near_59 => ?_)
  intro v60 ev60
  have f61 := ti_shl1 16 65536 bZ (by decide) (by omega)
  have hv60 := congrArg Int32.toInt ev60
  intro v62 ev62
  intro v63 ev63
  refine t_X3_ripeBy h_no_today h_tr_fruits (fun r64 h_r64 => ?_)
  intro v65 ev65
  have f66 := ti_andr ((v60 - 1) &&& (v63 ^^^ (-1))) r64 (by omega)
  have f68 : Int32.toInt (v60 - 1) = Int32.toInt v60 - Int32.toInt (1 : Int32) := ta_sub _ _ (by omega)
  have f69 := ti_andl (v60 - 1) (v63 ^^^ (-1)) (by omega)
  have f70 := ti_andl ((v60 - 1) &&& (v63 ^^^ (-1))) r64 (by omega)
  have hv65 := congrArg Int32.toInt ev65
  intro v71 ev71
  have f73 := ti_andl v65 (pl_wanted_58 ^^^ (-1)) (by omega)
  have hv71 := congrArg Int32.toInt ev71
  exact ⟨10, tb_X9_hooked_50 bZ bD wD gF qA nJ nY dQ jC eO eW fY jD h_tr_fruits h_tr_standings h_no_today hpost _ v71 0 (-1) 0 0 pl_wanted_58 pl_near_59 qF jJ (by omega) (by omega) (by omega) (by omega) (by omega) h_pl_wanted_58 h_pl_near_59 h_ro_size (by omega)⟩
set_option maxHeartbeats 8000000 in
set_option maxRecDepth 200000 in
theorem t_X9_broken {post : Int32 → Int32 → (Nat → Int32) → Int32 → (Nat → Int32) → Prop} {p0 oX : Int32} {rX : Nat → Int32} {bZ bD : Int32} {wD gF qA nJ nY dQ : Nat → Int32} {jC eO eW fY jD qF : Int32} {jJ : Nat → Int32} (h_pl_wanted : 0 ≤ Int32.toInt oX ∧ Int32.toInt oX ≤ 65535) (h_pl_near : ∀ k : Nat, 0 ≤ Int32.toInt (rX k) ∧ Int32.toInt (rX k) ≤ 65535) (h_tr_fruits : 0 ≤ Int32.toInt bZ ∧ Int32.toInt bZ ≤ 16) (h_tr_standings : 0 ≤ Int32.toInt bD ∧ Int32.toInt bD ≤ 8) (h_no_today : 0 ≤ Int32.toInt jD ∧ Int32.toInt jD ≤ 9) (h_ro_size : 0 ≤ Int32.toInt qF ∧ Int32.toInt qF ≤ 16) (hpost : ∀ (r : Int32) (pl_wanted' : Int32) (pl_near' : Nat → Int32) (ro_size' : Int32) (ro_numbers' : Nat → Int32), (-1 ≤ Int32.toInt r ∧ Int32.toInt r ≤ 63) → (0 ≤ Int32.toInt pl_wanted' ∧ Int32.toInt pl_wanted' ≤ 65535) → (∀ k : Nat, 0 ≤ Int32.toInt (pl_near' k) ∧ Int32.toInt (pl_near' k) ≤ 65535) → (0 ≤ Int32.toInt ro_size' ∧ Int32.toInt ro_size' ≤ 16) → post r pl_wanted' pl_near' ro_size' ro_numbers') : wp_X9_broken post p0 oX rX bZ bD wD gF qA nJ nY dQ jC eO eW fY jD qF jJ := by
  have l0 := li_m1
  have l1 := li_0
  have l2 := li_1
  have l3 := li_1431655765
  have l4 := li_252645135
  have l5 := li_63
  have l6 := li_858993459
  have f2 := tp_r p0
  refine And.intro (fun c1 => ?_) (fun c1 => ?_)
  · skip
    have c1 := (fa_lt _ _).mp c1
    refine And.intro (fun h9 => absurd h9 (by decide)) (fun _ => ?_)
    exact hpost _ _ _ _ _ (by omega) h_pl_wanted h_pl_near h_ro_size
  · skip
    have c1 := mt (fa_lt _ _).mpr c1
    refine And.intro (fun c3 => ?_) (fun c3 => ?_)
    · skip
      have c3 := (fa_le _ _).mp c3
      refine And.intro (fun h9 => absurd h9 (by decide)) (fun _ => ?_)
      exact hpost _ _ _ _ _ (by omega) h_pl_wanted h_pl_near h_ro_size
    · skip
      have c3 := mt (fa_le _ _).mpr c3
      refine And.intro (fun _ => ?_) (fun h9 => absurd h9 (by decide))
      refine t_X5_lookAs h_no_today h_pl_wanted h_pl_near h_tr_fruits h_tr_standings (fun pl_wanted_4 pl_near_5 h_pl_wanted_4 h_pl_near_5 => ?_)
      intro v6 ev6
      have f7 := ti_shl1 8 256 bD (by decide) (by omega)
      have hv6 := congrArg Int32.toInt ev6
      intro v8 ev8
      have f9 := ti_shl1 7 128 p0 (by decide) (by omega)
      have hv8 := congrArg Int32.toInt ev8
      intro v10 ev10
      have f12 : Int32.toInt (v6 - 1) = Int32.toInt v6 - Int32.toInt (1 : Int32) := ta_sub _ _ (by omega)
      have f13 := ti_andl (v6 - 1) (v8 ^^^ (-1)) (by omega)
      have hv10 := congrArg Int32.toInt ev10
      refine t_X5_reachedBy (by omega) h_pl_near_5 h_tr_standings (fun r14 h_r14 => ?_)
      intro v15 ev15
      have f17 := ti_andl pl_wanted_4 (r14 ^^^ (-1)) (by omega)
      have hv15 := congrArg Int32.toInt ev15
      refine And.intro (fun h9 => absurd h9 (by decide)) (fun _ => ?_)
      refine And.intro (t_in (by omega)) ?_
      intro v18 ev18
      have f19 : Int32.toInt (0 + 1) = Int32.toInt (0 : Int32) + Int32.toInt (1 : Int32) := ta_add _ _ (by omega)
      rw [← ev18] at f19
      intro v20 ev20
      have f22 := ti_andl pl_wanted_4 (v15 ^^^ (-1)) (by omega)
      have hv20 := congrArg Int32.toInt ev20
      refine t_X5_smallestCover (by omega) (by omega) h_pl_near_5 h_tr_standings (fun r23 h_r23 => ?_)
      intro v24 ev24
      intro v25 ev25
      have f27 := ti_andr v24 1431655765 (by omega)
      have f26 : Int32.toInt (r23 - (v24 &&& 1431655765)) = Int32.toInt r23 - Int32.toInt (v24 &&& 1431655765) := ta_sub _ _ (by omega)
      rw [← ev25] at f26
      intro v28 ev28
      have f29 := ti_andr v25 858993459 (by omega)
      have hv28 := congrArg Int32.toInt ev28
      intro v30 ev30
      intro v31 ev31
      have f33 := ti_andr v30 858993459 (by omega)
      have f32 : Int32.toInt (v28 + (v30 &&& 858993459)) = Int32.toInt v28 + Int32.toInt (v30 &&& 858993459) := ta_add _ _ (by omega)
      rw [← ev31] at f32
      intro v34 ev34
      have hv34 := congrArg Int32.toInt ev34
      intro v36 ev36
      have f37 := ti_andr v34 252645135 (by omega)
      have hv36 := congrArg Int32.toInt ev36
      intro v38 ev38
      have hv38 := congrArg Int32.toInt ev38
      intro v40 ev40
      have hv40 := congrArg Int32.toInt ev40
      have f42 := ti_andr v40 63 (by omega)
      exact hpost _ _ _ _ _ (by omega) h_pl_wanted_4 h_pl_near_5 (by omega)
set_option maxHeartbeats 8000000 in
set_option maxRecDepth 200000 in
theorem ts_X9_sweep_121 {post : Int32 → Int32 → Int32 → Int32 → Int32 → (Nat → Int32) → (Nat → Int32) → (Nat → Int32) → (Nat → Int32) → (Nat → Int32) → Int32 → (Nat → Int32) → Prop} {K37 : Int32 → Int32 → Int32 → Int32 → Int32 → Int32 → Int32 → Int32 → Int32 → (Nat → Int32) → (Nat → Int32) → (Nat → Int32) → (Nat → Int32) → (Nat → Int32) → Int32 → (Nat → Int32) → Prop} {n37 : Int} (bZ bD : Int32) (wD gF pE qA nJ nY dQ : Nat → Int32) (jC eO eW dO fJ fY jD pG : Int32) (oF : Nat → Int32) (h_tr_fruits : 0 ≤ Int32.toInt bZ ∧ Int32.toInt bZ ≤ 16) (h_tr_standings : 0 ≤ Int32.toInt bD ∧ Int32.toInt bD ≤ 8) (h_no_ladder : -1 ≤ Int32.toInt fJ ∧ Int32.toInt fJ ≤ 7) (h_no_today : 0 ≤ Int32.toInt jD ∧ Int32.toInt jD ≤ 9) (h_ru_length : 0 ≤ Int32.toInt pG ∧ Int32.toInt pG ≤ 40) (hpost : ∀ (r : Int32) (pl_wanted' : Int32) (pl_moves' : Int32) (pl_picking' : Int32) (pl_downs' : Int32) (pl_near' : Nat → Int32) (pl_seconds' : Nat → Int32) (pl_many' : Nat → Int32) (ru_given' : Nat → Int32) (ru_stack' : Nat → Int32) (ro_size' : Int32) (ro_numbers' : Nat → Int32), (-1 ≤ Int32.toInt r ∧ Int32.toInt r ≤ 2147483647) → (0 ≤ Int32.toInt pl_wanted' ∧ Int32.toInt pl_wanted' ≤ 65535) → (∀ k : Nat, 0 ≤ Int32.toInt (pl_near' k) ∧ Int32.toInt (pl_near' k) ≤ 65535) → (∀ k : Nat, 0 ≤ Int32.toInt (pl_seconds' k) ∧ Int32.toInt (pl_seconds' k) ≤ 99) → (0 ≤ Int32.toInt ro_size' ∧ Int32.toInt ro_size' ≤ 16) → post r pl_wanted' pl_moves' pl_picking' pl_downs' pl_near' pl_seconds' pl_many' ru_given' ru_stack' ro_size' ro_numbers') (hK37 : ∀ (x1 : Int32) (x2 : Int32) (x3 : Int32) (x4 : Int32) (x5 : Int32) (oX : Int32) (rJ : Int32) (pN : Int32) (rP : Int32) (rX : Nat → Int32) (rO : Nat → Int32) (vI : Nat → Int32) (qO : Nat → Int32) (qQ : Nat → Int32) (qF : Int32) (jJ : Nat → Int32), (0 ≤ Int32.toInt x1 ∧ Int32.toInt x1 ≤ 9999) → (0 ≤ Int32.toInt x2 ∧ Int32.toInt x2 ≤ 255) → (0 ≤ Int32.toInt x3 ∧ Int32.toInt x3 ≤ 2147483647) → (-2147483648 ≤ Int32.toInt x4 ∧ Int32.toInt x4 ≤ 9999) → (1 ≤ Int32.toInt x5 ∧ Int32.toInt x5 ≤ 256) → (0 ≤ Int32.toInt oX ∧ Int32.toInt oX ≤ 65535) → (∀ k : Nat, 0 ≤ Int32.toInt (rX k) ∧ Int32.toInt (rX k) ≤ 65535) → (∀ k : Nat, 0 ≤ Int32.toInt (rO k) ∧ Int32.toInt (rO k) ≤ 99) → (0 ≤ Int32.toInt qF ∧ Int32.toInt qF ≤ 16) → (256 - Int32.toInt x5 < n37) → K37 x1 x2 x3 x4 x5 oX rJ pN rP rX rO vI qO qQ qF jJ) (x1 x2 x3 x4 x5 oX rJ pN rP : Int32) (rX rO vI qO qQ : Nat → Int32) (qF : Int32) (jJ : Nat → Int32) (h_x1 : 0 ≤ Int32.toInt x1 ∧ Int32.toInt x1 ≤ 9999) (h_x2 : 0 ≤ Int32.toInt x2 ∧ Int32.toInt x2 ≤ 255) (h_x3 : 0 ≤ Int32.toInt x3 ∧ Int32.toInt x3 ≤ 2147483647) (h_x4 : -2147483648 ≤ Int32.toInt x4 ∧ Int32.toInt x4 ≤ 9999) (h_x5 : 1 ≤ Int32.toInt x5 ∧ Int32.toInt x5 ≤ 255) (h_pl_wanted : 0 ≤ Int32.toInt oX ∧ Int32.toInt oX ≤ 65535) (h_pl_near : ∀ k : Nat, 0 ≤ Int32.toInt (rX k) ∧ Int32.toInt (rX k) ≤ 65535) (h_pl_seconds : ∀ k : Nat, 0 ≤ Int32.toInt (rO k) ∧ Int32.toInt (rO k) ≤ 99) (h_ro_size : 0 ≤ Int32.toInt qF ∧ Int32.toInt qF ≤ 16) (hn37 : 256 - Int32.toInt x5 ≤ n37) : ws_X9_sweep_121 post K37 bZ bD wD gF pE qA nJ nY dQ jC eO eW dO fJ fY jD pG oF x1 x2 x3 x4 x5 oX rJ pN rP rX rO vI qO qQ qF jJ := by
  have l0 := li_1
  intro v1 ev1
  have f2 : Int32.toInt (x5 + 1) = Int32.toInt x5 + Int32.toInt (1 : Int32) := ta_add _ _ (by omega)
  rw [← ev1] at f2
  have f3 := tp_r x3
  have f4 := tp_r x4
  have f5 := tp_r rJ
  have f6 := tp_r pN
  have f7 := tp_r rP
  exact hK37 x1 x2 x3 x4 v1 oX rJ pN rP rX rO vI qO qQ qF jJ h_x1 h_x2 h_x3 h_x4 (by omega) h_pl_wanted h_pl_near h_pl_seconds h_ro_size (by omega)
set_option maxHeartbeats 8000000 in
set_option maxRecDepth 200000 in
theorem ts_X9_sweep_111 {post : Int32 → Int32 → Int32 → Int32 → Int32 → (Nat → Int32) → (Nat → Int32) → (Nat → Int32) → (Nat → Int32) → (Nat → Int32) → Int32 → (Nat → Int32) → Prop} {K37 : Int32 → Int32 → Int32 → Int32 → Int32 → Int32 → Int32 → Int32 → Int32 → (Nat → Int32) → (Nat → Int32) → (Nat → Int32) → (Nat → Int32) → (Nat → Int32) → Int32 → (Nat → Int32) → Prop} {n37 : Int} (bZ bD : Int32) (wD gF pE qA nJ nY dQ : Nat → Int32) (jC eO eW dO fJ fY jD pG : Int32) (oF : Nat → Int32) (h_tr_fruits : 0 ≤ Int32.toInt bZ ∧ Int32.toInt bZ ≤ 16) (h_tr_standings : 0 ≤ Int32.toInt bD ∧ Int32.toInt bD ≤ 8) (h_no_ladder : -1 ≤ Int32.toInt fJ ∧ Int32.toInt fJ ≤ 7) (h_no_today : 0 ≤ Int32.toInt jD ∧ Int32.toInt jD ≤ 9) (h_ru_length : 0 ≤ Int32.toInt pG ∧ Int32.toInt pG ≤ 40) (hpost : ∀ (r : Int32) (pl_wanted' : Int32) (pl_moves' : Int32) (pl_picking' : Int32) (pl_downs' : Int32) (pl_near' : Nat → Int32) (pl_seconds' : Nat → Int32) (pl_many' : Nat → Int32) (ru_given' : Nat → Int32) (ru_stack' : Nat → Int32) (ro_size' : Int32) (ro_numbers' : Nat → Int32), (-1 ≤ Int32.toInt r ∧ Int32.toInt r ≤ 2147483647) → (0 ≤ Int32.toInt pl_wanted' ∧ Int32.toInt pl_wanted' ≤ 65535) → (∀ k : Nat, 0 ≤ Int32.toInt (pl_near' k) ∧ Int32.toInt (pl_near' k) ≤ 65535) → (∀ k : Nat, 0 ≤ Int32.toInt (pl_seconds' k) ∧ Int32.toInt (pl_seconds' k) ≤ 99) → (0 ≤ Int32.toInt ro_size' ∧ Int32.toInt ro_size' ≤ 16) → post r pl_wanted' pl_moves' pl_picking' pl_downs' pl_near' pl_seconds' pl_many' ru_given' ru_stack' ro_size' ro_numbers') (hK37 : ∀ (x1 : Int32) (x2 : Int32) (x3 : Int32) (x4 : Int32) (x5 : Int32) (oX : Int32) (rJ : Int32) (pN : Int32) (rP : Int32) (rX : Nat → Int32) (rO : Nat → Int32) (vI : Nat → Int32) (qO : Nat → Int32) (qQ : Nat → Int32) (qF : Int32) (jJ : Nat → Int32), (0 ≤ Int32.toInt x1 ∧ Int32.toInt x1 ≤ 9999) → (0 ≤ Int32.toInt x2 ∧ Int32.toInt x2 ≤ 255) → (0 ≤ Int32.toInt x3 ∧ Int32.toInt x3 ≤ 2147483647) → (-2147483648 ≤ Int32.toInt x4 ∧ Int32.toInt x4 ≤ 9999) → (1 ≤ Int32.toInt x5 ∧ Int32.toInt x5 ≤ 256) → (0 ≤ Int32.toInt oX ∧ Int32.toInt oX ≤ 65535) → (∀ k : Nat, 0 ≤ Int32.toInt (rX k) ∧ Int32.toInt (rX k) ≤ 65535) → (∀ k : Nat, 0 ≤ Int32.toInt (rO k) ∧ Int32.toInt (rO k) ≤ 99) → (0 ≤ Int32.toInt qF ∧ Int32.toInt qF ≤ 16) → (256 - Int32.toInt x5 < n37) → K37 x1 x2 x3 x4 x5 oX rJ pN rP rX rO vI qO qQ qF jJ) (x1 x5 x6 x7 oX rJ pN rP : Int32) (rX rO vI qO qQ : Nat → Int32) (qF : Int32) (jJ : Nat → Int32) (h_x1 : 0 ≤ Int32.toInt x1 ∧ Int32.toInt x1 ≤ 9999) (h_x5 : 1 ≤ Int32.toInt x5 ∧ Int32.toInt x5 ≤ 255) (h_x6 : 0 ≤ Int32.toInt x6 ∧ Int32.toInt x6 ≤ 2147483647) (h_x7 : -2147483648 ≤ Int32.toInt x7 ∧ Int32.toInt x7 ≤ 9999) (h_pl_wanted : 0 ≤ Int32.toInt oX ∧ Int32.toInt oX ≤ 65535) (h_pl_near : ∀ k : Nat, 0 ≤ Int32.toInt (rX k) ∧ Int32.toInt (rX k) ≤ 65535) (h_pl_seconds : ∀ k : Nat, 0 ≤ Int32.toInt (rO k) ∧ Int32.toInt (rO k) ≤ 99) (h_ro_size : 0 ≤ Int32.toInt qF ∧ Int32.toInt qF ≤ 16) (hn37 : 256 - Int32.toInt x5 ≤ n37) : ws_X9_sweep_111 post K37 bZ bD wD gF pE qA nJ nY dQ jC eO eW dO fJ fY jD pG oF x1 x5 x6 x7 oX rJ pN rP rX rO vI qO qQ qF jJ := by
  have f8 := tp_r x6
  have f9 := tp_r x7
  have f10 := tp_r rJ
  have f11 := tp_r pN
  have f12 := tp_r rP
  exact ts_X9_sweep_121 bZ bD wD gF pE qA nJ nY dQ jC eO eW dO fJ fY jD pG oF h_tr_fruits h_tr_standings h_no_ladder h_no_today h_ru_length hpost hK37 x1 x5 x6 x7 x5 oX rJ pN rP rX rO vI qO qQ qF jJ h_x1 (by omega) h_x6 h_x7 h_x5 h_pl_wanted h_pl_near h_pl_seconds h_ro_size hn37
set_option maxHeartbeats 8000000 in
set_option maxRecDepth 200000 in
theorem ts_X9_sweep_37 {post : Int32 → Int32 → Int32 → Int32 → Int32 → (Nat → Int32) → (Nat → Int32) → (Nat → Int32) → (Nat → Int32) → (Nat → Int32) → Int32 → (Nat → Int32) → Prop} {next : Int32 → Int32 → Int32 → Int32 → Int32 → Int32 → Int32 → Int32 → Int32 → (Nat → Int32) → (Nat → Int32) → (Nat → Int32) → (Nat → Int32) → (Nat → Int32) → Int32 → (Nat → Int32) → Prop} {n37 : Int} (bZ bD : Int32) (wD gF pE qA nJ nY dQ : Nat → Int32) (jC eO eW dO fJ fY jD pG : Int32) (oF : Nat → Int32) (h_tr_fruits : 0 ≤ Int32.toInt bZ ∧ Int32.toInt bZ ≤ 16) (h_tr_standings : 0 ≤ Int32.toInt bD ∧ Int32.toInt bD ≤ 8) (h_no_ladder : -1 ≤ Int32.toInt fJ ∧ Int32.toInt fJ ≤ 7) (h_no_today : 0 ≤ Int32.toInt jD ∧ Int32.toInt jD ≤ 9) (h_ru_length : 0 ≤ Int32.toInt pG ∧ Int32.toInt pG ≤ 40) (hpost : ∀ (r : Int32) (pl_wanted' : Int32) (pl_moves' : Int32) (pl_picking' : Int32) (pl_downs' : Int32) (pl_near' : Nat → Int32) (pl_seconds' : Nat → Int32) (pl_many' : Nat → Int32) (ru_given' : Nat → Int32) (ru_stack' : Nat → Int32) (ro_size' : Int32) (ro_numbers' : Nat → Int32), (-1 ≤ Int32.toInt r ∧ Int32.toInt r ≤ 2147483647) → (0 ≤ Int32.toInt pl_wanted' ∧ Int32.toInt pl_wanted' ≤ 65535) → (∀ k : Nat, 0 ≤ Int32.toInt (pl_near' k) ∧ Int32.toInt (pl_near' k) ≤ 65535) → (∀ k : Nat, 0 ≤ Int32.toInt (pl_seconds' k) ∧ Int32.toInt (pl_seconds' k) ≤ 99) → (0 ≤ Int32.toInt ro_size' ∧ Int32.toInt ro_size' ≤ 16) → post r pl_wanted' pl_moves' pl_picking' pl_downs' pl_near' pl_seconds' pl_many' ru_given' ru_stack' ro_size' ro_numbers') (hKn : ∀ (x1 : Int32) (x2 : Int32) (x3 : Int32) (x4 : Int32) (x5 : Int32) (oX : Int32) (rJ : Int32) (pN : Int32) (rP : Int32) (rX : Nat → Int32) (rO : Nat → Int32) (vI : Nat → Int32) (qO : Nat → Int32) (qQ : Nat → Int32) (qF : Int32) (jJ : Nat → Int32), (0 ≤ Int32.toInt x1 ∧ Int32.toInt x1 ≤ 9999) → (0 ≤ Int32.toInt x2 ∧ Int32.toInt x2 ≤ 255) → (0 ≤ Int32.toInt x3 ∧ Int32.toInt x3 ≤ 2147483647) → (-2147483648 ≤ Int32.toInt x4 ∧ Int32.toInt x4 ≤ 9999) → (1 ≤ Int32.toInt x5 ∧ Int32.toInt x5 ≤ 256) → (0 ≤ Int32.toInt oX ∧ Int32.toInt oX ≤ 65535) → (∀ k : Nat, 0 ≤ Int32.toInt (rX k) ∧ Int32.toInt (rX k) ≤ 65535) → (∀ k : Nat, 0 ≤ Int32.toInt (rO k) ∧ Int32.toInt (rO k) ≤ 99) → (0 ≤ Int32.toInt qF ∧ Int32.toInt qF ≤ 16) → (256 - Int32.toInt x5 < n37) → next x1 x2 x3 x4 x5 oX rJ pN rP rX rO vI qO qQ qF jJ) (x1 x2 x3 x4 x5 oX rJ pN rP : Int32) (rX rO vI qO qQ : Nat → Int32) (qF : Int32) (jJ : Nat → Int32) (h_x1 : 0 ≤ Int32.toInt x1 ∧ Int32.toInt x1 ≤ 9999) (h_x2 : 0 ≤ Int32.toInt x2 ∧ Int32.toInt x2 ≤ 255) (h_x3 : 0 ≤ Int32.toInt x3 ∧ Int32.toInt x3 ≤ 2147483647) (h_x4 : -2147483648 ≤ Int32.toInt x4 ∧ Int32.toInt x4 ≤ 9999) (h_x5 : 1 ≤ Int32.toInt x5 ∧ Int32.toInt x5 ≤ 256) (h_pl_wanted : 0 ≤ Int32.toInt oX ∧ Int32.toInt oX ≤ 65535) (h_pl_near : ∀ k : Nat, 0 ≤ Int32.toInt (rX k) ∧ Int32.toInt (rX k) ≤ 65535) (h_pl_seconds : ∀ k : Nat, 0 ≤ Int32.toInt (rO k) ∧ Int32.toInt (rO k) ≤ 99) (h_ro_size : 0 ≤ Int32.toInt qF ∧ Int32.toInt qF ≤ 16) (hn37 : 256 - Int32.toInt x5 ≤ n37) : ws_X9_sweep_37 post next bZ bD wD gF pE qA nJ nY dQ jC eO eW dO fJ fY jD pG oF x1 x2 x3 x4 x5 oX rJ pN rP rX rO vI qO qQ qF jJ := by
  have l0 := li_0
  have l1 := li_1
  have l2 := li_16
  intro v13 ev13
  have f14 := ti_shl1 8 256 bD (by decide) (by omega)
  have hv13 := congrArg Int32.toInt ev13
  have f16 : Int32.toInt (v13 - 1) = Int32.toInt v13 - Int32.toInt (1 : Int32) := ta_sub _ _ (by omega)
  refine And.intro (fun c15 => ?_) (fun c15 => ?_)
  · skip
    have c15 := (fa_lt _ _).mp c15
    refine And.intro (fun h9 => absurd h9 (by decide)) (fun _ => ?_)
    refine And.intro (t_in (by omega)) ?_
    intro v17 ev17
    have f18 : Int32.toInt (0 + 1) = Int32.toInt (0 : Int32) + Int32.toInt (1 : Int32) := ta_add _ _ (by omega)
    rw [← ev17] at f18
    refine And.intro (fun c19 => ?_) (fun c19 => ?_)
    · skip
      have c19 := (fa_le _ _).mp c19
      exfalso; omega
    · skip
      have c19 := mt (fa_le _ _).mpr c19
      refine And.intro (t_in (by omega)) ?_
      intro v20 ev20
      have f21 : Int32.toInt (v17 + 1) = Int32.toInt v17 + Int32.toInt (1 : Int32) := ta_add _ _ (by omega)
      rw [← ev20] at f21
      have f22 := tp_r x3
      exact hpost _ _ _ _ _ _ _ _ _ _ _ _ (by omega) h_pl_wanted h_pl_near h_pl_seconds (by omega)
  · skip
    have c15 := mt (fa_lt _ _).mpr c15
    refine t_X5_reachedBy (by omega) h_pl_near h_tr_standings (fun r23 h_r23 => ?_)
    intro v24 ev24
    have f25 := ti_andr oX r23 (by omega)
    have f26 := ti_andl oX r23 (by omega)
    have hv24 := congrArg Int32.toInt ev24
    refine t_X3_worthOf h_tr_fruits (fun r27 => ?_)
    have f29 := tp_r r27
    have f30 := tp_r x3
    refine And.intro (fun c28 => ?_) (fun c28 => ?_)
    · skip
      have c28 := (fa_lt _ _).mp c28
      have f31 := tp_r x4
      have f32 := tp_r rJ
      have f33 := tp_r pN
      have f34 := tp_r rP
      exact ts_X9_sweep_121 bZ bD wD gF pE qA nJ nY dQ jC eO eW dO fJ fY jD pG oF h_tr_fruits h_tr_standings h_no_ladder h_no_today h_ru_length hpost hKn x1 x2 x3 x4 x5 oX rJ pN rP rX rO vI qO qQ qF jJ h_x1 h_x2 h_x3 h_x4 (by omega) h_pl_wanted h_pl_near h_pl_seconds h_ro_size hn37
    · skip
      have c28 := mt (fa_lt _ _).mpr c28
      refine t_X5_workSeconds (by omega) h_pl_wanted h_pl_near h_pl_seconds h_tr_fruits h_tr_standings h_no_ladder (fun r39 aGJ aDu aGK pl_many_38 => ?_)
      have f41 := tp_r r39
      refine And.intro (fun c40 => ?_) (fun c40 => ?_)
      · skip
        have c40 := (fa_lt _ _).mp c40
        have f42 := tp_r x4
        have f43 := tp_r aGJ
        have f44 := tp_r aDu
        have f45 := tp_r aGK
        exact ts_X9_sweep_121 bZ bD wD gF pE qA nJ nY dQ jC eO eW dO fJ fY jD pG oF h_tr_fruits h_tr_standings h_no_ladder h_no_today h_ru_length hpost hKn x1 x2 x3 x4 x5 oX aGJ aDu aGK rX rO pl_many_38 qO qQ qF jJ h_x1 h_x2 h_x3 h_x4 (by omega) h_pl_wanted h_pl_near h_pl_seconds h_ro_size hn37
      · skip
        have c40 := mt (fa_lt _ _).mpr c40
        refine And.intro (fun c46 => ?_) (fun c46 => ?_)
        · skip
          have c46 := (fa_lt _ _).mp c46
          have f47 := tp_r aGJ
          have f48 := tp_r aDu
          have f49 := tp_r aGK
          exact ts_X9_sweep_111 bZ bD wD gF pE qA nJ nY dQ jC eO eW dO fJ fY jD pG oF h_tr_fruits h_tr_standings h_no_ladder h_no_today h_ru_length hpost hKn x1 x5 r27 r39 oX aGJ aDu aGK rX rO pl_many_38 qO qQ qF jJ h_x1 (by omega) (by omega) (by omega) h_pl_wanted h_pl_near h_pl_seconds h_ro_size hn37
        · skip
          have c46 := mt (fa_lt _ _).mpr c46
          have f51 := tp_r x4
          refine And.intro (fun c50 => ?_) (fun c50 => ?_)
          · skip
            have c50 := (fa_le _ _).mp c50
            have f52 := tp_r aGJ
            have f53 := tp_r aDu
            have f54 := tp_r aGK
            exact ts_X9_sweep_121 bZ bD wD gF pE qA nJ nY dQ jC eO eW dO fJ fY jD pG oF h_tr_fruits h_tr_standings h_no_ladder h_no_today h_ru_length hpost hKn x1 x2 x3 x4 x5 oX aGJ aDu aGK rX rO pl_many_38 qO qQ qF jJ h_x1 h_x2 h_x3 h_x4 (by omega) h_pl_wanted h_pl_near h_pl_seconds h_ro_size hn37
          · skip
            have c50 := mt (fa_le _ _).mpr c50
            have f55 := tp_r aGJ
            have f56 := tp_r aDu
            have f57 := tp_r aGK
            exact ts_X9_sweep_111 bZ bD wD gF pE qA nJ nY dQ jC eO eW dO fJ fY jD pG oF h_tr_fruits h_tr_standings h_no_ladder h_no_today h_ru_length hpost hKn x1 x5 r27 r39 oX aGJ aDu aGK rX rO pl_many_38 qO qQ qF jJ h_x1 (by omega) (by omega) (by omega) h_pl_wanted h_pl_near h_pl_seconds h_ro_size hn37
set_option maxHeartbeats 8000000 in
set_option maxRecDepth 200000 in
theorem tb_X9_sweep_37 {post : Int32 → Int32 → Int32 → Int32 → Int32 → (Nat → Int32) → (Nat → Int32) → (Nat → Int32) → (Nat → Int32) → (Nat → Int32) → Int32 → (Nat → Int32) → Prop} (bZ bD : Int32) (wD gF pE qA nJ nY dQ : Nat → Int32) (jC eO eW dO fJ fY jD pG : Int32) (oF : Nat → Int32) (h_tr_fruits : 0 ≤ Int32.toInt bZ ∧ Int32.toInt bZ ≤ 16) (h_tr_standings : 0 ≤ Int32.toInt bD ∧ Int32.toInt bD ≤ 8) (h_no_ladder : -1 ≤ Int32.toInt fJ ∧ Int32.toInt fJ ≤ 7) (h_no_today : 0 ≤ Int32.toInt jD ∧ Int32.toInt jD ≤ 9) (h_ru_length : 0 ≤ Int32.toInt pG ∧ Int32.toInt pG ≤ 40) (hpost : ∀ (r : Int32) (pl_wanted' : Int32) (pl_moves' : Int32) (pl_picking' : Int32) (pl_downs' : Int32) (pl_near' : Nat → Int32) (pl_seconds' : Nat → Int32) (pl_many' : Nat → Int32) (ru_given' : Nat → Int32) (ru_stack' : Nat → Int32) (ro_size' : Int32) (ro_numbers' : Nat → Int32), (-1 ≤ Int32.toInt r ∧ Int32.toInt r ≤ 2147483647) → (0 ≤ Int32.toInt pl_wanted' ∧ Int32.toInt pl_wanted' ≤ 65535) → (∀ k : Nat, 0 ≤ Int32.toInt (pl_near' k) ∧ Int32.toInt (pl_near' k) ≤ 65535) → (∀ k : Nat, 0 ≤ Int32.toInt (pl_seconds' k) ∧ Int32.toInt (pl_seconds' k) ≤ 99) → (0 ≤ Int32.toInt ro_size' ∧ Int32.toInt ro_size' ≤ 16) → post r pl_wanted' pl_moves' pl_picking' pl_downs' pl_near' pl_seconds' pl_many' ru_given' ru_stack' ro_size' ro_numbers') : ∀ (n : Nat) (x1 x2 x3 x4 x5 oX rJ pN rP : Int32) (rX rO vI qO qQ : Nat → Int32) (qF : Int32) (jJ : Nat → Int32), (0 ≤ Int32.toInt x1 ∧ Int32.toInt x1 ≤ 9999) → (0 ≤ Int32.toInt x2 ∧ Int32.toInt x2 ≤ 255) → (0 ≤ Int32.toInt x3 ∧ Int32.toInt x3 ≤ 2147483647) → (-2147483648 ≤ Int32.toInt x4 ∧ Int32.toInt x4 ≤ 9999) → (1 ≤ Int32.toInt x5 ∧ Int32.toInt x5 ≤ 256) → (0 ≤ Int32.toInt oX ∧ Int32.toInt oX ≤ 65535) → (∀ k : Nat, 0 ≤ Int32.toInt (rX k) ∧ Int32.toInt (rX k) ≤ 65535) → (∀ k : Nat, 0 ≤ Int32.toInt (rO k) ∧ Int32.toInt (rO k) ≤ 99) → (0 ≤ Int32.toInt qF ∧ Int32.toInt qF ≤ 16) → (256 - Int32.toInt x5 < (n : Int)) → wb_X9_sweep_37 post bZ bD wD gF pE qA nJ nY dQ jC eO eW dO fJ fY jD pG oF n x1 x2 x3 x4 x5 oX rJ pN rP rX rO vI qO qQ qF jJ := by
  intro n
  induction n with
  | zero =>
    intro x1 x2 x3 x4 x5 oX rJ pN rP rX rO vI qO qQ qF jJ h_x1 h_x2 h_x3 h_x4 h_x5 h_pl_wanted h_pl_near h_pl_seconds h_ro_size hm
    exfalso; omega
  | succ n ih =>
    intro x1 x2 x3 x4 x5 oX rJ pN rP rX rO vI qO qQ qF jJ h_x1 h_x2 h_x3 h_x4 h_x5 h_pl_wanted h_pl_near h_pl_seconds h_ro_size hm
    exact ts_X9_sweep_37 bZ bD wD gF pE qA nJ nY dQ jC eO eW dO fJ fY jD pG oF h_tr_fruits h_tr_standings h_no_ladder h_no_today h_ru_length hpost ih x1 x2 x3 x4 x5 oX rJ pN rP rX rO vI qO qQ qF jJ h_x1 h_x2 h_x3 h_x4 h_x5 h_pl_wanted h_pl_near h_pl_seconds h_ro_size (by omega)
set_option maxHeartbeats 8000000 in
set_option maxRecDepth 200000 in
theorem t_X9_sweep {post : Int32 → Int32 → Int32 → Int32 → Int32 → (Nat → Int32) → (Nat → Int32) → (Nat → Int32) → (Nat → Int32) → (Nat → Int32) → Int32 → (Nat → Int32) → Prop} {p0 oX rJ pN rP : Int32} {rX rO vI : Nat → Int32} {bZ bD : Int32} {wD gF pE qA nJ nY dQ : Nat → Int32} {jC eO eW dO fJ fY jD pG : Int32} {qO qQ oF : Nat → Int32} {qF : Int32} {jJ : Nat → Int32} (h_pl_wanted : 0 ≤ Int32.toInt oX ∧ Int32.toInt oX ≤ 65535) (h_pl_near : ∀ k : Nat, 0 ≤ Int32.toInt (rX k) ∧ Int32.toInt (rX k) ≤ 65535) (h_pl_seconds : ∀ k : Nat, 0 ≤ Int32.toInt (rO k) ∧ Int32.toInt (rO k) ≤ 99) (h_tr_fruits : 0 ≤ Int32.toInt bZ ∧ Int32.toInt bZ ≤ 16) (h_tr_standings : 0 ≤ Int32.toInt bD ∧ Int32.toInt bD ≤ 8) (h_no_ladder : -1 ≤ Int32.toInt fJ ∧ Int32.toInt fJ ≤ 7) (h_no_today : 0 ≤ Int32.toInt jD ∧ Int32.toInt jD ≤ 9) (h_ru_length : 0 ≤ Int32.toInt pG ∧ Int32.toInt pG ≤ 40) (h_ro_size : 0 ≤ Int32.toInt qF ∧ Int32.toInt qF ≤ 16) (hpost : ∀ (r : Int32) (pl_wanted' : Int32) (pl_moves' : Int32) (pl_picking' : Int32) (pl_downs' : Int32) (pl_near' : Nat → Int32) (pl_seconds' : Nat → Int32) (pl_many' : Nat → Int32) (ru_given' : Nat → Int32) (ru_stack' : Nat → Int32) (ro_size' : Int32) (ro_numbers' : Nat → Int32), (-1 ≤ Int32.toInt r ∧ Int32.toInt r ≤ 2147483647) → (0 ≤ Int32.toInt pl_wanted' ∧ Int32.toInt pl_wanted' ≤ 65535) → (∀ k : Nat, 0 ≤ Int32.toInt (pl_near' k) ∧ Int32.toInt (pl_near' k) ≤ 65535) → (∀ k : Nat, 0 ≤ Int32.toInt (pl_seconds' k) ∧ Int32.toInt (pl_seconds' k) ≤ 99) → (0 ≤ Int32.toInt ro_size' ∧ Int32.toInt ro_size' ≤ 16) → post r pl_wanted' pl_moves' pl_picking' pl_downs' pl_near' pl_seconds' pl_many' ru_given' ru_stack' ro_size' ro_numbers') : wp_X9_sweep post p0 oX rJ pN rP rX rO vI bZ bD wD gF pE qA nJ nY dQ jC eO eW dO fJ fY jD pG qO qQ oF qF jJ := by
  have l0 := li_m1
  have l1 := li_0
  have l2 := li_1
  have l3 := li_9999
  have f59 := tp_r p0
  refine And.intro (fun c58 => ?_) (fun c58 => ?_)
  · skip
    have c58 := (fa_lt _ _).mp c58
    exact hpost _ _ _ _ _ _ _ _ _ _ _ _ (by omega) h_pl_wanted h_pl_near h_pl_seconds h_ro_size
  · skip
    have c58 := mt (fa_lt _ _).mpr c58
    refine And.intro (fun c60 => ?_) (fun c60 => ?_)
    · skip
      have c60 := (fa_le _ _).mp c60
      refine t_X5_lookAs h_no_today h_pl_wanted h_pl_near h_tr_fruits h_tr_standings (fun pl_wanted_61 pl_near_62 h_pl_wanted_61 h_pl_near_62 => ?_)
      refine t_X5_timeAll h_pl_wanted_61 h_pl_near_62 h_pl_seconds h_tr_fruits h_tr_standings h_ru_length (fun pl_seconds_63 ru_given_64 ru_stack_65 h_pl_seconds_63 => ?_)
      have f66 := tp_r rJ
      have f67 := tp_r pN
      have f68 := tp_r rP
      exact ⟨257, tb_X9_sweep_37 bZ bD wD gF pE qA nJ nY dQ jC eO eW dO fJ fY jD pG oF h_tr_fruits h_tr_standings h_no_ladder h_no_today h_ru_length hpost _ p0 0 0 0 1 pl_wanted_61 rJ pN rP pl_near_62 pl_seconds_63 vI ru_given_64 ru_stack_65 qF jJ (by omega) (by omega) (by omega) (by omega) (by omega) h_pl_wanted_61 h_pl_near_62 h_pl_seconds_63 h_ro_size (by omega)⟩
    · skip
      have c60 := mt (fa_le _ _).mpr c60
      exact hpost _ _ _ _ _ _ _ _ _ _ _ _ (by omega) h_pl_wanted h_pl_near h_pl_seconds h_ro_size
set_option maxHeartbeats 8000000 in
set_option maxRecDepth 200000 in
theorem ts_X5_addToDusk_52 {post : (Nat → Int32) → Prop} {K3 : Int32 → Int32 → Int32 → (Nat → Int32) → Prop} {n3 : Int} (hpost : ∀ (pl_best' : Nat → Int32), post pl_best') (hK3 : ∀ (x2 : Int32) (x3 : Int32) (x4 : Int32) (vK : Nat → Int32), (1 ≤ Int32.toInt x2 ∧ Int32.toInt x2 ≤ 99) → (0 ≤ Int32.toInt x4 ∧ Int32.toInt x4 ≤ 300) → (Int32.toInt x4 - 0 < n3) → K3 x2 x3 x4 vK) (x2 x3 x4 : Int32) (vK : Nat → Int32) (h_x2 : 1 ≤ Int32.toInt x2 ∧ Int32.toInt x2 ≤ 99) (h_x4 : 1 ≤ Int32.toInt x4 ∧ Int32.toInt x4 ≤ 300) (hn3 : Int32.toInt x4 - 0 ≤ n3) : ws_X5_addToDusk_52 post K3 x2 x3 x4 vK := by
  have l0 := li_m1
  intro v1 ev1
  have f2 : Int32.toInt (x4 + (-1)) = Int32.toInt x4 + Int32.toInt ((-1) : Int32) := ta_add _ _ (by omega)
  rw [← ev1] at f2
  have f3 := tp_r x3
  exact hK3 x2 x3 v1 vK h_x2 (by omega) (by omega)
set_option maxHeartbeats 8000000 in
set_option maxRecDepth 200000 in
theorem ts_X5_addToDusk_3 {post : (Nat → Int32) → Prop} {next : Int32 → Int32 → Int32 → (Nat → Int32) → Prop} {n3 : Int} (hpost : ∀ (pl_best' : Nat → Int32), post pl_best') (hKn : ∀ (x2 : Int32) (x3 : Int32) (x4 : Int32) (vK : Nat → Int32), (1 ≤ Int32.toInt x2 ∧ Int32.toInt x2 ≤ 99) → (0 ≤ Int32.toInt x4 ∧ Int32.toInt x4 ≤ 300) → (Int32.toInt x4 - 0 < n3) → next x2 x3 x4 vK) (x2 x3 x4 : Int32) (vK : Nat → Int32) (h_x2 : 1 ≤ Int32.toInt x2 ∧ Int32.toInt x2 ≤ 99) (h_x4 : 0 ≤ Int32.toInt x4 ∧ Int32.toInt x4 ≤ 300) (hn3 : Int32.toInt x4 - 0 ≤ n3) : ws_X5_addToDusk_3 post next x2 x3 x4 vK := by
  have l0 := li_m2147483648
  refine And.intro (fun c4 => ?_) (fun c4 => ?_)
  · skip
    have c4 := (fa_lt _ _).mp c4
    exact hpost _ 
  · skip
    have c4 := mt (fa_lt _ _).mpr c4
    intro v5 ev5
    have f6 : Int32.toInt (x4 - x2) = Int32.toInt x4 - Int32.toInt x2 := ta_sub _ _ (by omega)
    rw [← ev5] at f6
    refine And.intro (t_in (by omega)) ?_
    intro v7 ev7
    have hv7 := congrArg Int32.toInt ev7
    have f10 := tp_r v7
    refine And.intro (fun c9 => ?_) (fun c9 => ?_)
    · skip
      have c9 := (fa_eq _ _).mp c9
      have f11 := tp_r x3
      exact ts_X5_addToDusk_52 hpost hKn x2 x3 x4 vK h_x2 (by omega) hn3
    · skip
      have c9 := mt (fa_eq _ _).mpr c9
      intro v12 ev12
      have hv12 := congrArg Int32.toInt ev12
      refine And.intro (t_in (by omega)) ?_
      have f15 := tp_r v12
      refine And.intro (fun c14 => ?_) (fun c14 => ?_)
      · skip
        have c14 := (fa_le _ _).mp c14
        have f17 := tp_r x3
        exact ts_X5_addToDusk_52 hpost hKn x2 x3 x4 vK h_x2 (by omega) hn3
      · skip
        have c14 := mt (fa_le _ _).mpr c14
        intro v18 ev18
        have hv18 := congrArg Int32.toInt ev18
        refine And.intro (t_in (by omega)) ?_
        have f19 := tp_r x3
        exact ts_X5_addToDusk_52 hpost hKn x2 x3 x4 (upd vK x4.toNatClampNeg v18) h_x2 (by omega) hn3
set_option maxHeartbeats 8000000 in
set_option maxRecDepth 200000 in
theorem tb_X5_addToDusk_3 {post : (Nat → Int32) → Prop} (hpost : ∀ (pl_best' : Nat → Int32), post pl_best') : ∀ (n : Nat) (x2 x3 x4 : Int32) (vK : Nat → Int32), (1 ≤ Int32.toInt x2 ∧ Int32.toInt x2 ≤ 99) → (0 ≤ Int32.toInt x4 ∧ Int32.toInt x4 ≤ 300) → (Int32.toInt x4 - 0 < (n : Int)) → wb_X5_addToDusk_3 post n x2 x3 x4 vK := by
  intro n
  induction n with
  | zero =>
    intro x2 x3 x4 vK h_x2 h_x4 hm
    exfalso; omega
  | succ n ih =>
    intro x2 x3 x4 vK h_x2 h_x4 hm
    exact ts_X5_addToDusk_3 hpost ih x2 x3 x4 vK h_x2 h_x4 (by omega)
set_option maxHeartbeats 8000000 in
set_option maxRecDepth 200000 in
theorem t_X5_addToDusk {post : (Nat → Int32) → Prop} {p0 p1 p2 : Int32} {vK : Nat → Int32} (h_p0 : 0 ≤ Int32.toInt p0 ∧ Int32.toInt p0 ≤ 300) (h_p1 : 1 ≤ Int32.toInt p1 ∧ Int32.toInt p1 ≤ 99) (hpost : ∀ (pl_best' : Nat → Int32), post pl_best') : wp_X5_addToDusk post p0 p1 p2 vK := by
  have f20 := tp_r p2
  exact ⟨302, tb_X5_addToDusk_3 hpost _ p1 p2 p0 vK h_p1 h_p0 (by omega)⟩
set_option maxHeartbeats 8000000 in
set_option maxRecDepth 200000 in
theorem ts_X5_fillDusk_123 {post : (Nat → Int32) → (Nat → Int32) → (Nat → Int32) → Prop} {K47 : Int32 → Int32 → Int32 → (Nat → Int32) → (Nat → Int32) → (Nat → Int32) → Prop} {n47 : Int} (bZ : Int32) (wD gF pE qA nJ nY dQ : Nat → Int32) (jC eO eW dO fJ fY jD pG : Int32) (oF : Nat → Int32) (h_tr_fruits : 0 ≤ Int32.toInt bZ ∧ Int32.toInt bZ ≤ 16) (h_no_ladder : 0 ≤ Int32.toInt fJ ∧ Int32.toInt fJ ≤ 7) (h_no_today : 0 ≤ Int32.toInt jD ∧ Int32.toInt jD ≤ 9) (h_ru_length : 0 ≤ Int32.toInt pG ∧ Int32.toInt pG ≤ 40) (hpost : ∀ (pl_best' : Nat → Int32) (ru_given' : Nat → Int32) (ru_stack' : Nat → Int32), post pl_best' ru_given' ru_stack') (hK47 : ∀ (x2 : Int32) (x3 : Int32) (x4 : Int32) (vK : Nat → Int32) (qO : Nat → Int32) (qQ : Nat → Int32), (0 ≤ Int32.toInt x2 ∧ Int32.toInt x2 ≤ 300) → (0 ≤ Int32.toInt x3 ∧ Int32.toInt x3 ≤ 65535) → (0 ≤ Int32.toInt x4 ∧ Int32.toInt x4 ≤ 16) → (16 - Int32.toInt x4 < n47) → K47 x2 x3 x4 vK qO qQ) (x2 x3 x4 : Int32) (vK qO qQ : Nat → Int32) (h_x2 : 0 ≤ Int32.toInt x2 ∧ Int32.toInt x2 ≤ 300) (h_x3 : 0 ≤ Int32.toInt x3 ∧ Int32.toInt x3 ≤ 65535) (h_x4 : 0 ≤ Int32.toInt x4 ∧ Int32.toInt x4 ≤ 15) (hn47 : 16 - Int32.toInt x4 ≤ n47) : ws_X5_fillDusk_123 post K47 bZ wD gF pE qA nJ nY dQ jC eO eW dO fJ fY jD pG oF x2 x3 x4 vK qO qQ := by
  have l0 := li_1
  intro v1 ev1
  have f2 : Int32.toInt (x4 + 1) = Int32.toInt x4 + Int32.toInt (1 : Int32) := ta_add _ _ (by omega)
  rw [← ev1] at f2
  exact hK47 x2 x3 v1 vK qO qQ h_x2 h_x3 (by omega) (by omega)
set_option maxHeartbeats 8000000 in
set_option maxRecDepth 200000 in
theorem ts_X5_fillDusk_47 {post : (Nat → Int32) → (Nat → Int32) → (Nat → Int32) → Prop} {next : Int32 → Int32 → Int32 → (Nat → Int32) → (Nat → Int32) → (Nat → Int32) → Prop} {n47 : Int} (bZ : Int32) (wD gF pE qA nJ nY dQ : Nat → Int32) (jC eO eW dO fJ fY jD pG : Int32) (oF : Nat → Int32) (h_tr_fruits : 0 ≤ Int32.toInt bZ ∧ Int32.toInt bZ ≤ 16) (h_no_ladder : 0 ≤ Int32.toInt fJ ∧ Int32.toInt fJ ≤ 7) (h_no_today : 0 ≤ Int32.toInt jD ∧ Int32.toInt jD ≤ 9) (h_ru_length : 0 ≤ Int32.toInt pG ∧ Int32.toInt pG ≤ 40) (hpost : ∀ (pl_best' : Nat → Int32) (ru_given' : Nat → Int32) (ru_stack' : Nat → Int32), post pl_best' ru_given' ru_stack') (hKn : ∀ (x2 : Int32) (x3 : Int32) (x4 : Int32) (vK : Nat → Int32) (qO : Nat → Int32) (qQ : Nat → Int32), (0 ≤ Int32.toInt x2 ∧ Int32.toInt x2 ≤ 300) → (0 ≤ Int32.toInt x3 ∧ Int32.toInt x3 ≤ 65535) → (0 ≤ Int32.toInt x4 ∧ Int32.toInt x4 ≤ 16) → (16 - Int32.toInt x4 < n47) → next x2 x3 x4 vK qO qQ) (x2 x3 x4 : Int32) (vK qO qQ : Nat → Int32) (h_x2 : 0 ≤ Int32.toInt x2 ∧ Int32.toInt x2 ≤ 300) (h_x3 : 0 ≤ Int32.toInt x3 ∧ Int32.toInt x3 ≤ 65535) (h_x4 : 0 ≤ Int32.toInt x4 ∧ Int32.toInt x4 ≤ 16) (hn47 : 16 - Int32.toInt x4 ≤ n47) : ws_X5_fillDusk_47 post next bZ wD gF pE qA nJ nY dQ jC eO eW dO fJ fY jD pG oF x2 x3 x4 vK qO qQ := by
  have l0 := li_0
  have l1 := li_1
  refine And.intro (fun c3 => ?_) (fun c3 => ?_)
  · skip
    have c3 := (fa_le _ _).mp c3
    exact hpost _ _ _ 
  · skip
    have c3 := mt (fa_le _ _).mpr c3
    intro v4 ev4
    have f5 := ti_shr x3 x4 (by omega)
    have hv4 := congrArg Int32.toInt ev4
    have f7 := ti_andr v4 1 (by omega)
    have f8 := ti_andl v4 1 (by omega)
    refine And.intro (fun c6 => ?_) (fun c6 => ?_)
    · skip
      have c6 := (fa_eq _ _).mp c6
      exact ts_X5_fillDusk_123 bZ wD gF pE qA nJ nY dQ jC eO eW dO fJ fY jD pG oF h_tr_fruits h_no_ladder h_no_today h_ru_length hpost hKn x2 x3 x4 vK qO qQ h_x2 h_x3 (by omega) hn47
    · skip
      have c6 := mt (fa_eq _ _).mpr c6
      intro v9 ev9
      have f10 := ti_shl1 15 32768 x4 (by decide) (by omega)
      have hv9 := congrArg Int32.toInt ev9
      refine t_X0_pickSeconds (by omega) h_no_ladder (by omega) h_tr_fruits h_ru_length (fun r13 ru_given_11 ru_stack_12 h_r13 => ?_)
      intro v14 ev14
      have f15 := ti_max (1 : Int32) r13
      have hv14 := congrArg Int32.toInt ev14
      refine t_X3_worthOf h_tr_fruits (fun r16 => ?_)
      intro v17 ev17
      intro v18 ev18
      have hv18 := congrArg Int32.toInt ev18
      refine t_X5_addToDusk h_x2 (by omega) (fun pl_best_20 => ?_)
      exact ts_X5_fillDusk_123 bZ wD gF pE qA nJ nY dQ jC eO eW dO fJ fY jD pG oF h_tr_fruits h_no_ladder h_no_today h_ru_length hpost hKn x2 x3 x4 pl_best_20 ru_given_11 ru_stack_12 h_x2 h_x3 (by omega) hn47
set_option maxHeartbeats 8000000 in
set_option maxRecDepth 200000 in
theorem tb_X5_fillDusk_47 {post : (Nat → Int32) → (Nat → Int32) → (Nat → Int32) → Prop} (bZ : Int32) (wD gF pE qA nJ nY dQ : Nat → Int32) (jC eO eW dO fJ fY jD pG : Int32) (oF : Nat → Int32) (h_tr_fruits : 0 ≤ Int32.toInt bZ ∧ Int32.toInt bZ ≤ 16) (h_no_ladder : 0 ≤ Int32.toInt fJ ∧ Int32.toInt fJ ≤ 7) (h_no_today : 0 ≤ Int32.toInt jD ∧ Int32.toInt jD ≤ 9) (h_ru_length : 0 ≤ Int32.toInt pG ∧ Int32.toInt pG ≤ 40) (hpost : ∀ (pl_best' : Nat → Int32) (ru_given' : Nat → Int32) (ru_stack' : Nat → Int32), post pl_best' ru_given' ru_stack') : ∀ (n : Nat) (x2 x3 x4 : Int32) (vK qO qQ : Nat → Int32), (0 ≤ Int32.toInt x2 ∧ Int32.toInt x2 ≤ 300) → (0 ≤ Int32.toInt x3 ∧ Int32.toInt x3 ≤ 65535) → (0 ≤ Int32.toInt x4 ∧ Int32.toInt x4 ≤ 16) → (16 - Int32.toInt x4 < (n : Int)) → wb_X5_fillDusk_47 post bZ wD gF pE qA nJ nY dQ jC eO eW dO fJ fY jD pG oF n x2 x3 x4 vK qO qQ := by
  intro n
  induction n with
  | zero =>
    intro x2 x3 x4 vK qO qQ h_x2 h_x3 h_x4 hm
    exfalso; omega
  | succ n ih =>
    intro x2 x3 x4 vK qO qQ h_x2 h_x3 h_x4 hm
    exact ts_X5_fillDusk_47 bZ wD gF pE qA nJ nY dQ jC eO eW dO fJ fY jD pG oF h_tr_fruits h_no_ladder h_no_today h_ru_length hpost ih x2 x3 x4 vK qO qQ h_x2 h_x3 h_x4 (by omega)
set_option maxHeartbeats 8000000 in
set_option maxRecDepth 200000 in
theorem ts_X5_fillDusk_17 {post : (Nat → Int32) → (Nat → Int32) → (Nat → Int32) → Prop} {next : Int32 → Int32 → (Nat → Int32) → (Nat → Int32) → (Nat → Int32) → Prop} {n17 : Int} (bZ : Int32) (wD gF pE qA nJ nY dQ : Nat → Int32) (jC eO eW dO fJ fY jD pG : Int32) (oF : Nat → Int32) (h_tr_fruits : 0 ≤ Int32.toInt bZ ∧ Int32.toInt bZ ≤ 16) (h_no_ladder : 0 ≤ Int32.toInt fJ ∧ Int32.toInt fJ ≤ 7) (h_no_today : 0 ≤ Int32.toInt jD ∧ Int32.toInt jD ≤ 9) (h_ru_length : 0 ≤ Int32.toInt pG ∧ Int32.toInt pG ≤ 40) (hpost : ∀ (pl_best' : Nat → Int32) (ru_given' : Nat → Int32) (ru_stack' : Nat → Int32), post pl_best' ru_given' ru_stack') (hKn : ∀ (x2 : Int32) (x3 : Int32) (vK : Nat → Int32) (qO : Nat → Int32) (qQ : Nat → Int32), (0 ≤ Int32.toInt x2 ∧ Int32.toInt x2 ≤ 300) → (1 ≤ Int32.toInt x3 ∧ Int32.toInt x3 ≤ 301) → (301 - Int32.toInt x3 < n17) → next x2 x3 vK qO qQ) (x2 x3 : Int32) (vK qO qQ : Nat → Int32) (h_x2 : 0 ≤ Int32.toInt x2 ∧ Int32.toInt x2 ≤ 300) (h_x3 : 1 ≤ Int32.toInt x3 ∧ Int32.toInt x3 ≤ 301) (hn17 : 301 - Int32.toInt x3 ≤ n17) : ws_X5_fillDusk_17 post next bZ wD gF pE qA nJ nY dQ jC eO eW dO fJ fY jD pG oF x2 x3 vK qO qQ := by
  have l0 := li_m1
  have l1 := li_0
  have l2 := li_1
  have l3 := li_2
  refine And.intro (fun c21 => ?_) (fun c21 => ?_)
  · skip
    have c21 := (fa_lt _ _).mp c21
    refine And.intro (fun c22 => ?_) (fun c22 => ?_)
    · skip
      have c22 := mt (fa_eq _ _).mpr c22
      intro v23 ev23
      have hv23 := congrArg Int32.toInt ev23
      intro v25 ev25
      have hv25 := congrArg Int32.toInt ev25
      refine t_X3_within h_no_ladder h_tr_fruits (fun r27 h_r27 => ?_)
      intro v28 ev28
      have f29 := ti_shl1 16 65536 bZ (by decide) (by omega)
      have hv28 := congrArg Int32.toInt ev28
      intro v30 ev30
      intro v31 ev31
      refine t_X3_ripeBy h_no_today h_tr_fruits (fun r32 h_r32 => ?_)
      intro v33 ev33
      have f34 := ti_andr ((v28 - 1) &&& (v31 ^^^ (-1))) r32 (by omega)
      have f36 : Int32.toInt (v28 - 1) = Int32.toInt v28 - Int32.toInt (1 : Int32) := ta_sub _ _ (by omega)
      have f37 := ti_andl (v28 - 1) (v31 ^^^ (-1)) (by omega)
      have f38 := ti_andl ((v28 - 1) &&& (v31 ^^^ (-1))) r32 (by omega)
      have hv33 := congrArg Int32.toInt ev33
      have f39 := ti_andr v33 r27 (by omega)
      have f40 := ti_andl v33 r27 (by omega)
      exact ⟨18, tb_X5_fillDusk_47 bZ wD gF pE qA nJ nY dQ jC eO eW dO fJ fY jD pG oF h_tr_fruits h_no_ladder h_no_today h_ru_length hpost _ x2 (v33 &&& r27) 0 vK qO qQ h_x2 (by omega) (by omega) (by omega)⟩
    · skip
      have c22 := (fa_eq _ _).mp c22
      exfalso; omega
  · skip
    have c21 := mt (fa_lt _ _).mpr c21
    refine And.intro (t_in (by omega)) ?_
    intro v41 ev41
    have f42 : Int32.toInt (x3 + 1) = Int32.toInt x3 + Int32.toInt (1 : Int32) := ta_add _ _ (by omega)
    rw [← ev41] at f42
    exact hKn x2 v41 (upd vK x3.toNatClampNeg (-2147483648)) qO qQ h_x2 (by omega) (by omega)
set_option maxHeartbeats 8000000 in
set_option maxRecDepth 200000 in
theorem tb_X5_fillDusk_17 {post : (Nat → Int32) → (Nat → Int32) → (Nat → Int32) → Prop} (bZ : Int32) (wD gF pE qA nJ nY dQ : Nat → Int32) (jC eO eW dO fJ fY jD pG : Int32) (oF : Nat → Int32) (h_tr_fruits : 0 ≤ Int32.toInt bZ ∧ Int32.toInt bZ ≤ 16) (h_no_ladder : 0 ≤ Int32.toInt fJ ∧ Int32.toInt fJ ≤ 7) (h_no_today : 0 ≤ Int32.toInt jD ∧ Int32.toInt jD ≤ 9) (h_ru_length : 0 ≤ Int32.toInt pG ∧ Int32.toInt pG ≤ 40) (hpost : ∀ (pl_best' : Nat → Int32) (ru_given' : Nat → Int32) (ru_stack' : Nat → Int32), post pl_best' ru_given' ru_stack') : ∀ (n : Nat) (x2 x3 : Int32) (vK qO qQ : Nat → Int32), (0 ≤ Int32.toInt x2 ∧ Int32.toInt x2 ≤ 300) → (1 ≤ Int32.toInt x3 ∧ Int32.toInt x3 ≤ 301) → (301 - Int32.toInt x3 < (n : Int)) → wb_X5_fillDusk_17 post bZ wD gF pE qA nJ nY dQ jC eO eW dO fJ fY jD pG oF n x2 x3 vK qO qQ := by
  intro n
  induction n with
  | zero =>
    intro x2 x3 vK qO qQ h_x2 h_x3 hm
    exfalso; omega
  | succ n ih =>
    intro x2 x3 vK qO qQ h_x2 h_x3 hm
    exact ts_X5_fillDusk_17 bZ wD gF pE qA nJ nY dQ jC eO eW dO fJ fY jD pG oF h_tr_fruits h_no_ladder h_no_today h_ru_length hpost ih x2 x3 vK qO qQ h_x2 h_x3 (by omega)
set_option maxHeartbeats 8000000 in
set_option maxRecDepth 200000 in
theorem t_X5_fillDusk {post : (Nat → Int32) → (Nat → Int32) → (Nat → Int32) → Prop} {p0 : Int32} {vK : Nat → Int32} {bZ : Int32} {wD gF pE qA nJ nY dQ : Nat → Int32} {jC eO eW dO fJ fY jD pG : Int32} {qO qQ oF : Nat → Int32} (h_p0 : 0 ≤ Int32.toInt p0 ∧ Int32.toInt p0 ≤ 300) (h_tr_fruits : 0 ≤ Int32.toInt bZ ∧ Int32.toInt bZ ≤ 16) (h_no_ladder : 0 ≤ Int32.toInt fJ ∧ Int32.toInt fJ ≤ 7) (h_no_today : 0 ≤ Int32.toInt jD ∧ Int32.toInt jD ≤ 9) (h_ru_length : 0 ≤ Int32.toInt pG ∧ Int32.toInt pG ≤ 40) (hpost : ∀ (pl_best' : Nat → Int32) (ru_given' : Nat → Int32) (ru_stack' : Nat → Int32), post pl_best' ru_given' ru_stack') : wp_X5_fillDusk post p0 vK bZ wD gF pE qA nJ nY dQ jC eO eW dO fJ fY jD pG qO qQ oF := by
  have l0 := li_0
  have l1 := li_1
  have l2 := li_300
  intro v43 ev43
  have f44 := ti_min p0 (300 : Int32)
  have hv43 := congrArg Int32.toInt ev43
  exact ⟨302, tb_X5_fillDusk_17 bZ wD gF pE qA nJ nY dQ jC eO eW dO fJ fY jD pG oF h_tr_fruits h_no_ladder h_no_today h_ru_length hpost _ v43 1 (upd vK (0 : Int32).toNatClampNeg 0) qO qQ (by omega) (by omega) (by omega)⟩
set_option maxHeartbeats 8000000 in
set_option maxRecDepth 200000 in
theorem ts_X9_dusk_85 {post : Int32 → (Nat → Int32) → (Nat → Int32) → (Nat → Int32) → Int32 → (Nat → Int32) → Prop} {K45 : Int32 → Int32 → Int32 → Int32 → Int32 → (Nat → Int32) → (Nat → Int32) → (Nat → Int32) → Int32 → (Nat → Int32) → Prop} {n45 : Int} (bZ : Int32) (wD gF pE qA nJ nY dQ : Nat → Int32) (jC eO eW dO fJ fY jD pG : Int32) (oF : Nat → Int32) (h_tr_fruits : 0 ≤ Int32.toInt bZ ∧ Int32.toInt bZ ≤ 16) (h_no_ladder : -1 ≤ Int32.toInt fJ ∧ Int32.toInt fJ ≤ 7) (h_no_today : 0 ≤ Int32.toInt jD ∧ Int32.toInt jD ≤ 9) (h_ru_length : 0 ≤ Int32.toInt pG ∧ Int32.toInt pG ≤ 40) (hpost : ∀ (r : Int32) (pl_best' : Nat → Int32) (ru_given' : Nat → Int32) (ru_stack' : Nat → Int32) (ro_size' : Int32) (ro_numbers' : Nat → Int32), (-2 ≤ Int32.toInt r ∧ Int32.toInt r ≤ 2147483647) → (0 ≤ Int32.toInt ro_size' ∧ Int32.toInt ro_size' ≤ 16) → post r pl_best' ru_given' ru_stack' ro_size' ro_numbers') (hK45 : ∀ (x1 : Int32) (x2 : Int32) (x3 : Int32) (x4 : Int32) (x5 : Int32) (vK : Nat → Int32) (qO : Nat → Int32) (qQ : Nat → Int32) (qF : Int32) (jJ : Nat → Int32), (0 ≤ Int32.toInt x1 ∧ Int32.toInt x1 ≤ 300) → (0 ≤ Int32.toInt x2 ∧ Int32.toInt x2 ≤ 2147483647) → (0 ≤ Int32.toInt x3 ∧ Int32.toInt x3 ≤ 65535) → (0 ≤ Int32.toInt x4 ∧ Int32.toInt x4 ≤ 300) → (1 ≤ Int32.toInt x5 ∧ Int32.toInt x5 ≤ 301) → (0 ≤ Int32.toInt qF ∧ Int32.toInt qF ≤ 16) → (301 - Int32.toInt x5 < n45) → K45 x1 x2 x3 x4 x5 vK qO qQ qF jJ) (x1 x2 x3 x4 x5 : Int32) (vK qO qQ : Nat → Int32) (qF : Int32) (jJ : Nat → Int32) (h_x1 : 1 ≤ Int32.toInt x1 ∧ Int32.toInt x1 ≤ 300) (h_x2 : 0 ≤ Int32.toInt x2 ∧ Int32.toInt x2 ≤ 2147483647) (h_x3 : 0 ≤ Int32.toInt x3 ∧ Int32.toInt x3 ≤ 65535) (h_x4 : 0 ≤ Int32.toInt x4 ∧ Int32.toInt x4 ≤ 300) (h_x5 : 1 ≤ Int32.toInt x5 ∧ Int32.toInt x5 ≤ 300) (h_ro_size : 0 ≤ Int32.toInt qF ∧ Int32.toInt qF ≤ 16) (hn45 : 301 - Int32.toInt x5 ≤ n45) : ws_X9_dusk_85 post K45 bZ wD gF pE qA nJ nY dQ jC eO eW dO fJ fY jD pG oF x1 x2 x3 x4 x5 vK qO qQ qF jJ := by
  have l0 := li_1
  intro v1 ev1
  have f2 : Int32.toInt (x5 + 1) = Int32.toInt x5 + Int32.toInt (1 : Int32) := ta_add _ _ (by omega)
  rw [← ev1] at f2
  have f3 := tp_r x2
  exact hK45 x1 x2 x3 x4 v1 vK qO qQ qF jJ (by omega) h_x2 h_x3 h_x4 (by omega) h_ro_size (by omega)
set_option maxHeartbeats 8000000 in
set_option maxRecDepth 200000 in
theorem ts_X9_dusk_45 {post : Int32 → (Nat → Int32) → (Nat → Int32) → (Nat → Int32) → Int32 → (Nat → Int32) → Prop} {next : Int32 → Int32 → Int32 → Int32 → Int32 → (Nat → Int32) → (Nat → Int32) → (Nat → Int32) → Int32 → (Nat → Int32) → Prop} {n45 : Int} (bZ : Int32) (wD gF pE qA nJ nY dQ : Nat → Int32) (jC eO eW dO fJ fY jD pG : Int32) (oF : Nat → Int32) (h_tr_fruits : 0 ≤ Int32.toInt bZ ∧ Int32.toInt bZ ≤ 16) (h_no_ladder : -1 ≤ Int32.toInt fJ ∧ Int32.toInt fJ ≤ 7) (h_no_today : 0 ≤ Int32.toInt jD ∧ Int32.toInt jD ≤ 9) (h_ru_length : 0 ≤ Int32.toInt pG ∧ Int32.toInt pG ≤ 40) (hpost : ∀ (r : Int32) (pl_best' : Nat → Int32) (ru_given' : Nat → Int32) (ru_stack' : Nat → Int32) (ro_size' : Int32) (ro_numbers' : Nat → Int32), (-2 ≤ Int32.toInt r ∧ Int32.toInt r ≤ 2147483647) → (0 ≤ Int32.toInt ro_size' ∧ Int32.toInt ro_size' ≤ 16) → post r pl_best' ru_given' ru_stack' ro_size' ro_numbers') (hKn : ∀ (x1 : Int32) (x2 : Int32) (x3 : Int32) (x4 : Int32) (x5 : Int32) (vK : Nat → Int32) (qO : Nat → Int32) (qQ : Nat → Int32) (qF : Int32) (jJ : Nat → Int32), (0 ≤ Int32.toInt x1 ∧ Int32.toInt x1 ≤ 300) → (0 ≤ Int32.toInt x2 ∧ Int32.toInt x2 ≤ 2147483647) → (0 ≤ Int32.toInt x3 ∧ Int32.toInt x3 ≤ 65535) → (0 ≤ Int32.toInt x4 ∧ Int32.toInt x4 ≤ 300) → (1 ≤ Int32.toInt x5 ∧ Int32.toInt x5 ≤ 301) → (0 ≤ Int32.toInt qF ∧ Int32.toInt qF ≤ 16) → (301 - Int32.toInt x5 < n45) → next x1 x2 x3 x4 x5 vK qO qQ qF jJ) (x1 x2 x3 x4 x5 : Int32) (vK qO qQ : Nat → Int32) (qF : Int32) (jJ : Nat → Int32) (h_x1 : 0 ≤ Int32.toInt x1 ∧ Int32.toInt x1 ≤ 300) (h_x2 : 0 ≤ Int32.toInt x2 ∧ Int32.toInt x2 ≤ 2147483647) (h_x3 : 0 ≤ Int32.toInt x3 ∧ Int32.toInt x3 ≤ 65535) (h_x4 : 0 ≤ Int32.toInt x4 ∧ Int32.toInt x4 ≤ 300) (h_x5 : 1 ≤ Int32.toInt x5 ∧ Int32.toInt x5 ≤ 301) (h_ro_size : 0 ≤ Int32.toInt qF ∧ Int32.toInt qF ≤ 16) (hn45 : 301 - Int32.toInt x5 ≤ n45) : ws_X9_dusk_45 post next bZ wD gF pE qA nJ nY dQ jC eO eW dO fJ fY jD pG oF x1 x2 x3 x4 x5 vK qO qQ qF jJ := by
  have l0 := li_m1
  have l1 := li_m2147483648
  have l2 := li_0
  have l3 := li_1
  have l4 := li_16
  have l5 := li_65535
  refine And.intro (fun c4 => ?_) (fun c4 => ?_)
  · skip
    have c4 := (fa_lt _ _).mp c4
    refine And.intro (fun h9 => absurd h9 (by decide)) (fun _ => ?_)
    refine And.intro (t_in (by omega)) ?_
    intro v5 ev5
    have f6 : Int32.toInt (0 + 1) = Int32.toInt (0 : Int32) + Int32.toInt (1 : Int32) := ta_add _ _ (by omega)
    rw [← ev5] at f6
    refine And.intro (fun c7 => ?_) (fun c7 => ?_)
    · skip
      have c7 := (fa_le _ _).mp c7
      exfalso; omega
    · skip
      have c7 := mt (fa_le _ _).mpr c7
      refine And.intro (t_in (by omega)) ?_
      intro v8 ev8
      have f9 : Int32.toInt (v5 + 1) = Int32.toInt v5 + Int32.toInt (1 : Int32) := ta_add _ _ (by omega)
      rw [← ev8] at f9
      have f10 := tp_r x2
      exact hpost _ _ _ _ _ _ (by omega) (by omega)
  · skip
    have c4 := mt (fa_lt _ _).mpr c4
    refine And.intro (t_in (by omega)) ?_
    intro v11 ev11
    have hv11 := congrArg Int32.toInt ev11
    have f14 := tp_r v11
    refine And.intro (fun c13 => ?_) (fun c13 => ?_)
    · skip
      have c13 := mt (fa_eq _ _).mpr c13
      refine And.intro (t_in (by omega)) ?_
      intro v15 ev15
      have hv15 := congrArg Int32.toInt ev15
      intro v16 ev16
      have hv16 := congrArg Int32.toInt ev16
      have f19 := tp_r (v16 >>> (16 &&& 31))
      have f21 := tp_r x2
      refine And.intro (fun c18 => ?_) (fun c18 => ?_)
      · skip
        have c18 := (fa_le _ _).mp c18
        exact ts_X9_dusk_85 bZ wD gF pE qA nJ nY dQ jC eO eW dO fJ fY jD pG oF h_tr_fruits h_no_ladder h_no_today h_ru_length hpost hKn x1 x2 x3 x4 x5 vK qO qQ qF jJ (by omega) h_x2 h_x3 h_x4 (by omega) h_ro_size hn45
      · skip
        have c18 := mt (fa_le _ _).mpr c18
        refine And.intro (t_in (by omega)) ?_
        intro v22 ev22
        have hv22 := congrArg Int32.toInt ev22
        have f24 := tp_r v22
        refine And.intro (fun c23 => ?_) (fun c23 => ?_)
        · skip
          have c23 := mt (fa_eq _ _).mpr c23
          refine And.intro (t_in (by omega)) ?_
          intro v25 ev25
          have f26 := tp_r (-(vK x5.toNatClampNeg))
          have f27 := ta_neg (vK x5.toNatClampNeg) (by omega)
          have hv25 := congrArg Int32.toInt ev25
          have f28 := ti_andr v25 65535 (by omega)
          exact ts_X9_dusk_85 bZ wD gF pE qA nJ nY dQ jC eO eW dO fJ fY jD pG oF h_tr_fruits h_no_ladder h_no_today h_ru_length hpost hKn x1 (v16 >>> (16 &&& 31)) (v25 &&& 65535) x5 x5 vK qO qQ qF jJ (by omega) (by omega) (by omega) (by omega) (by omega) h_ro_size hn45
        · skip
          have c23 := (fa_eq _ _).mp c23
          exfalso; omega
    · skip
      have c13 := (fa_eq _ _).mp c13
      have f30 := tp_r x2
      refine And.intro (fun c29 => ?_) (fun c29 => ?_)
      · skip
        have c29 := (fa_le _ _).mp c29
        exact ts_X9_dusk_85 bZ wD gF pE qA nJ nY dQ jC eO eW dO fJ fY jD pG oF h_tr_fruits h_no_ladder h_no_today h_ru_length hpost hKn x1 x2 x3 x4 x5 vK qO qQ qF jJ (by omega) h_x2 h_x3 h_x4 (by omega) h_ro_size hn45
      · skip
        have c29 := mt (fa_le _ _).mpr c29
        exfalso; omega
set_option maxHeartbeats 8000000 in
set_option maxRecDepth 200000 in
theorem tb_X9_dusk_45 {post : Int32 → (Nat → Int32) → (Nat → Int32) → (Nat → Int32) → Int32 → (Nat → Int32) → Prop} (bZ : Int32) (wD gF pE qA nJ nY dQ : Nat → Int32) (jC eO eW dO fJ fY jD pG : Int32) (oF : Nat → Int32) (h_tr_fruits : 0 ≤ Int32.toInt bZ ∧ Int32.toInt bZ ≤ 16) (h_no_ladder : -1 ≤ Int32.toInt fJ ∧ Int32.toInt fJ ≤ 7) (h_no_today : 0 ≤ Int32.toInt jD ∧ Int32.toInt jD ≤ 9) (h_ru_length : 0 ≤ Int32.toInt pG ∧ Int32.toInt pG ≤ 40) (hpost : ∀ (r : Int32) (pl_best' : Nat → Int32) (ru_given' : Nat → Int32) (ru_stack' : Nat → Int32) (ro_size' : Int32) (ro_numbers' : Nat → Int32), (-2 ≤ Int32.toInt r ∧ Int32.toInt r ≤ 2147483647) → (0 ≤ Int32.toInt ro_size' ∧ Int32.toInt ro_size' ≤ 16) → post r pl_best' ru_given' ru_stack' ro_size' ro_numbers') : ∀ (n : Nat) (x1 x2 x3 x4 x5 : Int32) (vK qO qQ : Nat → Int32) (qF : Int32) (jJ : Nat → Int32), (0 ≤ Int32.toInt x1 ∧ Int32.toInt x1 ≤ 300) → (0 ≤ Int32.toInt x2 ∧ Int32.toInt x2 ≤ 2147483647) → (0 ≤ Int32.toInt x3 ∧ Int32.toInt x3 ≤ 65535) → (0 ≤ Int32.toInt x4 ∧ Int32.toInt x4 ≤ 300) → (1 ≤ Int32.toInt x5 ∧ Int32.toInt x5 ≤ 301) → (0 ≤ Int32.toInt qF ∧ Int32.toInt qF ≤ 16) → (301 - Int32.toInt x5 < (n : Int)) → wb_X9_dusk_45 post bZ wD gF pE qA nJ nY dQ jC eO eW dO fJ fY jD pG oF n x1 x2 x3 x4 x5 vK qO qQ qF jJ := by
  intro n
  induction n with
  | zero =>
    intro x1 x2 x3 x4 x5 vK qO qQ qF jJ h_x1 h_x2 h_x3 h_x4 h_x5 h_ro_size hm
    exfalso; omega
  | succ n ih =>
    intro x1 x2 x3 x4 x5 vK qO qQ qF jJ h_x1 h_x2 h_x3 h_x4 h_x5 h_ro_size hm
    exact ts_X9_dusk_45 bZ wD gF pE qA nJ nY dQ jC eO eW dO fJ fY jD pG oF h_tr_fruits h_no_ladder h_no_today h_ru_length hpost ih x1 x2 x3 x4 x5 vK qO qQ qF jJ h_x1 h_x2 h_x3 h_x4 h_x5 h_ro_size (by omega)
set_option maxHeartbeats 8000000 in
set_option maxRecDepth 200000 in
theorem t_X9_dusk {post : Int32 → (Nat → Int32) → (Nat → Int32) → (Nat → Int32) → Int32 → (Nat → Int32) → Prop} {p0 : Int32} {vK : Nat → Int32} {bZ : Int32} {wD gF pE qA nJ nY dQ : Nat → Int32} {jC eO eW dO fJ fY jD pG : Int32} {qO qQ oF : Nat → Int32} {qF : Int32} {jJ : Nat → Int32} (h_tr_fruits : 0 ≤ Int32.toInt bZ ∧ Int32.toInt bZ ≤ 16) (h_no_ladder : -1 ≤ Int32.toInt fJ ∧ Int32.toInt fJ ≤ 7) (h_no_today : 0 ≤ Int32.toInt jD ∧ Int32.toInt jD ≤ 9) (h_ru_length : 0 ≤ Int32.toInt pG ∧ Int32.toInt pG ≤ 40) (h_ro_size : 0 ≤ Int32.toInt qF ∧ Int32.toInt qF ≤ 16) (hpost : ∀ (r : Int32) (pl_best' : Nat → Int32) (ru_given' : Nat → Int32) (ru_stack' : Nat → Int32) (ro_size' : Int32) (ro_numbers' : Nat → Int32), (-2 ≤ Int32.toInt r ∧ Int32.toInt r ≤ 2147483647) → (0 ≤ Int32.toInt ro_size' ∧ Int32.toInt ro_size' ≤ 16) → post r pl_best' ru_given' ru_stack' ro_size' ro_numbers') : wp_X9_dusk post p0 vK bZ wD gF pE qA nJ nY dQ jC eO eW dO fJ fY jD pG qO qQ oF qF jJ := by
  have l0 := li_m1
  have l1 := li_m2
  have l2 := li_0
  have l3 := li_1
  have l4 := li_300
  have f32 := tp_r p0
  refine And.intro (fun c31 => ?_) (fun c31 => ?_)
  · skip
    have c31 := (fa_lt _ _).mp c31
    exact hpost _ _ _ _ _ _ (by omega) h_ro_size
  · skip
    have c31 := mt (fa_lt _ _).mpr c31
    refine And.intro (fun c33 => ?_) (fun c33 => ?_)
    · skip
      have c33 := (fa_le _ _).mp c33
      refine And.intro (fun c34 => ?_) (fun c34 => ?_)
      · skip
        have c34 := mt (fa_eq _ _).mpr c34
        refine t_X5_fillDusk (by omega) h_tr_fruits (by omega) h_no_today h_ru_length (fun pl_best_35 ru_given_36 ru_stack_37 => ?_)
        exact ⟨302, tb_X9_dusk_45 bZ wD gF pE qA nJ nY dQ jC eO eW dO fJ fY jD pG oF h_tr_fruits h_no_ladder h_no_today h_ru_length hpost _ p0 0 0 0 1 pl_best_35 ru_given_36 ru_stack_37 qF jJ (by omega) (by omega) (by omega) (by omega) (by omega) h_ro_size (by omega)⟩
      · skip
        have c34 := (fa_eq _ _).mp c34
        exact hpost _ _ _ _ _ _ (by omega) h_ro_size
    · skip
      have c33 := mt (fa_le _ _).mpr c33
      exact hpost _ _ _ _ _ _ (by omega) h_ro_size
set_option maxHeartbeats 8000000 in
set_option maxRecDepth 200000 in
theorem ts_X3_firstUncovering_29 {post : Int32 → Prop} {K2 : Int32 → Int32 → Int32 → Prop} {n2 : Int} (bZ : Int32) (wD gF : Nat → Int32) (h_tr_fruits : 0 ≤ Int32.toInt bZ ∧ Int32.toInt bZ ≤ 16) (hpost : ∀ (r : Int32) , (-1 ≤ Int32.toInt r ∧ Int32.toInt r ≤ 15) → post r) (hK2 : ∀ (x1 : Int32) (x2 : Int32) (x3 : Int32), (0 ≤ Int32.toInt x1 ∧ Int32.toInt x1 ≤ 65535) → (0 ≤ Int32.toInt x2 ∧ Int32.toInt x2 ≤ 65535) → (0 ≤ Int32.toInt x3 ∧ Int32.toInt x3 ≤ 16) → (16 - Int32.toInt x3 < n2) → K2 x1 x2 x3) (x1 x2 x3 : Int32) (h_x1 : 0 ≤ Int32.toInt x1 ∧ Int32.toInt x1 ≤ 65535) (h_x2 : 0 ≤ Int32.toInt x2 ∧ Int32.toInt x2 ≤ 65535) (h_x3 : 0 ≤ Int32.toInt x3 ∧ Int32.toInt x3 ≤ 15) (hn2 : 16 - Int32.toInt x3 ≤ n2) : ws_X3_firstUncovering_29 post K2 bZ wD gF x1 x2 x3 := by
  have l0 := li_1
  intro v1 ev1
  have f2 : Int32.toInt (x3 + 1) = Int32.toInt x3 + Int32.toInt (1 : Int32) := ta_add _ _ (by omega)
  rw [← ev1] at f2
  exact hK2 x1 x2 v1 h_x1 h_x2 (by omega) (by omega)
set_option maxHeartbeats 8000000 in
set_option maxRecDepth 200000 in
theorem ts_X3_firstUncovering_2 {post : Int32 → Prop} {next : Int32 → Int32 → Int32 → Prop} {n2 : Int} (bZ : Int32) (wD gF : Nat → Int32) (h_tr_fruits : 0 ≤ Int32.toInt bZ ∧ Int32.toInt bZ ≤ 16) (hpost : ∀ (r : Int32) , (-1 ≤ Int32.toInt r ∧ Int32.toInt r ≤ 15) → post r) (hKn : ∀ (x1 : Int32) (x2 : Int32) (x3 : Int32), (0 ≤ Int32.toInt x1 ∧ Int32.toInt x1 ≤ 65535) → (0 ≤ Int32.toInt x2 ∧ Int32.toInt x2 ≤ 65535) → (0 ≤ Int32.toInt x3 ∧ Int32.toInt x3 ≤ 16) → (16 - Int32.toInt x3 < n2) → next x1 x2 x3) (x1 x2 x3 : Int32) (h_x1 : 0 ≤ Int32.toInt x1 ∧ Int32.toInt x1 ≤ 65535) (h_x2 : 0 ≤ Int32.toInt x2 ∧ Int32.toInt x2 ≤ 65535) (h_x3 : 0 ≤ Int32.toInt x3 ∧ Int32.toInt x3 ≤ 16) (hn2 : 16 - Int32.toInt x3 ≤ n2) : ws_X3_firstUncovering_2 post next bZ wD gF x1 x2 x3 := by
  have l0 := li_m1
  have l1 := li_0
  have l2 := li_1
  refine And.intro (fun c3 => ?_) (fun c3 => ?_)
  · skip
    have c3 := (fa_le _ _).mp c3
    exact hpost _ (by omega)
  · skip
    have c3 := mt (fa_le _ _).mpr c3
    intro v4 ev4
    have f5 := ti_shr x1 x3 (by omega)
    have hv4 := congrArg Int32.toInt ev4
    have f7 := ti_andr v4 1 (by omega)
    have f8 := ti_andl v4 1 (by omega)
    refine And.intro (fun c6 => ?_) (fun c6 => ?_)
    · skip
      have c6 := (fa_eq _ _).mp c6
      exact ts_X3_firstUncovering_29 bZ wD gF h_tr_fruits hpost hKn x1 x2 x3 h_x1 h_x2 (by omega) hn2
    · skip
      have c6 := mt (fa_eq _ _).mpr c6
      refine t_X3_lowerThan (by omega) h_x2 (by omega) (fun r9 h_r9 => ?_)
      refine And.intro (fun c10 => ?_) (fun c10 => ?_)
      · skip
        have c10 := mt (fa_eq _ _).mpr c10
        exact ts_X3_firstUncovering_29 bZ wD gF h_tr_fruits hpost hKn x1 x2 x3 h_x1 h_x2 (by omega) hn2
      · skip
        have c10 := (fa_eq _ _).mp c10
        exact hpost _ (by omega)
set_option maxHeartbeats 8000000 in
set_option maxRecDepth 200000 in
theorem tb_X3_firstUncovering_2 {post : Int32 → Prop} (bZ : Int32) (wD gF : Nat → Int32) (h_tr_fruits : 0 ≤ Int32.toInt bZ ∧ Int32.toInt bZ ≤ 16) (hpost : ∀ (r : Int32) , (-1 ≤ Int32.toInt r ∧ Int32.toInt r ≤ 15) → post r) : ∀ (n : Nat) (x1 x2 x3 : Int32), (0 ≤ Int32.toInt x1 ∧ Int32.toInt x1 ≤ 65535) → (0 ≤ Int32.toInt x2 ∧ Int32.toInt x2 ≤ 65535) → (0 ≤ Int32.toInt x3 ∧ Int32.toInt x3 ≤ 16) → (16 - Int32.toInt x3 < (n : Int)) → wb_X3_firstUncovering_2 post bZ wD gF n x1 x2 x3 := by
  intro n
  induction n with
  | zero =>
    intro x1 x2 x3 h_x1 h_x2 h_x3 hm
    exfalso; omega
  | succ n ih =>
    intro x1 x2 x3 h_x1 h_x2 h_x3 hm
    exact ts_X3_firstUncovering_2 bZ wD gF h_tr_fruits hpost ih x1 x2 x3 h_x1 h_x2 h_x3 (by omega)
set_option maxHeartbeats 8000000 in
set_option maxRecDepth 200000 in
theorem t_X3_firstUncovering {post : Int32 → Prop} {p0 p1 bZ : Int32} {wD gF : Nat → Int32} (h_p0 : 0 ≤ Int32.toInt p0 ∧ Int32.toInt p0 ≤ 65535) (h_p1 : 0 ≤ Int32.toInt p1 ∧ Int32.toInt p1 ≤ 65535) (h_tr_fruits : 0 ≤ Int32.toInt bZ ∧ Int32.toInt bZ ≤ 16) (hpost : ∀ (r : Int32) , (-1 ≤ Int32.toInt r ∧ Int32.toInt r ≤ 15) → post r) : wp_X3_firstUncovering post p0 p1 bZ wD gF := by
  have l0 := li_0
  exact ⟨18, tb_X3_firstUncovering_2 bZ wD gF h_tr_fruits hpost _ p0 p1 0 h_p0 h_p1 (by omega) (by omega)⟩
set_option maxHeartbeats 8000000 in
set_option maxRecDepth 200000 in
theorem ts_X9_gentle_91 {post : Int32 → Int32 → (Nat → Int32) → Prop} (bZ : Int32) (wD gF qA nJ nY dQ : Nat → Int32) (jC eO eW fJ fY jD : Int32) (h_tr_fruits : 0 ≤ Int32.toInt bZ ∧ Int32.toInt bZ ≤ 16) (h_no_ladder : -1 ≤ Int32.toInt fJ ∧ Int32.toInt fJ ≤ 7) (h_no_today : 0 ≤ Int32.toInt jD ∧ Int32.toInt jD ≤ 9) (hpost : ∀ (r : Int32) (ro_size' : Int32) (ro_numbers' : Nat → Int32), (-2 ≤ Int32.toInt r ∧ Int32.toInt r ≤ 16) → (0 ≤ Int32.toInt ro_size' ∧ Int32.toInt ro_size' ≤ 16) → post r ro_size' ro_numbers') (qF : Int32) (jJ : Nat → Int32) (h_ro_size : 0 ≤ Int32.toInt qF ∧ Int32.toInt qF ≤ 16) : ws_X9_gentle_91 post bZ wD gF qA nJ nY dQ jC eO eW fJ fY jD qF jJ := by
  exact hpost _ _ _ (by omega) h_ro_size
set_option maxHeartbeats 8000000 in
set_option maxRecDepth 200000 in
theorem ts_X9_gentle_39 {post : Int32 → Int32 → (Nat → Int32) → Prop} {next : Int32 → Int32 → Int32 → Int32 → (Nat → Int32) → Prop} {n39 : Int} (bZ : Int32) (wD gF qA nJ nY dQ : Nat → Int32) (jC eO eW fJ fY jD : Int32) (h_tr_fruits : 0 ≤ Int32.toInt bZ ∧ Int32.toInt bZ ≤ 16) (h_no_ladder : -1 ≤ Int32.toInt fJ ∧ Int32.toInt fJ ≤ 7) (h_no_today : 0 ≤ Int32.toInt jD ∧ Int32.toInt jD ≤ 9) (hpost : ∀ (r : Int32) (ro_size' : Int32) (ro_numbers' : Nat → Int32), (-2 ≤ Int32.toInt r ∧ Int32.toInt r ≤ 16) → (0 ≤ Int32.toInt ro_size' ∧ Int32.toInt ro_size' ≤ 16) → post r ro_size' ro_numbers') (hKn : ∀ (x1 : Int32) (x2 : Int32) (x3 : Int32) (qF : Int32) (jJ : Nat → Int32), (0 ≤ Int32.toInt x1 ∧ Int32.toInt x1 ≤ 65535) → (0 ≤ Int32.toInt x2 ∧ Int32.toInt x2 ≤ 65535) → (0 ≤ Int32.toInt x3 ∧ Int32.toInt x3 ≤ 16) → (0 ≤ Int32.toInt qF ∧ Int32.toInt qF ≤ 16) → (16 - Int32.toInt x3 < n39) → next x1 x2 x3 qF jJ) (x1 x2 x3 qF : Int32) (jJ : Nat → Int32) (h_x1 : 0 ≤ Int32.toInt x1 ∧ Int32.toInt x1 ≤ 65535) (h_x2 : 0 ≤ Int32.toInt x2 ∧ Int32.toInt x2 ≤ 65535) (h_x3 : 0 ≤ Int32.toInt x3 ∧ Int32.toInt x3 ≤ 16) (h_ro_size : 0 ≤ Int32.toInt qF ∧ Int32.toInt qF ≤ 16) (hn39 : 16 - Int32.toInt x3 ≤ n39) : ws_X9_gentle_39 post next bZ wD gF qA nJ nY dQ jC eO eW fJ fY jD x1 x2 x3 qF jJ := by
  have l0 := li_m1
  have l1 := li_1
  have l2 := li_16
  refine And.intro (fun c1 => ?_) (fun c1 => ?_)
  · skip
    have c1 := (fa_le _ _).mp c1
    exact ts_X9_gentle_91 bZ wD gF qA nJ nY dQ jC eO eW fJ fY jD h_tr_fruits h_no_ladder h_no_today hpost qF jJ h_ro_size
  · skip
    have c1 := mt (fa_le _ _).mpr c1
    intro v2 ev2
    have f3 := ti_andr x2 x1 (by omega)
    have f4 := ti_andl x2 x1 (by omega)
    have hv2 := congrArg Int32.toInt ev2
    refine t_X3_firstUncovering (by omega) h_x1 h_tr_fruits (fun r5 h_r5 => ?_)
    refine And.intro (fun c6 => ?_) (fun c6 => ?_)
    · skip
      have c6 := mt (fa_eq _ _).mpr c6
      refine And.intro (fun c7 => ?_) (fun c7 => ?_)
      · skip
        have c7 := (fa_le _ _).mp c7
        intro v8 ev8
        have f9 := ti_shl1 15 32768 r5 (by decide) (by omega)
        have hv8 := congrArg Int32.toInt ev8
        intro v10 ev10
        have f12 := ti_andl x1 (v8 ^^^ (-1)) (by omega)
        have hv10 := congrArg Int32.toInt ev10
        intro v13 ev13
        have f14 : Int32.toInt (x3 + 1) = Int32.toInt x3 + Int32.toInt (1 : Int32) := ta_add _ _ (by omega)
        rw [← ev13] at f14
        exact hKn v10 x2 v13 qF jJ (by omega) h_x2 (by omega) h_ro_size (by omega)
      · skip
        have c7 := mt (fa_le _ _).mpr c7
        refine And.intro (t_in (by omega)) ?_
        intro v15 ev15
        have f16 : Int32.toInt (qF + 1) = Int32.toInt qF + Int32.toInt (1 : Int32) := ta_add _ _ (by omega)
        rw [← ev15] at f16
        intro v17 ev17
        have f18 := ti_shl1 15 32768 r5 (by decide) (by omega)
        have hv17 := congrArg Int32.toInt ev17
        intro v19 ev19
        have f21 := ti_andl x1 (v17 ^^^ (-1)) (by omega)
        have hv19 := congrArg Int32.toInt ev19
        intro v22 ev22
        have f23 : Int32.toInt (x3 + 1) = Int32.toInt x3 + Int32.toInt (1 : Int32) := ta_add _ _ (by omega)
        rw [← ev22] at f23
        exact hKn v19 x2 v22 v15 (upd jJ qF.toNatClampNeg r5) (by omega) h_x2 (by omega) (by omega) (by omega)
    · skip
      have c6 := (fa_eq _ _).mp c6
      exact ts_X9_gentle_91 bZ wD gF qA nJ nY dQ jC eO eW fJ fY jD h_tr_fruits h_no_ladder h_no_today hpost qF jJ h_ro_size
set_option maxHeartbeats 8000000 in
set_option maxRecDepth 200000 in
theorem tb_X9_gentle_39 {post : Int32 → Int32 → (Nat → Int32) → Prop} (bZ : Int32) (wD gF qA nJ nY dQ : Nat → Int32) (jC eO eW fJ fY jD : Int32) (h_tr_fruits : 0 ≤ Int32.toInt bZ ∧ Int32.toInt bZ ≤ 16) (h_no_ladder : -1 ≤ Int32.toInt fJ ∧ Int32.toInt fJ ≤ 7) (h_no_today : 0 ≤ Int32.toInt jD ∧ Int32.toInt jD ≤ 9) (hpost : ∀ (r : Int32) (ro_size' : Int32) (ro_numbers' : Nat → Int32), (-2 ≤ Int32.toInt r ∧ Int32.toInt r ≤ 16) → (0 ≤ Int32.toInt ro_size' ∧ Int32.toInt ro_size' ≤ 16) → post r ro_size' ro_numbers') : ∀ (n : Nat) (x1 x2 x3 qF : Int32) (jJ : Nat → Int32), (0 ≤ Int32.toInt x1 ∧ Int32.toInt x1 ≤ 65535) → (0 ≤ Int32.toInt x2 ∧ Int32.toInt x2 ≤ 65535) → (0 ≤ Int32.toInt x3 ∧ Int32.toInt x3 ≤ 16) → (0 ≤ Int32.toInt qF ∧ Int32.toInt qF ≤ 16) → (16 - Int32.toInt x3 < (n : Int)) → wb_X9_gentle_39 post bZ wD gF qA nJ nY dQ jC eO eW fJ fY jD n x1 x2 x3 qF jJ := by
  intro n
  induction n with
  | zero =>
    intro x1 x2 x3 qF jJ h_x1 h_x2 h_x3 h_ro_size hm
    exfalso; omega
  | succ n ih =>
    intro x1 x2 x3 qF jJ h_x1 h_x2 h_x3 h_ro_size hm
    exact ts_X9_gentle_39 bZ wD gF qA nJ nY dQ jC eO eW fJ fY jD h_tr_fruits h_no_ladder h_no_today hpost ih x1 x2 x3 qF jJ h_x1 h_x2 h_x3 h_ro_size (by omega)
set_option maxHeartbeats 8000000 in
set_option maxRecDepth 200000 in
theorem t_X9_gentle {post : Int32 → Int32 → (Nat → Int32) → Prop} {bZ : Int32} {wD gF qA nJ nY dQ : Nat → Int32} {jC eO eW fJ fY jD qF : Int32} {jJ : Nat → Int32} (h_tr_fruits : 0 ≤ Int32.toInt bZ ∧ Int32.toInt bZ ≤ 16) (h_no_ladder : -1 ≤ Int32.toInt fJ ∧ Int32.toInt fJ ≤ 7) (h_no_today : 0 ≤ Int32.toInt jD ∧ Int32.toInt jD ≤ 9) (h_ro_size : 0 ≤ Int32.toInt qF ∧ Int32.toInt qF ≤ 16) (hpost : ∀ (r : Int32) (ro_size' : Int32) (ro_numbers' : Nat → Int32), (-2 ≤ Int32.toInt r ∧ Int32.toInt r ≤ 16) → (0 ≤ Int32.toInt ro_size' ∧ Int32.toInt ro_size' ≤ 16) → post r ro_size' ro_numbers') : wp_X9_gentle post bZ wD gF qA nJ nY dQ jC eO eW fJ fY jD qF jJ := by
  have l0 := li_m1
  have l1 := li_m2
  have l2 := li_0
  have l3 := li_1
  have l4 := li_2
  refine And.intro (fun c24 => ?_) (fun c24 => ?_)
  · skip
    have c24 := mt (fa_eq _ _).mpr c24
    intro v25 ev25
    have f26 := ti_shl1 16 65536 bZ (by decide) (by omega)
    have hv25 := congrArg Int32.toInt ev25
    intro v27 ev27
    intro v28 ev28
    refine And.intro (fun c29 => ?_) (fun c29 => ?_)
    · skip
      have c29 := mt (fa_eq _ _).mpr c29
      intro v30 ev30
      have hv30 := congrArg Int32.toInt ev30
      intro v32 ev32
      have hv32 := congrArg Int32.toInt ev32
      refine t_X3_within (by omega) h_tr_fruits (fun r34 h_r34 => ?_)
      intro v35 ev35
      have hv35 := congrArg Int32.toInt ev35
      intro v36 ev36
      intro v37 ev37
      refine t_X3_ripeBy h_no_today h_tr_fruits (fun r38 h_r38 => ?_)
      intro v39 ev39
      have f40 := ti_andr ((v35 - 1) &&& (v37 ^^^ (-1))) r38 (by omega)
      have f42 : Int32.toInt (v35 - 1) = Int32.toInt v35 - Int32.toInt (1 : Int32) := ta_sub _ _ (by omega)
      have f43 := ti_andl (v35 - 1) (v37 ^^^ (-1)) (by omega)
      have f44 := ti_andl ((v35 - 1) &&& (v37 ^^^ (-1))) r38 (by omega)
      have hv39 := congrArg Int32.toInt ev39
      have f46 : Int32.toInt (v25 - 1) = Int32.toInt v25 - Int32.toInt (1 : Int32) := ta_sub _ _ (by omega)
      have f47 := ti_andl (v25 - 1) (v28 ^^^ (-1)) (by omega)
      have f48 := ti_andr v39 r34 (by omega)
      have f49 := ti_andl v39 r34 (by omega)
      exact ⟨18, tb_X9_gentle_39 bZ wD gF qA nJ nY dQ jC eO eW fJ fY jD h_tr_fruits h_no_ladder h_no_today hpost _ ((v25 - 1) &&& (v28 ^^^ (-1))) (v39 &&& r34) 0 0 jJ (by omega) (by omega) (by omega) (by omega) (by omega)⟩
    · skip
      have c29 := (fa_eq _ _).mp c29
      exfalso; omega
  · skip
    have c24 := (fa_eq _ _).mp c24
    exact hpost _ _ _ (by omega) h_ro_size
set_option maxHeartbeats 8000000 in
set_option maxRecDepth 200000 in
theorem ts_X9_harm_78 {post : Int32 → Int32 → (Nat → Int32) → Prop} {K35 : Int32 → Int32 → Int32 → Int32 → Int32 → (Nat → Int32) → Prop} {n35 : Int} (bZ : Int32) (wD gF pE qA nJ nY dQ : Nat → Int32) (jC eO eW dO fJ fY jD : Int32) (h_tr_fruits : 0 ≤ Int32.toInt bZ ∧ Int32.toInt bZ ≤ 16) (h_no_ladder : -1 ≤ Int32.toInt fJ ∧ Int32.toInt fJ ≤ 7) (h_no_today : 0 ≤ Int32.toInt jD ∧ Int32.toInt jD ≤ 9) (hpost : ∀ (r : Int32) (ro_size' : Int32) (ro_numbers' : Nat → Int32), (-2 ≤ Int32.toInt r ∧ Int32.toInt r ≤ 65535) → (0 ≤ Int32.toInt ro_size' ∧ Int32.toInt ro_size' ≤ 16) → post r ro_size' ro_numbers') (hK35 : ∀ (x1 : Int32) (x2 : Int32) (x3 : Int32) (x4 : Int32) (qF : Int32) (jJ : Nat → Int32), (0 ≤ Int32.toInt x1 ∧ Int32.toInt x1 ≤ 65535) → (0 ≤ Int32.toInt x2 ∧ Int32.toInt x2 ≤ 65535) → (0 ≤ Int32.toInt x3 ∧ Int32.toInt x3 ≤ 65535) → (0 ≤ Int32.toInt x4 ∧ Int32.toInt x4 ≤ 16) → (0 ≤ Int32.toInt qF ∧ Int32.toInt qF ≤ 16) → (16 - Int32.toInt x4 < n35) → K35 x1 x2 x3 x4 qF jJ) (x1 x2 x3 x4 qF : Int32) (jJ : Nat → Int32) (h_x1 : 0 ≤ Int32.toInt x1 ∧ Int32.toInt x1 ≤ 65535) (h_x2 : 0 ≤ Int32.toInt x2 ∧ Int32.toInt x2 ≤ 65535) (h_x3 : 0 ≤ Int32.toInt x3 ∧ Int32.toInt x3 ≤ 65535) (h_x4 : 0 ≤ Int32.toInt x4 ∧ Int32.toInt x4 ≤ 15) (h_ro_size : 0 ≤ Int32.toInt qF ∧ Int32.toInt qF ≤ 16) (hn35 : 16 - Int32.toInt x4 ≤ n35) : ws_X9_harm_78 post K35 bZ wD gF pE qA nJ nY dQ jC eO eW dO fJ fY jD x1 x2 x3 x4 qF jJ := by
  have l0 := li_1
  intro v1 ev1
  have f2 : Int32.toInt (x4 + 1) = Int32.toInt x4 + Int32.toInt (1 : Int32) := ta_add _ _ (by omega)
  rw [← ev1] at f2
  exact hK35 x1 x2 x3 v1 qF jJ h_x1 h_x2 h_x3 (by omega) h_ro_size (by omega)
set_option maxHeartbeats 8000000 in
set_option maxRecDepth 200000 in
theorem ts_X9_harm_35 {post : Int32 → Int32 → (Nat → Int32) → Prop} {next : Int32 → Int32 → Int32 → Int32 → Int32 → (Nat → Int32) → Prop} {n35 : Int} (bZ : Int32) (wD gF pE qA nJ nY dQ : Nat → Int32) (jC eO eW dO fJ fY jD : Int32) (h_tr_fruits : 0 ≤ Int32.toInt bZ ∧ Int32.toInt bZ ≤ 16) (h_no_ladder : -1 ≤ Int32.toInt fJ ∧ Int32.toInt fJ ≤ 7) (h_no_today : 0 ≤ Int32.toInt jD ∧ Int32.toInt jD ≤ 9) (hpost : ∀ (r : Int32) (ro_size' : Int32) (ro_numbers' : Nat → Int32), (-2 ≤ Int32.toInt r ∧ Int32.toInt r ≤ 65535) → (0 ≤ Int32.toInt ro_size' ∧ Int32.toInt ro_size' ≤ 16) → post r ro_size' ro_numbers') (hKn : ∀ (x1 : Int32) (x2 : Int32) (x3 : Int32) (x4 : Int32) (qF : Int32) (jJ : Nat → Int32), (0 ≤ Int32.toInt x1 ∧ Int32.toInt x1 ≤ 65535) → (0 ≤ Int32.toInt x2 ∧ Int32.toInt x2 ≤ 65535) → (0 ≤ Int32.toInt x3 ∧ Int32.toInt x3 ≤ 65535) → (0 ≤ Int32.toInt x4 ∧ Int32.toInt x4 ≤ 16) → (0 ≤ Int32.toInt qF ∧ Int32.toInt qF ≤ 16) → (16 - Int32.toInt x4 < n35) → next x1 x2 x3 x4 qF jJ) (x1 x2 x3 x4 qF : Int32) (jJ : Nat → Int32) (h_x1 : 0 ≤ Int32.toInt x1 ∧ Int32.toInt x1 ≤ 65535) (h_x2 : 0 ≤ Int32.toInt x2 ∧ Int32.toInt x2 ≤ 65535) (h_x3 : 0 ≤ Int32.toInt x3 ∧ Int32.toInt x3 ≤ 65535) (h_x4 : 0 ≤ Int32.toInt x4 ∧ Int32.toInt x4 ≤ 16) (h_ro_size : 0 ≤ Int32.toInt qF ∧ Int32.toInt qF ≤ 16) (hn35 : 16 - Int32.toInt x4 ≤ n35) : ws_X9_harm_35 post next bZ wD gF pE qA nJ nY dQ jC eO eW dO fJ fY jD x1 x2 x3 x4 qF jJ := by
  have l0 := li_0
  have l1 := li_1
  refine And.intro (fun c3 => ?_) (fun c3 => ?_)
  · skip
    have c3 := (fa_le _ _).mp c3
    refine t_X3_worthOf h_tr_fruits (fun r4 => ?_)
    intro v5 ev5
    refine t_X3_worthOf h_tr_fruits (fun r6 => ?_)
    intro v7 ev7
    have hv7 := congrArg Int32.toInt ev7
    refine And.intro (fun h9 => absurd h9 (by decide)) (fun _ => ?_)
    refine And.intro (t_in (by omega)) ?_
    intro v9 ev9
    have f10 : Int32.toInt (0 + 1) = Int32.toInt (0 : Int32) + Int32.toInt (1 : Int32) := ta_add _ _ (by omega)
    rw [← ev9] at f10
    exact hpost _ _ _ (by omega) (by omega)
  · skip
    have c3 := mt (fa_le _ _).mpr c3
    intro v11 ev11
    have f12 := ti_shr x2 x4 (by omega)
    have hv11 := congrArg Int32.toInt ev11
    have f14 := ti_andr v11 1 (by omega)
    have f15 := ti_andl v11 1 (by omega)
    refine And.intro (fun c13 => ?_) (fun c13 => ?_)
    · skip
      have c13 := (fa_eq _ _).mp c13
      exact ts_X9_harm_78 bZ wD gF pE qA nJ nY dQ jC eO eW dO fJ fY jD h_tr_fruits h_no_ladder h_no_today hpost hKn x1 x2 x3 x4 qF jJ h_x1 h_x2 h_x3 (by omega) h_ro_size hn35
    · skip
      have c13 := mt (fa_eq _ _).mpr c13
      refine t_X3_lowerThan (by omega) h_x1 (by omega) (fun r16 h_r16 => ?_)
      intro v17 ev17
      have f18 := ti_or 16 65536 x3 r16 (by decide) (by omega) (by omega)
      have hv17 := congrArg Int32.toInt ev17
      intro v19 ev19
      have f20 := ti_shl1 15 32768 x4 (by decide) (by omega)
      have hv19 := congrArg Int32.toInt ev19
      intro v21 ev21
      have f23 := ti_andl x1 (v19 ^^^ (-1)) (by omega)
      have hv21 := congrArg Int32.toInt ev21
      exact ts_X9_harm_78 bZ wD gF pE qA nJ nY dQ jC eO eW dO fJ fY jD h_tr_fruits h_no_ladder h_no_today hpost hKn v21 x2 v17 x4 qF jJ (by omega) h_x2 (by omega) (by omega) h_ro_size hn35
set_option maxHeartbeats 8000000 in
set_option maxRecDepth 200000 in
theorem tb_X9_harm_35 {post : Int32 → Int32 → (Nat → Int32) → Prop} (bZ : Int32) (wD gF pE qA nJ nY dQ : Nat → Int32) (jC eO eW dO fJ fY jD : Int32) (h_tr_fruits : 0 ≤ Int32.toInt bZ ∧ Int32.toInt bZ ≤ 16) (h_no_ladder : -1 ≤ Int32.toInt fJ ∧ Int32.toInt fJ ≤ 7) (h_no_today : 0 ≤ Int32.toInt jD ∧ Int32.toInt jD ≤ 9) (hpost : ∀ (r : Int32) (ro_size' : Int32) (ro_numbers' : Nat → Int32), (-2 ≤ Int32.toInt r ∧ Int32.toInt r ≤ 65535) → (0 ≤ Int32.toInt ro_size' ∧ Int32.toInt ro_size' ≤ 16) → post r ro_size' ro_numbers') : ∀ (n : Nat) (x1 x2 x3 x4 qF : Int32) (jJ : Nat → Int32), (0 ≤ Int32.toInt x1 ∧ Int32.toInt x1 ≤ 65535) → (0 ≤ Int32.toInt x2 ∧ Int32.toInt x2 ≤ 65535) → (0 ≤ Int32.toInt x3 ∧ Int32.toInt x3 ≤ 65535) → (0 ≤ Int32.toInt x4 ∧ Int32.toInt x4 ≤ 16) → (0 ≤ Int32.toInt qF ∧ Int32.toInt qF ≤ 16) → (16 - Int32.toInt x4 < (n : Int)) → wb_X9_harm_35 post bZ wD gF pE qA nJ nY dQ jC eO eW dO fJ fY jD n x1 x2 x3 x4 qF jJ := by
  intro n
  induction n with
  | zero =>
    intro x1 x2 x3 x4 qF jJ h_x1 h_x2 h_x3 h_x4 h_ro_size hm
    exfalso; omega
  | succ n ih =>
    intro x1 x2 x3 x4 qF jJ h_x1 h_x2 h_x3 h_x4 h_ro_size hm
    exact ts_X9_harm_35 bZ wD gF pE qA nJ nY dQ jC eO eW dO fJ fY jD h_tr_fruits h_no_ladder h_no_today hpost ih x1 x2 x3 x4 qF jJ h_x1 h_x2 h_x3 h_x4 h_ro_size (by omega)
set_option maxHeartbeats 8000000 in
set_option maxRecDepth 200000 in
theorem t_X9_harm {post : Int32 → Int32 → (Nat → Int32) → Prop} {bZ : Int32} {wD gF pE qA nJ nY dQ : Nat → Int32} {jC eO eW dO fJ fY jD qF : Int32} {jJ : Nat → Int32} (h_tr_fruits : 0 ≤ Int32.toInt bZ ∧ Int32.toInt bZ ≤ 16) (h_no_ladder : -1 ≤ Int32.toInt fJ ∧ Int32.toInt fJ ≤ 7) (h_no_today : 0 ≤ Int32.toInt jD ∧ Int32.toInt jD ≤ 9) (h_ro_size : 0 ≤ Int32.toInt qF ∧ Int32.toInt qF ≤ 16) (hpost : ∀ (r : Int32) (ro_size' : Int32) (ro_numbers' : Nat → Int32), (-2 ≤ Int32.toInt r ∧ Int32.toInt r ≤ 65535) → (0 ≤ Int32.toInt ro_size' ∧ Int32.toInt ro_size' ≤ 16) → post r ro_size' ro_numbers') : wp_X9_harm post bZ wD gF pE qA nJ nY dQ jC eO eW dO fJ fY jD qF jJ := by
  have l0 := li_m1
  have l1 := li_m2
  have l2 := li_0
  have l3 := li_1
  have l4 := li_2
  refine And.intro (fun c24 => ?_) (fun c24 => ?_)
  · skip
    have c24 := mt (fa_eq _ _).mpr c24
    intro v25 ev25
    have f26 := ti_shl1 16 65536 bZ (by decide) (by omega)
    have hv25 := congrArg Int32.toInt ev25
    intro v27 ev27
    intro v28 ev28
    refine And.intro (fun c29 => ?_) (fun c29 => ?_)
    · skip
      have c29 := mt (fa_eq _ _).mpr c29
      intro v30 ev30
      have hv30 := congrArg Int32.toInt ev30
      intro v32 ev32
      have hv32 := congrArg Int32.toInt ev32
      refine t_X3_within (by omega) h_tr_fruits (fun r34 h_r34 => ?_)
      intro v35 ev35
      have hv35 := congrArg Int32.toInt ev35
      intro v36 ev36
      intro v37 ev37
      refine t_X3_ripeBy h_no_today h_tr_fruits (fun r38 h_r38 => ?_)
      intro v39 ev39
      have f40 := ti_andr ((v35 - 1) &&& (v37 ^^^ (-1))) r38 (by omega)
      have f42 : Int32.toInt (v35 - 1) = Int32.toInt v35 - Int32.toInt (1 : Int32) := ta_sub _ _ (by omega)
      have f43 := ti_andl (v35 - 1) (v37 ^^^ (-1)) (by omega)
      have f44 := ti_andl ((v35 - 1) &&& (v37 ^^^ (-1))) r38 (by omega)
      have hv39 := congrArg Int32.toInt ev39
      have f46 : Int32.toInt (v25 - 1) = Int32.toInt v25 - Int32.toInt (1 : Int32) := ta_sub _ _ (by omega)
      have f47 := ti_andl (v25 - 1) (v28 ^^^ (-1)) (by omega)
      have f48 := ti_andr v39 r34 (by omega)
      have f49 := ti_andl v39 r34 (by omega)
      exact ⟨18, tb_X9_harm_35 bZ wD gF pE qA nJ nY dQ jC eO eW dO fJ fY jD h_tr_fruits h_no_ladder h_no_today hpost _ ((v25 - 1) &&& (v28 ^^^ (-1))) (v39 &&& r34) 0 0 qF jJ (by omega) (by omega) (by omega) (by omega) h_ro_size (by omega)⟩
    · skip
      have c29 := (fa_eq _ _).mp c29
      exfalso; omega
  · skip
    have c24 := (fa_eq _ _).mp c24
    exact hpost _ _ _ (by omega) h_ro_size
set_option maxHeartbeats 8000000 in
set_option maxRecDepth 200000 in
theorem ts_X5_loadFirsts_93 {post : (Nat → Int32) → (Nat → Int32) → (Nat → Int32) → Prop} {K7 : Int32 → Int32 → Int32 → (Nat → Int32) → (Nat → Int32) → (Nat → Int32) → Prop} {K50 : Int32 → Int32 → Int32 → Int32 → Int32 → (Nat → Int32) → (Nat → Int32) → (Nat → Int32) → Prop} {n7 n50 : Int} (oX : Int32) (rX : Nat → Int32) (bZ bD : Int32) (wD gF pE nJ nY : Nat → Int32) (dO pG : Int32) (oF : Nat → Int32) (h_pl_wanted : 0 ≤ Int32.toInt oX ∧ Int32.toInt oX ≤ 65535) (h_pl_near : ∀ k : Nat, 0 ≤ Int32.toInt (rX k) ∧ Int32.toInt (rX k) ≤ 65535) (h_tr_fruits : 0 ≤ Int32.toInt bZ ∧ Int32.toInt bZ ≤ 16) (h_tr_standings : 0 ≤ Int32.toInt bD ∧ Int32.toInt bD ≤ 8) (h_ru_length : 0 ≤ Int32.toInt pG ∧ Int32.toInt pG ≤ 40) (hpost : ∀ (pl_load' : Nat → Int32) (ru_given' : Nat → Int32) (ru_stack' : Nat → Int32), post pl_load' ru_given' ru_stack') (hK7 : ∀ (x1 : Int32) (x2 : Int32) (x3 : Int32) (vV : Nat → Int32) (qO : Nat → Int32) (qQ : Nat → Int32), (0 ≤ Int32.toInt x1 ∧ Int32.toInt x1 ≤ 255) → (0 ≤ Int32.toInt x2 ∧ Int32.toInt x2 ≤ 65535) → (0 ≤ Int32.toInt x3 ∧ Int32.toInt x3 ≤ 8) → (8 - Int32.toInt x3 < n7) → K7 x1 x2 x3 vV qO qQ) (hK50 : ∀ (x1 : Int32) (x2 : Int32) (x3 : Int32) (x4 : Int32) (x5 : Int32) (vV : Nat → Int32) (qO : Nat → Int32) (qQ : Nat → Int32), (0 ≤ Int32.toInt x1 ∧ Int32.toInt x1 ≤ 255) → (0 ≤ Int32.toInt x2 ∧ Int32.toInt x2 ≤ 65535) → (0 ≤ Int32.toInt x3 ∧ Int32.toInt x3 ≤ 7) → (0 ≤ Int32.toInt x4 ∧ Int32.toInt x4 ≤ 65535) → (0 ≤ Int32.toInt x5 ∧ Int32.toInt x5 ≤ 16) → (8 - Int32.toInt x3 ≤ n7) → (16 - Int32.toInt x5 < n50) → K50 x1 x2 x3 x4 x5 vV qO qQ) (x1 x2 x3 x4 x5 : Int32) (vV qO qQ : Nat → Int32) (h_x1 : 0 ≤ Int32.toInt x1 ∧ Int32.toInt x1 ≤ 255) (h_x2 : 0 ≤ Int32.toInt x2 ∧ Int32.toInt x2 ≤ 65535) (h_x3 : 0 ≤ Int32.toInt x3 ∧ Int32.toInt x3 ≤ 7) (h_x4 : 0 ≤ Int32.toInt x4 ∧ Int32.toInt x4 ≤ 65535) (h_x5 : 0 ≤ Int32.toInt x5 ∧ Int32.toInt x5 ≤ 15) (hn7 : 8 - Int32.toInt x3 ≤ n7) (hn50 : 16 - Int32.toInt x5 ≤ n50) : ws_X5_loadFirsts_93 post K7 K50 oX rX bZ bD wD gF pE nJ nY dO pG oF x1 x2 x3 x4 x5 vV qO qQ := by
  have l0 := li_1
  intro v1 ev1
  have f2 : Int32.toInt (x5 + 1) = Int32.toInt x5 + Int32.toInt (1 : Int32) := ta_add _ _ (by omega)
  rw [← ev1] at f2
  exact hK50 x1 x2 x3 x4 v1 vV qO qQ h_x1 h_x2 h_x3 h_x4 (by omega) hn7 (by omega)
set_option maxHeartbeats 8000000 in
set_option maxRecDepth 200000 in
theorem ts_X5_loadFirsts_50 {post : (Nat → Int32) → (Nat → Int32) → (Nat → Int32) → Prop} {K7 : Int32 → Int32 → Int32 → (Nat → Int32) → (Nat → Int32) → (Nat → Int32) → Prop} {next : Int32 → Int32 → Int32 → Int32 → Int32 → (Nat → Int32) → (Nat → Int32) → (Nat → Int32) → Prop} {n50 n7 : Int} (oX : Int32) (rX : Nat → Int32) (bZ bD : Int32) (wD gF pE nJ nY : Nat → Int32) (dO pG : Int32) (oF : Nat → Int32) (h_pl_wanted : 0 ≤ Int32.toInt oX ∧ Int32.toInt oX ≤ 65535) (h_pl_near : ∀ k : Nat, 0 ≤ Int32.toInt (rX k) ∧ Int32.toInt (rX k) ≤ 65535) (h_tr_fruits : 0 ≤ Int32.toInt bZ ∧ Int32.toInt bZ ≤ 16) (h_tr_standings : 0 ≤ Int32.toInt bD ∧ Int32.toInt bD ≤ 8) (h_ru_length : 0 ≤ Int32.toInt pG ∧ Int32.toInt pG ≤ 40) (hpost : ∀ (pl_load' : Nat → Int32) (ru_given' : Nat → Int32) (ru_stack' : Nat → Int32), post pl_load' ru_given' ru_stack') (hK7 : ∀ (x1 : Int32) (x2 : Int32) (x3 : Int32) (vV : Nat → Int32) (qO : Nat → Int32) (qQ : Nat → Int32), (0 ≤ Int32.toInt x1 ∧ Int32.toInt x1 ≤ 255) → (0 ≤ Int32.toInt x2 ∧ Int32.toInt x2 ≤ 65535) → (0 ≤ Int32.toInt x3 ∧ Int32.toInt x3 ≤ 8) → (8 - Int32.toInt x3 < n7) → K7 x1 x2 x3 vV qO qQ) (hKn : ∀ (x1 : Int32) (x2 : Int32) (x3 : Int32) (x4 : Int32) (x5 : Int32) (vV : Nat → Int32) (qO : Nat → Int32) (qQ : Nat → Int32), (0 ≤ Int32.toInt x1 ∧ Int32.toInt x1 ≤ 255) → (0 ≤ Int32.toInt x2 ∧ Int32.toInt x2 ≤ 65535) → (0 ≤ Int32.toInt x3 ∧ Int32.toInt x3 ≤ 7) → (0 ≤ Int32.toInt x4 ∧ Int32.toInt x4 ≤ 65535) → (0 ≤ Int32.toInt x5 ∧ Int32.toInt x5 ≤ 16) → (8 - Int32.toInt x3 ≤ n7) → (16 - Int32.toInt x5 < n50) → next x1 x2 x3 x4 x5 vV qO qQ) (x1 x2 x3 x4 x5 : Int32) (vV qO qQ : Nat → Int32) (h_x1 : 0 ≤ Int32.toInt x1 ∧ Int32.toInt x1 ≤ 255) (h_x2 : 0 ≤ Int32.toInt x2 ∧ Int32.toInt x2 ≤ 65535) (h_x3 : 0 ≤ Int32.toInt x3 ∧ Int32.toInt x3 ≤ 7) (h_x4 : 0 ≤ Int32.toInt x4 ∧ Int32.toInt x4 ≤ 65535) (h_x5 : 0 ≤ Int32.toInt x5 ∧ Int32.toInt x5 ≤ 16) (hn7 : 8 - Int32.toInt x3 ≤ n7) (hn50 : 16 - Int32.toInt x5 ≤ n50) : ws_X5_loadFirsts_50 post K7 next oX rX bZ bD wD gF pE nJ nY dO pG oF x1 x2 x3 x4 x5 vV qO qQ := by
  have l0 := li_0
  have l1 := li_1
  refine And.intro (fun c3 => ?_) (fun c3 => ?_)
  · skip
    have c3 := (fa_le _ _).mp c3
    intro v4 ev4
    have f6 := ti_andl x2 (x4 ^^^ (-1)) (by omega)
    have hv4 := congrArg Int32.toInt ev4
    intro v7 ev7
    have f8 : Int32.toInt (x3 + 1) = Int32.toInt x3 + Int32.toInt (1 : Int32) := ta_add _ _ (by omega)
    rw [← ev7] at f8
    exact hK7 x1 v4 v7 vV qO qQ h_x1 (by omega) (by omega) (by omega)
  · skip
    have c3 := mt (fa_le _ _).mpr c3
    intro v9 ev9
    have f10 := ti_shr x4 x5 (by omega)
    have hv9 := congrArg Int32.toInt ev9
    have f12 := ti_andr v9 1 (by omega)
    have f13 := ti_andl v9 1 (by omega)
    refine And.intro (fun c11 => ?_) (fun c11 => ?_)
    · skip
      have c11 := (fa_eq _ _).mp c11
      exact ts_X5_loadFirsts_93 oX rX bZ bD wD gF pE nJ nY dO pG oF h_pl_wanted h_pl_near h_tr_fruits h_tr_standings h_ru_length hpost hK7 hKn x1 x2 x3 x4 x5 vV qO qQ h_x1 h_x2 h_x3 h_x4 (by omega) hn7 hn50
    · skip
      have c11 := mt (fa_eq _ _).mpr c11
      refine And.intro (t_in (by omega)) ?_
      intro v14 ev14
      have hv14 := congrArg Int32.toInt ev14
      refine t_X0_pickSeconds (by omega) h_x3 (by omega) h_tr_fruits h_ru_length (fun r18 ru_given_16 ru_stack_17 h_r18 => ?_)
      intro v19 ev19
      have hv19 := congrArg Int32.toInt ev19
      refine And.intro (t_in (by omega)) ?_
      exact ts_X5_loadFirsts_93 oX rX bZ bD wD gF pE nJ nY dO pG oF h_pl_wanted h_pl_near h_tr_fruits h_tr_standings h_ru_length hpost hK7 hKn x1 x2 x3 x4 x5 (upd vV x3.toNatClampNeg v19) ru_given_16 ru_stack_17 h_x1 h_x2 h_x3 h_x4 (by omega) hn7 hn50
set_option maxHeartbeats 8000000 in
set_option maxRecDepth 200000 in
theorem tb_X5_loadFirsts_50 {post : (Nat → Int32) → (Nat → Int32) → (Nat → Int32) → Prop} {K7 : Int32 → Int32 → Int32 → (Nat → Int32) → (Nat → Int32) → (Nat → Int32) → Prop} {n7 : Int} (oX : Int32) (rX : Nat → Int32) (bZ bD : Int32) (wD gF pE nJ nY : Nat → Int32) (dO pG : Int32) (oF : Nat → Int32) (h_pl_wanted : 0 ≤ Int32.toInt oX ∧ Int32.toInt oX ≤ 65535) (h_pl_near : ∀ k : Nat, 0 ≤ Int32.toInt (rX k) ∧ Int32.toInt (rX k) ≤ 65535) (h_tr_fruits : 0 ≤ Int32.toInt bZ ∧ Int32.toInt bZ ≤ 16) (h_tr_standings : 0 ≤ Int32.toInt bD ∧ Int32.toInt bD ≤ 8) (h_ru_length : 0 ≤ Int32.toInt pG ∧ Int32.toInt pG ≤ 40) (hpost : ∀ (pl_load' : Nat → Int32) (ru_given' : Nat → Int32) (ru_stack' : Nat → Int32), post pl_load' ru_given' ru_stack') (hK7 : ∀ (x1 : Int32) (x2 : Int32) (x3 : Int32) (vV : Nat → Int32) (qO : Nat → Int32) (qQ : Nat → Int32), (0 ≤ Int32.toInt x1 ∧ Int32.toInt x1 ≤ 255) → (0 ≤ Int32.toInt x2 ∧ Int32.toInt x2 ≤ 65535) → (0 ≤ Int32.toInt x3 ∧ Int32.toInt x3 ≤ 8) → (8 - Int32.toInt x3 < n7) → K7 x1 x2 x3 vV qO qQ) : ∀ (n : Nat) (x1 x2 x3 x4 x5 : Int32) (vV qO qQ : Nat → Int32), (0 ≤ Int32.toInt x1 ∧ Int32.toInt x1 ≤ 255) → (0 ≤ Int32.toInt x2 ∧ Int32.toInt x2 ≤ 65535) → (0 ≤ Int32.toInt x3 ∧ Int32.toInt x3 ≤ 7) → (0 ≤ Int32.toInt x4 ∧ Int32.toInt x4 ≤ 65535) → (0 ≤ Int32.toInt x5 ∧ Int32.toInt x5 ≤ 16) → (8 - Int32.toInt x3 ≤ n7) → (16 - Int32.toInt x5 < (n : Int)) → wb_X5_loadFirsts_50 post K7 oX rX bZ bD wD gF pE nJ nY dO pG oF n x1 x2 x3 x4 x5 vV qO qQ := by
  intro n
  induction n with
  | zero =>
    intro x1 x2 x3 x4 x5 vV qO qQ h_x1 h_x2 h_x3 h_x4 h_x5 hn7 hm
    exfalso; omega
  | succ n ih =>
    intro x1 x2 x3 x4 x5 vV qO qQ h_x1 h_x2 h_x3 h_x4 h_x5 hn7 hm
    exact ts_X5_loadFirsts_50 oX rX bZ bD wD gF pE nJ nY dO pG oF h_pl_wanted h_pl_near h_tr_fruits h_tr_standings h_ru_length hpost hK7 ih x1 x2 x3 x4 x5 vV qO qQ h_x1 h_x2 h_x3 h_x4 h_x5 hn7 (by omega)
set_option maxHeartbeats 8000000 in
set_option maxRecDepth 200000 in
theorem ts_X5_loadFirsts_45 {post : (Nat → Int32) → (Nat → Int32) → (Nat → Int32) → Prop} {K7 : Int32 → Int32 → Int32 → (Nat → Int32) → (Nat → Int32) → (Nat → Int32) → Prop} {n7 : Int} (oX : Int32) (rX : Nat → Int32) (bZ bD : Int32) (wD gF pE nJ nY : Nat → Int32) (dO pG : Int32) (oF : Nat → Int32) (h_pl_wanted : 0 ≤ Int32.toInt oX ∧ Int32.toInt oX ≤ 65535) (h_pl_near : ∀ k : Nat, 0 ≤ Int32.toInt (rX k) ∧ Int32.toInt (rX k) ≤ 65535) (h_tr_fruits : 0 ≤ Int32.toInt bZ ∧ Int32.toInt bZ ≤ 16) (h_tr_standings : 0 ≤ Int32.toInt bD ∧ Int32.toInt bD ≤ 8) (h_ru_length : 0 ≤ Int32.toInt pG ∧ Int32.toInt pG ≤ 40) (hpost : ∀ (pl_load' : Nat → Int32) (ru_given' : Nat → Int32) (ru_stack' : Nat → Int32), post pl_load' ru_given' ru_stack') (hK7 : ∀ (x1 : Int32) (x2 : Int32) (x3 : Int32) (vV : Nat → Int32) (qO : Nat → Int32) (qQ : Nat → Int32), (0 ≤ Int32.toInt x1 ∧ Int32.toInt x1 ≤ 255) → (0 ≤ Int32.toInt x2 ∧ Int32.toInt x2 ≤ 65535) → (0 ≤ Int32.toInt x3 ∧ Int32.toInt x3 ≤ 8) → (8 - Int32.toInt x3 < n7) → K7 x1 x2 x3 vV qO qQ) (x1 x2 x3 k0 : Int32) (vV qO qQ : Nat → Int32) (h_x1 : 0 ≤ Int32.toInt x1 ∧ Int32.toInt x1 ≤ 255) (h_x2 : 0 ≤ Int32.toInt x2 ∧ Int32.toInt x2 ≤ 65535) (h_x3 : 0 ≤ Int32.toInt x3 ∧ Int32.toInt x3 ≤ 7) (h_k0 : 0 ≤ Int32.toInt k0 ∧ Int32.toInt k0 ≤ 65535) (hn7 : 8 - Int32.toInt x3 ≤ n7) : ws_X5_loadFirsts_45 post K7 oX rX bZ bD wD gF pE nJ nY dO pG oF x1 x2 x3 k0 vV qO qQ := by
  have l0 := li_0
  exact ⟨18, tb_X5_loadFirsts_50 oX rX bZ bD wD gF pE nJ nY dO pG oF h_pl_wanted h_pl_near h_tr_fruits h_tr_standings h_ru_length hpost hK7 _ x1 x2 x3 k0 0 vV qO qQ h_x1 h_x2 h_x3 h_k0 (by omega) hn7 (by omega)⟩
set_option maxHeartbeats 8000000 in
set_option maxRecDepth 200000 in
theorem ts_X5_loadFirsts_7 {post : (Nat → Int32) → (Nat → Int32) → (Nat → Int32) → Prop} {next : Int32 → Int32 → Int32 → (Nat → Int32) → (Nat → Int32) → (Nat → Int32) → Prop} {n7 : Int} (oX : Int32) (rX : Nat → Int32) (bZ bD : Int32) (wD gF pE nJ nY : Nat → Int32) (dO pG : Int32) (oF : Nat → Int32) (h_pl_wanted : 0 ≤ Int32.toInt oX ∧ Int32.toInt oX ≤ 65535) (h_pl_near : ∀ k : Nat, 0 ≤ Int32.toInt (rX k) ∧ Int32.toInt (rX k) ≤ 65535) (h_tr_fruits : 0 ≤ Int32.toInt bZ ∧ Int32.toInt bZ ≤ 16) (h_tr_standings : 0 ≤ Int32.toInt bD ∧ Int32.toInt bD ≤ 8) (h_ru_length : 0 ≤ Int32.toInt pG ∧ Int32.toInt pG ≤ 40) (hpost : ∀ (pl_load' : Nat → Int32) (ru_given' : Nat → Int32) (ru_stack' : Nat → Int32), post pl_load' ru_given' ru_stack') (hKn : ∀ (x1 : Int32) (x2 : Int32) (x3 : Int32) (vV : Nat → Int32) (qO : Nat → Int32) (qQ : Nat → Int32), (0 ≤ Int32.toInt x1 ∧ Int32.toInt x1 ≤ 255) → (0 ≤ Int32.toInt x2 ∧ Int32.toInt x2 ≤ 65535) → (0 ≤ Int32.toInt x3 ∧ Int32.toInt x3 ≤ 8) → (8 - Int32.toInt x3 < n7) → next x1 x2 x3 vV qO qQ) (x1 x2 x3 : Int32) (vV qO qQ : Nat → Int32) (h_x1 : 0 ≤ Int32.toInt x1 ∧ Int32.toInt x1 ≤ 255) (h_x2 : 0 ≤ Int32.toInt x2 ∧ Int32.toInt x2 ≤ 65535) (h_x3 : 0 ≤ Int32.toInt x3 ∧ Int32.toInt x3 ≤ 8) (hn7 : 8 - Int32.toInt x3 ≤ n7) : ws_X5_loadFirsts_7 post next oX rX bZ bD wD gF pE nJ nY dO pG oF x1 x2 x3 vV qO qQ := by
  have l0 := li_0
  have l1 := li_1
  refine And.intro (fun c21 => ?_) (fun c21 => ?_)
  · skip
    have c21 := (fa_le _ _).mp c21
    exact hpost _ _ _ 
  · skip
    have c21 := mt (fa_le _ _).mpr c21
    refine And.intro (t_in (by omega)) ?_
    intro v22 ev22
    have f23 := ti_shr x1 x3 (by omega)
    have hv22 := congrArg Int32.toInt ev22
    have f25 := ti_andr v22 1 (by omega)
    have f26 := ti_andl v22 1 (by omega)
    refine And.intro (fun c24 => ?_) (fun c24 => ?_)
    · skip
      have c24 := (fa_eq _ _).mp c24
      exact ts_X5_loadFirsts_45 oX rX bZ bD wD gF pE nJ nY dO pG oF h_pl_wanted h_pl_near h_tr_fruits h_tr_standings h_ru_length hpost hKn x1 x2 x3 0 (upd vV x3.toNatClampNeg 0) qO qQ h_x1 h_x2 (by omega) (by omega) hn7
    · skip
      have c24 := mt (fa_eq _ _).mpr c24
      refine And.intro (t_in (by omega)) ?_
      intro v27 ev27
      have f29 := h_pl_near x3.toNatClampNeg
      have f28 := ti_andr x2 (rX x3.toNatClampNeg) (by omega)
      have f30 := ti_andl x2 (rX x3.toNatClampNeg) (by omega)
      have hv27 := congrArg Int32.toInt ev27
      exact ts_X5_loadFirsts_45 oX rX bZ bD wD gF pE nJ nY dO pG oF h_pl_wanted h_pl_near h_tr_fruits h_tr_standings h_ru_length hpost hKn x1 x2 x3 v27 (upd vV x3.toNatClampNeg 0) qO qQ h_x1 h_x2 (by omega) (by omega) hn7
set_option maxHeartbeats 8000000 in
set_option maxRecDepth 200000 in
theorem tb_X5_loadFirsts_7 {post : (Nat → Int32) → (Nat → Int32) → (Nat → Int32) → Prop} (oX : Int32) (rX : Nat → Int32) (bZ bD : Int32) (wD gF pE nJ nY : Nat → Int32) (dO pG : Int32) (oF : Nat → Int32) (h_pl_wanted : 0 ≤ Int32.toInt oX ∧ Int32.toInt oX ≤ 65535) (h_pl_near : ∀ k : Nat, 0 ≤ Int32.toInt (rX k) ∧ Int32.toInt (rX k) ≤ 65535) (h_tr_fruits : 0 ≤ Int32.toInt bZ ∧ Int32.toInt bZ ≤ 16) (h_tr_standings : 0 ≤ Int32.toInt bD ∧ Int32.toInt bD ≤ 8) (h_ru_length : 0 ≤ Int32.toInt pG ∧ Int32.toInt pG ≤ 40) (hpost : ∀ (pl_load' : Nat → Int32) (ru_given' : Nat → Int32) (ru_stack' : Nat → Int32), post pl_load' ru_given' ru_stack') : ∀ (n : Nat) (x1 x2 x3 : Int32) (vV qO qQ : Nat → Int32), (0 ≤ Int32.toInt x1 ∧ Int32.toInt x1 ≤ 255) → (0 ≤ Int32.toInt x2 ∧ Int32.toInt x2 ≤ 65535) → (0 ≤ Int32.toInt x3 ∧ Int32.toInt x3 ≤ 8) → (8 - Int32.toInt x3 < (n : Int)) → wb_X5_loadFirsts_7 post oX rX bZ bD wD gF pE nJ nY dO pG oF n x1 x2 x3 vV qO qQ := by
  intro n
  induction n with
  | zero =>
    intro x1 x2 x3 vV qO qQ h_x1 h_x2 h_x3 hm
    exfalso; omega
  | succ n ih =>
    intro x1 x2 x3 vV qO qQ h_x1 h_x2 h_x3 hm
    exact ts_X5_loadFirsts_7 oX rX bZ bD wD gF pE nJ nY dO pG oF h_pl_wanted h_pl_near h_tr_fruits h_tr_standings h_ru_length hpost ih x1 x2 x3 vV qO qQ h_x1 h_x2 h_x3 (by omega)
set_option maxHeartbeats 8000000 in
set_option maxRecDepth 200000 in
theorem t_X5_loadFirsts {post : (Nat → Int32) → (Nat → Int32) → (Nat → Int32) → Prop} {p0 oX : Int32} {rX vV : Nat → Int32} {bZ bD : Int32} {wD gF pE nJ nY : Nat → Int32} {dO pG : Int32} {qO qQ oF : Nat → Int32} (h_p0 : 0 ≤ Int32.toInt p0 ∧ Int32.toInt p0 ≤ 255) (h_pl_wanted : 0 ≤ Int32.toInt oX ∧ Int32.toInt oX ≤ 65535) (h_pl_near : ∀ k : Nat, 0 ≤ Int32.toInt (rX k) ∧ Int32.toInt (rX k) ≤ 65535) (h_tr_fruits : 0 ≤ Int32.toInt bZ ∧ Int32.toInt bZ ≤ 16) (h_tr_standings : 0 ≤ Int32.toInt bD ∧ Int32.toInt bD ≤ 8) (h_ru_length : 0 ≤ Int32.toInt pG ∧ Int32.toInt pG ≤ 40) (hpost : ∀ (pl_load' : Nat → Int32) (ru_given' : Nat → Int32) (ru_stack' : Nat → Int32), post pl_load' ru_given' ru_stack') : wp_X5_loadFirsts post p0 oX rX vV bZ bD wD gF pE nJ nY dO pG qO qQ oF := by
  have l0 := li_0
  exact ⟨10, tb_X5_loadFirsts_7 oX rX bZ bD wD gF pE nJ nY dO pG oF h_pl_wanted h_pl_near h_tr_fruits h_tr_standings h_ru_length hpost _ p0 oX 0 vV qO qQ h_p0 h_pl_wanted (by omega) (by omega)⟩
set_option maxHeartbeats 8000000 in
set_option maxRecDepth 200000 in
theorem ts_X5_loadOf_32 {post : Int32 → Prop} {K4 : Int32 → Int32 → Int32 → Prop} {n4 : Int} (vV : Nat → Int32) (bD : Int32) (h_tr_standings : 0 ≤ Int32.toInt bD ∧ Int32.toInt bD ≤ 8) (hpost : ∀ (r : Int32) , post r) (hK4 : ∀ (x1 : Int32) (x2 : Int32) (x3 : Int32), (0 ≤ Int32.toInt x1 ∧ Int32.toInt x1 ≤ 255) → (0 ≤ Int32.toInt x3 ∧ Int32.toInt x3 ≤ 8) → (8 - Int32.toInt x3 < n4) → K4 x1 x2 x3) (x1 x2 x3 : Int32) (h_x1 : 0 ≤ Int32.toInt x1 ∧ Int32.toInt x1 ≤ 255) (h_x3 : 0 ≤ Int32.toInt x3 ∧ Int32.toInt x3 ≤ 7) (hn4 : 8 - Int32.toInt x3 ≤ n4) : ws_X5_loadOf_32 post K4 vV bD x1 x2 x3 := by
  have l0 := li_1
  intro v1 ev1
  have f2 : Int32.toInt (x3 + 1) = Int32.toInt x3 + Int32.toInt (1 : Int32) := ta_add _ _ (by omega)
  rw [← ev1] at f2
  have f3 := tp_r x2
  exact hK4 x1 x2 v1 h_x1 (by omega) (by omega)
set_option maxHeartbeats 8000000 in
set_option maxRecDepth 200000 in
theorem ts_X5_loadOf_4 {post : Int32 → Prop} {next : Int32 → Int32 → Int32 → Prop} {n4 : Int} (vV : Nat → Int32) (bD : Int32) (h_tr_standings : 0 ≤ Int32.toInt bD ∧ Int32.toInt bD ≤ 8) (hpost : ∀ (r : Int32) , post r) (hKn : ∀ (x1 : Int32) (x2 : Int32) (x3 : Int32), (0 ≤ Int32.toInt x1 ∧ Int32.toInt x1 ≤ 255) → (0 ≤ Int32.toInt x3 ∧ Int32.toInt x3 ≤ 8) → (8 - Int32.toInt x3 < n4) → next x1 x2 x3) (x1 x2 x3 : Int32) (h_x1 : 0 ≤ Int32.toInt x1 ∧ Int32.toInt x1 ≤ 255) (h_x3 : 0 ≤ Int32.toInt x3 ∧ Int32.toInt x3 ≤ 8) (hn4 : 8 - Int32.toInt x3 ≤ n4) : ws_X5_loadOf_4 post next vV bD x1 x2 x3 := by
  have l0 := li_0
  have l1 := li_1
  refine And.intro (fun c4 => ?_) (fun c4 => ?_)
  · skip
    have c4 := (fa_le _ _).mp c4
    exact hpost _ 
  · skip
    have c4 := mt (fa_le _ _).mpr c4
    intro v5 ev5
    have f6 := ti_shr x1 x3 (by omega)
    have hv5 := congrArg Int32.toInt ev5
    have f8 := ti_andr v5 1 (by omega)
    have f9 := ti_andl v5 1 (by omega)
    refine And.intro (fun c7 => ?_) (fun c7 => ?_)
    · skip
      have c7 := (fa_eq _ _).mp c7
      have f10 := tp_r x2
      exact ts_X5_loadOf_32 vV bD h_tr_standings hpost hKn x1 x2 x3 h_x1 (by omega) hn4
    · skip
      have c7 := mt (fa_eq _ _).mpr c7
      refine And.intro (t_in (by omega)) ?_
      intro v11 ev11
      have hv11 := congrArg Int32.toInt ev11
      have f13 := tp_r v11
      exact ts_X5_loadOf_32 vV bD h_tr_standings hpost hKn x1 v11 x3 h_x1 (by omega) hn4
set_option maxHeartbeats 8000000 in
set_option maxRecDepth 200000 in
theorem tb_X5_loadOf_4 {post : Int32 → Prop} (vV : Nat → Int32) (bD : Int32) (h_tr_standings : 0 ≤ Int32.toInt bD ∧ Int32.toInt bD ≤ 8) (hpost : ∀ (r : Int32) , post r) : ∀ (n : Nat) (x1 x2 x3 : Int32), (0 ≤ Int32.toInt x1 ∧ Int32.toInt x1 ≤ 255) → (0 ≤ Int32.toInt x3 ∧ Int32.toInt x3 ≤ 8) → (8 - Int32.toInt x3 < (n : Int)) → wb_X5_loadOf_4 post vV bD n x1 x2 x3 := by
  intro n
  induction n with
  | zero =>
    intro x1 x2 x3 h_x1 h_x3 hm
    exfalso; omega
  | succ n ih =>
    intro x1 x2 x3 h_x1 h_x3 hm
    exact ts_X5_loadOf_4 vV bD h_tr_standings hpost ih x1 x2 x3 h_x1 h_x3 (by omega)
set_option maxHeartbeats 8000000 in
set_option maxRecDepth 200000 in
theorem t_X5_loadOf {post : Int32 → Prop} {p0 : Int32} {vV : Nat → Int32} {bD : Int32} (h_p0 : 0 ≤ Int32.toInt p0 ∧ Int32.toInt p0 ≤ 255) (h_tr_standings : 0 ≤ Int32.toInt bD ∧ Int32.toInt bD ≤ 8) (hpost : ∀ (r : Int32) , post r) : wp_X5_loadOf post p0 vV bD := by
  have l0 := li_0
  exact ⟨10, tb_X5_loadOf_4 vV bD h_tr_standings hpost _ p0 0 0 h_p0 (by omega) (by omega)⟩
set_option maxHeartbeats 8000000 in
set_option maxRecDepth 200000 in
theorem ts_X9_share_96 {post : Int32 → Int32 → (Nat → Int32) → (Nat → Int32) → (Nat → Int32) → (Nat → Int32) → Int32 → (Nat → Int32) → Prop} {K45 : Int32 → Int32 → Int32 → Int32 → Int32 → Int32 → (Nat → Int32) → (Nat → Int32) → (Nat → Int32) → (Nat → Int32) → Int32 → (Nat → Int32) → Prop} {n45 : Int} (bZ bD : Int32) (wD gF pE qA nJ nY dQ : Nat → Int32) (jC eO eW dO fY jD pG : Int32) (oF : Nat → Int32) (h_tr_fruits : 0 ≤ Int32.toInt bZ ∧ Int32.toInt bZ ≤ 16) (h_tr_standings : 0 ≤ Int32.toInt bD ∧ Int32.toInt bD ≤ 8) (h_no_today : 0 ≤ Int32.toInt jD ∧ Int32.toInt jD ≤ 9) (h_ru_length : 0 ≤ Int32.toInt pG ∧ Int32.toInt pG ≤ 40) (hpost : ∀ (r : Int32) (pl_wanted' : Int32) (pl_near' : Nat → Int32) (pl_load' : Nat → Int32) (ru_given' : Nat → Int32) (ru_stack' : Nat → Int32) (ro_size' : Int32) (ro_numbers' : Nat → Int32), (0 ≤ Int32.toInt pl_wanted' ∧ Int32.toInt pl_wanted' ≤ 65535) → (∀ k : Nat, 0 ≤ Int32.toInt (pl_near' k) ∧ Int32.toInt (pl_near' k) ≤ 65535) → (0 ≤ Int32.toInt ro_size' ∧ Int32.toInt ro_size' ≤ 16) → post r pl_wanted' pl_near' pl_load' ru_given' ru_stack' ro_size' ro_numbers') (hK45 : ∀ (x1 : Int32) (x2 : Int32) (x3 : Int32) (x4 : Int32) (x5 : Int32) (oX : Int32) (rX : Nat → Int32) (vV : Nat → Int32) (qO : Nat → Int32) (qQ : Nat → Int32) (qF : Int32) (jJ : Nat → Int32), (0 ≤ Int32.toInt x1 ∧ Int32.toInt x1 ≤ 255) → (0 ≤ Int32.toInt x3 ∧ Int32.toInt x3 ≤ 255) → (1 ≤ Int32.toInt x5 ∧ Int32.toInt x5 ≤ 256) → (0 ≤ Int32.toInt oX ∧ Int32.toInt oX ≤ 65535) → (∀ k : Nat, 0 ≤ Int32.toInt (rX k) ∧ Int32.toInt (rX k) ≤ 65535) → (0 ≤ Int32.toInt qF ∧ Int32.toInt qF ≤ 16) → (256 - Int32.toInt x5 < n45) → K45 x1 x2 x3 x4 x5 oX rX vV qO qQ qF jJ) (x1 x2 x3 x4 x5 oX : Int32) (rX vV qO qQ : Nat → Int32) (qF : Int32) (jJ : Nat → Int32) (h_x1 : 1 ≤ Int32.toInt x1 ∧ Int32.toInt x1 ≤ 255) (h_x3 : 0 ≤ Int32.toInt x3 ∧ Int32.toInt x3 ≤ 255) (h_x5 : 1 ≤ Int32.toInt x5 ∧ Int32.toInt x5 ≤ 255) (h_pl_wanted : 0 ≤ Int32.toInt oX ∧ Int32.toInt oX ≤ 65535) (h_pl_near : ∀ k : Nat, 0 ≤ Int32.toInt (rX k) ∧ Int32.toInt (rX k) ≤ 65535) (h_ro_size : 0 ≤ Int32.toInt qF ∧ Int32.toInt qF ≤ 16) (hn45 : 256 - Int32.toInt x5 ≤ n45) : ws_X9_share_96 post K45 bZ bD wD gF pE qA nJ nY dQ jC eO eW dO fY jD pG oF x1 x2 x3 x4 x5 oX rX vV qO qQ qF jJ := by
  have l0 := li_1
  intro v1 ev1
  have f2 : Int32.toInt (x5 + 1) = Int32.toInt x5 + Int32.toInt (1 : Int32) := ta_add _ _ (by omega)
  rw [← ev1] at f2
  have f3 := tp_r x2
  have f4 := tp_r x4
  exact hK45 x1 x2 x3 x4 v1 oX rX vV qO qQ qF jJ (by omega) h_x3 (by omega) h_pl_wanted h_pl_near h_ro_size (by omega)
set_option maxHeartbeats 8000000 in
set_option maxRecDepth 200000 in
theorem ts_X9_share_45 {post : Int32 → Int32 → (Nat → Int32) → (Nat → Int32) → (Nat → Int32) → (Nat → Int32) → Int32 → (Nat → Int32) → Prop} {next : Int32 → Int32 → Int32 → Int32 → Int32 → Int32 → (Nat → Int32) → (Nat → Int32) → (Nat → Int32) → (Nat → Int32) → Int32 → (Nat → Int32) → Prop} {n45 : Int} (bZ bD : Int32) (wD gF pE qA nJ nY dQ : Nat → Int32) (jC eO eW dO fY jD pG : Int32) (oF : Nat → Int32) (h_tr_fruits : 0 ≤ Int32.toInt bZ ∧ Int32.toInt bZ ≤ 16) (h_tr_standings : 0 ≤ Int32.toInt bD ∧ Int32.toInt bD ≤ 8) (h_no_today : 0 ≤ Int32.toInt jD ∧ Int32.toInt jD ≤ 9) (h_ru_length : 0 ≤ Int32.toInt pG ∧ Int32.toInt pG ≤ 40) (hpost : ∀ (r : Int32) (pl_wanted' : Int32) (pl_near' : Nat → Int32) (pl_load' : Nat → Int32) (ru_given' : Nat → Int32) (ru_stack' : Nat → Int32) (ro_size' : Int32) (ro_numbers' : Nat → Int32), (0 ≤ Int32.toInt pl_wanted' ∧ Int32.toInt pl_wanted' ≤ 65535) → (∀ k : Nat, 0 ≤ Int32.toInt (pl_near' k) ∧ Int32.toInt (pl_near' k) ≤ 65535) → (0 ≤ Int32.toInt ro_size' ∧ Int32.toInt ro_size' ≤ 16) → post r pl_wanted' pl_near' pl_load' ru_given' ru_stack' ro_size' ro_numbers') (hKn : ∀ (x1 : Int32) (x2 : Int32) (x3 : Int32) (x4 : Int32) (x5 : Int32) (oX : Int32) (rX : Nat → Int32) (vV : Nat → Int32) (qO : Nat → Int32) (qQ : Nat → Int32) (qF : Int32) (jJ : Nat → Int32), (0 ≤ Int32.toInt x1 ∧ Int32.toInt x1 ≤ 255) → (0 ≤ Int32.toInt x3 ∧ Int32.toInt x3 ≤ 255) → (1 ≤ Int32.toInt x5 ∧ Int32.toInt x5 ≤ 256) → (0 ≤ Int32.toInt oX ∧ Int32.toInt oX ≤ 65535) → (∀ k : Nat, 0 ≤ Int32.toInt (rX k) ∧ Int32.toInt (rX k) ≤ 65535) → (0 ≤ Int32.toInt qF ∧ Int32.toInt qF ≤ 16) → (256 - Int32.toInt x5 < n45) → next x1 x2 x3 x4 x5 oX rX vV qO qQ qF jJ) (x1 x2 x3 x4 x5 oX : Int32) (rX vV qO qQ : Nat → Int32) (qF : Int32) (jJ : Nat → Int32) (h_x1 : 0 ≤ Int32.toInt x1 ∧ Int32.toInt x1 ≤ 255) (h_x3 : 0 ≤ Int32.toInt x3 ∧ Int32.toInt x3 ≤ 255) (h_x5 : 1 ≤ Int32.toInt x5 ∧ Int32.toInt x5 ≤ 256) (h_pl_wanted : 0 ≤ Int32.toInt oX ∧ Int32.toInt oX ≤ 65535) (h_pl_near : ∀ k : Nat, 0 ≤ Int32.toInt (rX k) ∧ Int32.toInt (rX k) ≤ 65535) (h_ro_size : 0 ≤ Int32.toInt qF ∧ Int32.toInt qF ≤ 16) (hn45 : 256 - Int32.toInt x5 ≤ n45) : ws_X9_share_45 post next bZ bD wD gF pE qA nJ nY dQ jC eO eW dO fY jD pG oF x1 x2 x3 x4 x5 oX rX vV qO qQ qF jJ := by
  have l0 := li_0
  have l1 := li_1
  have l2 := li_16
  refine And.intro (fun c5 => ?_) (fun c5 => ?_)
  · skip
    have c5 := (fa_lt _ _).mp c5
    refine t_X5_loadOf h_x3 h_tr_standings (fun r6 => ?_)
    intro v7 ev7
    have hv7 := congrArg Int32.toInt ev7
    refine And.intro (fun h9 => absurd h9 (by decide)) (fun _ => ?_)
    refine And.intro (t_in (by omega)) ?_
    intro v9 ev9
    have f10 : Int32.toInt (0 + 1) = Int32.toInt (0 : Int32) + Int32.toInt (1 : Int32) := ta_add _ _ (by omega)
    rw [← ev9] at f10
    refine And.intro (fun c11 => ?_) (fun c11 => ?_)
    · skip
      have c11 := (fa_le _ _).mp c11
      exfalso; omega
    · skip
      have c11 := mt (fa_le _ _).mpr c11
      refine And.intro (t_in (by omega)) ?_
      intro v12 ev12
      have f13 : Int32.toInt (v9 + 1) = Int32.toInt v9 + Int32.toInt (1 : Int32) := ta_add _ _ (by omega)
      rw [← ev12] at f13
      exact hpost _ _ _ _ _ _ _ _ h_pl_wanted h_pl_near (by omega)
  · skip
    have c5 := mt (fa_lt _ _).mpr c5
    have f16 := ti_andl x5 (x1 ^^^ (-1)) (by omega)
    refine And.intro (fun c14 => ?_) (fun c14 => ?_)
    · skip
      have c14 := mt (fa_eq _ _).mpr c14
      have f17 := tp_r x2
      have f18 := tp_r x4
      exact ts_X9_share_96 bZ bD wD gF pE qA nJ nY dQ jC eO eW dO fY jD pG oF h_tr_fruits h_tr_standings h_no_today h_ru_length hpost hKn x1 x2 x3 x4 x5 oX rX vV qO qQ qF jJ (by omega) h_x3 (by omega) h_pl_wanted h_pl_near h_ro_size hn45
    · skip
      have c14Z := c14
      have c14 := (fa_eq _ _).mp c14
      have s19 := ti_subset x5 x1 (c14Z) (by omega)
      refine t_X5_loadOf (by omega) h_tr_standings (fun r20 => ?_)
      intro v21 ev21
      have hv21 := congrArg Int32.toInt ev21
      intro v23 ev23
      have f25 := tp_r r20
      have f26 := tp_r v21
      have f24 := ti_max r20 v21
      have hv23 := congrArg Int32.toInt ev23
      have f28 := tp_r v23
      have f29 := tp_r x4
      refine And.intro (fun c27 => ?_) (fun c27 => ?_)
      · skip
        have c27 := (fa_le _ _).mp c27
        have f30 := tp_r x2
        exact ts_X9_share_96 bZ bD wD gF pE qA nJ nY dQ jC eO eW dO fY jD pG oF h_tr_fruits h_tr_standings h_no_today h_ru_length hpost hKn x1 x2 x3 x4 x5 oX rX vV qO qQ qF jJ (by omega) h_x3 (by omega) h_pl_wanted h_pl_near h_ro_size hn45
      · skip
        have c27 := mt (fa_le _ _).mpr c27
        have f31 := tp_r x2
        exact ts_X9_share_96 bZ bD wD gF pE qA nJ nY dQ jC eO eW dO fY jD pG oF h_tr_fruits h_tr_standings h_no_today h_ru_length hpost hKn x1 x2 x5 v23 x5 oX rX vV qO qQ qF jJ (by omega) (by omega) (by omega) h_pl_wanted h_pl_near h_ro_size hn45
set_option maxHeartbeats 8000000 in
set_option maxRecDepth 200000 in
theorem tb_X9_share_45 {post : Int32 → Int32 → (Nat → Int32) → (Nat → Int32) → (Nat → Int32) → (Nat → Int32) → Int32 → (Nat → Int32) → Prop} (bZ bD : Int32) (wD gF pE qA nJ nY dQ : Nat → Int32) (jC eO eW dO fY jD pG : Int32) (oF : Nat → Int32) (h_tr_fruits : 0 ≤ Int32.toInt bZ ∧ Int32.toInt bZ ≤ 16) (h_tr_standings : 0 ≤ Int32.toInt bD ∧ Int32.toInt bD ≤ 8) (h_no_today : 0 ≤ Int32.toInt jD ∧ Int32.toInt jD ≤ 9) (h_ru_length : 0 ≤ Int32.toInt pG ∧ Int32.toInt pG ≤ 40) (hpost : ∀ (r : Int32) (pl_wanted' : Int32) (pl_near' : Nat → Int32) (pl_load' : Nat → Int32) (ru_given' : Nat → Int32) (ru_stack' : Nat → Int32) (ro_size' : Int32) (ro_numbers' : Nat → Int32), (0 ≤ Int32.toInt pl_wanted' ∧ Int32.toInt pl_wanted' ≤ 65535) → (∀ k : Nat, 0 ≤ Int32.toInt (pl_near' k) ∧ Int32.toInt (pl_near' k) ≤ 65535) → (0 ≤ Int32.toInt ro_size' ∧ Int32.toInt ro_size' ≤ 16) → post r pl_wanted' pl_near' pl_load' ru_given' ru_stack' ro_size' ro_numbers') : ∀ (n : Nat) (x1 x2 x3 x4 x5 oX : Int32) (rX vV qO qQ : Nat → Int32) (qF : Int32) (jJ : Nat → Int32), (0 ≤ Int32.toInt x1 ∧ Int32.toInt x1 ≤ 255) → (0 ≤ Int32.toInt x3 ∧ Int32.toInt x3 ≤ 255) → (1 ≤ Int32.toInt x5 ∧ Int32.toInt x5 ≤ 256) → (0 ≤ Int32.toInt oX ∧ Int32.toInt oX ≤ 65535) → (∀ k : Nat, 0 ≤ Int32.toInt (rX k) ∧ Int32.toInt (rX k) ≤ 65535) → (0 ≤ Int32.toInt qF ∧ Int32.toInt qF ≤ 16) → (256 - Int32.toInt x5 < (n : Int)) → wb_X9_share_45 post bZ bD wD gF pE qA nJ nY dQ jC eO eW dO fY jD pG oF n x1 x2 x3 x4 x5 oX rX vV qO qQ qF jJ := by
  intro n
  induction n with
  | zero =>
    intro x1 x2 x3 x4 x5 oX rX vV qO qQ qF jJ h_x1 h_x3 h_x5 h_pl_wanted h_pl_near h_ro_size hm
    exfalso; omega
  | succ n ih =>
    intro x1 x2 x3 x4 x5 oX rX vV qO qQ qF jJ h_x1 h_x3 h_x5 h_pl_wanted h_pl_near h_ro_size hm
    exact ts_X9_share_45 bZ bD wD gF pE qA nJ nY dQ jC eO eW dO fY jD pG oF h_tr_fruits h_tr_standings h_no_today h_ru_length hpost ih x1 x2 x3 x4 x5 oX rX vV qO qQ qF jJ h_x1 h_x3 h_x5 h_pl_wanted h_pl_near h_ro_size (by omega)
set_option maxHeartbeats 8000000 in
set_option maxRecDepth 200000 in
theorem t_X9_share {post : Int32 → Int32 → (Nat → Int32) → (Nat → Int32) → (Nat → Int32) → (Nat → Int32) → Int32 → (Nat → Int32) → Prop} {p0 oX : Int32} {rX vV : Nat → Int32} {bZ bD : Int32} {wD gF pE qA nJ nY dQ : Nat → Int32} {jC eO eW dO fY jD pG : Int32} {qO qQ oF : Nat → Int32} {qF : Int32} {jJ : Nat → Int32} (h_pl_wanted : 0 ≤ Int32.toInt oX ∧ Int32.toInt oX ≤ 65535) (h_pl_near : ∀ k : Nat, 0 ≤ Int32.toInt (rX k) ∧ Int32.toInt (rX k) ≤ 65535) (h_tr_fruits : 0 ≤ Int32.toInt bZ ∧ Int32.toInt bZ ≤ 16) (h_tr_standings : 0 ≤ Int32.toInt bD ∧ Int32.toInt bD ≤ 8) (h_no_today : 0 ≤ Int32.toInt jD ∧ Int32.toInt jD ≤ 9) (h_ru_length : 0 ≤ Int32.toInt pG ∧ Int32.toInt pG ≤ 40) (h_ro_size : 0 ≤ Int32.toInt qF ∧ Int32.toInt qF ≤ 16) (hpost : ∀ (r : Int32) (pl_wanted' : Int32) (pl_near' : Nat → Int32) (pl_load' : Nat → Int32) (ru_given' : Nat → Int32) (ru_stack' : Nat → Int32) (ro_size' : Int32) (ro_numbers' : Nat → Int32), (0 ≤ Int32.toInt pl_wanted' ∧ Int32.toInt pl_wanted' ≤ 65535) → (∀ k : Nat, 0 ≤ Int32.toInt (pl_near' k) ∧ Int32.toInt (pl_near' k) ≤ 65535) → (0 ≤ Int32.toInt ro_size' ∧ Int32.toInt ro_size' ≤ 16) → post r pl_wanted' pl_near' pl_load' ru_given' ru_stack' ro_size' ro_numbers') : wp_X9_share post p0 oX rX vV bZ bD wD gF pE qA nJ nY dQ jC eO eW dO fY jD pG qO qQ oF qF jJ := by
  have l0 := li_0
  have l1 := li_1
  intro v32 ev32
  have f33 := ti_shl1 8 256 bD (by decide) (by omega)
  have hv32 := congrArg Int32.toInt ev32
  refine And.intro (fun c34 => ?_) (fun c34 => ?_)
  · skip
    have c34 := mt (fa_eq _ _).mpr c34
    refine And.intro (fun h9 => absurd h9 (by decide)) (fun _ => ?_)
    exact hpost _ _ _ _ _ _ _ _ h_pl_wanted h_pl_near h_ro_size
  · skip
    have c34Z := c34
    have c34 := (fa_eq _ _).mp c34
    have f36 : Int32.toInt (v32 - 1) = Int32.toInt v32 - Int32.toInt (1 : Int32) := ta_sub _ _ (by omega)
    have s37 := ti_subset p0 (v32 - 1) (c34Z) (by omega)
    refine And.intro (fun _ => ?_) (fun h9 => absurd h9 (by decide))
    refine t_X5_lookAs h_no_today h_pl_wanted h_pl_near h_tr_fruits h_tr_standings (fun pl_wanted_38 pl_near_39 h_pl_wanted_38 h_pl_near_39 => ?_)
    refine t_X5_loadFirsts (by omega) h_pl_wanted_38 h_pl_near_39 h_tr_fruits h_tr_standings h_ru_length (fun pl_load_40 ru_given_41 ru_stack_42 => ?_)
    refine t_X5_loadOf (by omega) h_tr_standings (fun r43 => ?_)
    have f44 := tp_r r43
    exact ⟨257, tb_X9_share_45 bZ bD wD gF pE qA nJ nY dQ jC eO eW dO fY jD pG oF h_tr_fruits h_tr_standings h_no_today h_ru_length hpost _ p0 r43 0 r43 1 pl_wanted_38 pl_near_39 pl_load_40 ru_given_41 ru_stack_42 qF jJ (by omega) (by omega) (by omega) h_pl_wanted_38 h_pl_near_39 h_ro_size (by omega)⟩
set_option maxHeartbeats 8000000 in
set_option maxRecDepth 200000 in
theorem ts_X9_ripens_48 {post : Int32 → Int32 → (Nat → Int32) → Int32 → (Nat → Int32) → Prop} {K18 : Int32 → Int32 → Int32 → Int32 → (Nat → Int32) → Int32 → (Nat → Int32) → Prop} {n18 : Int} (bZ bD : Int32) (wD gF qA nJ nY dQ : Nat → Int32) (jC eO eW fY jD : Int32) (h_tr_fruits : 0 ≤ Int32.toInt bZ ∧ Int32.toInt bZ ≤ 16) (h_tr_standings : 0 ≤ Int32.toInt bD ∧ Int32.toInt bD ≤ 8) (h_no_today : 0 ≤ Int32.toInt jD ∧ Int32.toInt jD ≤ 9) (hpost : ∀ (r : Int32) (pl_wanted' : Int32) (pl_near' : Nat → Int32) (ro_size' : Int32) (ro_numbers' : Nat → Int32), (0 ≤ Int32.toInt r ∧ Int32.toInt r ≤ 63) → (0 ≤ Int32.toInt pl_wanted' ∧ Int32.toInt pl_wanted' ≤ 65535) → (∀ k : Nat, 0 ≤ Int32.toInt (pl_near' k) ∧ Int32.toInt (pl_near' k) ≤ 65535) → (2 ≤ Int32.toInt ro_size' ∧ Int32.toInt ro_size' ≤ 2) → post r pl_wanted' pl_near' ro_size' ro_numbers') (hK18 : ∀ (x1 : Int32) (x2 : Int32) (x3 : Int32) (oX : Int32) (rX : Nat → Int32) (qF : Int32) (jJ : Nat → Int32), (0 ≤ Int32.toInt x1 ∧ Int32.toInt x1 ≤ 9) → (0 ≤ Int32.toInt x2 ∧ Int32.toInt x2 ≤ 63) → (0 ≤ Int32.toInt x3 ∧ Int32.toInt x3 ≤ 10) → (0 ≤ Int32.toInt oX ∧ Int32.toInt oX ≤ 65535) → (∀ k : Nat, 0 ≤ Int32.toInt (rX k) ∧ Int32.toInt (rX k) ≤ 65535) → (0 ≤ Int32.toInt qF ∧ Int32.toInt qF ≤ 16) → (10 - Int32.toInt x3 < n18) → K18 x1 x2 x3 oX rX qF jJ) (x1 x2 x3 oX : Int32) (rX : Nat → Int32) (qF : Int32) (jJ : Nat → Int32) (h_x1 : 0 ≤ Int32.toInt x1 ∧ Int32.toInt x1 ≤ 9) (h_x2 : 0 ≤ Int32.toInt x2 ∧ Int32.toInt x2 ≤ 63) (h_x3 : 0 ≤ Int32.toInt x3 ∧ Int32.toInt x3 ≤ 9) (h_pl_wanted : 0 ≤ Int32.toInt oX ∧ Int32.toInt oX ≤ 65535) (h_pl_near : ∀ k : Nat, 0 ≤ Int32.toInt (rX k) ∧ Int32.toInt (rX k) ≤ 65535) (h_ro_size : 0 ≤ Int32.toInt qF ∧ Int32.toInt qF ≤ 16) (hn18 : 10 - Int32.toInt x3 ≤ n18) : ws_X9_ripens_48 post K18 bZ bD wD gF qA nJ nY dQ jC eO eW fY jD x1 x2 x3 oX rX qF jJ := by
  have l0 := li_1
  intro v1 ev1
  have f2 : Int32.toInt (x3 + 1) = Int32.toInt x3 + Int32.toInt (1 : Int32) := ta_add _ _ (by omega)
  rw [← ev1] at f2
  exact hK18 x1 x2 v1 oX rX qF jJ h_x1 h_x2 (by omega) h_pl_wanted h_pl_near h_ro_size (by omega)
set_option maxHeartbeats 8000000 in
set_option maxRecDepth 200000 in
theorem ts_X9_ripens_18 {post : Int32 → Int32 → (Nat → Int32) → Int32 → (Nat → Int32) → Prop} {next : Int32 → Int32 → Int32 → Int32 → (Nat → Int32) → Int32 → (Nat → Int32) → Prop} {n18 : Int} (bZ bD : Int32) (wD gF qA nJ nY dQ : Nat → Int32) (jC eO eW fY jD : Int32) (h_tr_fruits : 0 ≤ Int32.toInt bZ ∧ Int32.toInt bZ ≤ 16) (h_tr_standings : 0 ≤ Int32.toInt bD ∧ Int32.toInt bD ≤ 8) (h_no_today : 0 ≤ Int32.toInt jD ∧ Int32.toInt jD ≤ 9) (hpost : ∀ (r : Int32) (pl_wanted' : Int32) (pl_near' : Nat → Int32) (ro_size' : Int32) (ro_numbers' : Nat → Int32), (0 ≤ Int32.toInt r ∧ Int32.toInt r ≤ 63) → (0 ≤ Int32.toInt pl_wanted' ∧ Int32.toInt pl_wanted' ≤ 65535) → (∀ k : Nat, 0 ≤ Int32.toInt (pl_near' k) ∧ Int32.toInt (pl_near' k) ≤ 65535) → (2 ≤ Int32.toInt ro_size' ∧ Int32.toInt ro_size' ≤ 2) → post r pl_wanted' pl_near' ro_size' ro_numbers') (hKn : ∀ (x1 : Int32) (x2 : Int32) (x3 : Int32) (oX : Int32) (rX : Nat → Int32) (qF : Int32) (jJ : Nat → Int32), (0 ≤ Int32.toInt x1 ∧ Int32.toInt x1 ≤ 9) → (0 ≤ Int32.toInt x2 ∧ Int32.toInt x2 ≤ 63) → (0 ≤ Int32.toInt x3 ∧ Int32.toInt x3 ≤ 10) → (0 ≤ Int32.toInt oX ∧ Int32.toInt oX ≤ 65535) → (∀ k : Nat, 0 ≤ Int32.toInt (rX k) ∧ Int32.toInt (rX k) ≤ 65535) → (0 ≤ Int32.toInt qF ∧ Int32.toInt qF ≤ 16) → (10 - Int32.toInt x3 < n18) → next x1 x2 x3 oX rX qF jJ) (x1 x2 x3 oX : Int32) (rX : Nat → Int32) (qF : Int32) (jJ : Nat → Int32) (h_x1 : 0 ≤ Int32.toInt x1 ∧ Int32.toInt x1 ≤ 9) (h_x2 : 0 ≤ Int32.toInt x2 ∧ Int32.toInt x2 ≤ 63) (h_x3 : 0 ≤ Int32.toInt x3 ∧ Int32.toInt x3 ≤ 10) (h_pl_wanted : 0 ≤ Int32.toInt oX ∧ Int32.toInt oX ≤ 65535) (h_pl_near : ∀ k : Nat, 0 ≤ Int32.toInt (rX k) ∧ Int32.toInt (rX k) ≤ 65535) (h_ro_size : 0 ≤ Int32.toInt qF ∧ Int32.toInt qF ≤ 16) (hn18 : 10 - Int32.toInt x3 ≤ n18) : ws_X9_ripens_18 post next bZ bD wD gF qA nJ nY dQ jC eO eW fY jD x1 x2 x3 oX rX qF jJ := by
  have l0 := li_0
  have l1 := li_1
  have l2 := li_1431655765
  have l3 := li_16
  have l4 := li_252645135
  have l5 := li_63
  have l6 := li_858993459
  have l7 := li_9
  refine And.intro (fun c3 => ?_) (fun c3 => ?_)
  · skip
    have c3 := (fa_lt _ _).mp c3
    refine t_X5_lookAs (by omega) h_pl_wanted h_pl_near h_tr_fruits h_tr_standings (fun pl_wanted_4 pl_near_5 h_pl_wanted_4 h_pl_near_5 => ?_)
    intro v6 ev6
    have f7 := ti_shl1 8 256 bD (by decide) (by omega)
    have hv6 := congrArg Int32.toInt ev6
    have f9 : Int32.toInt (v6 - 1) = Int32.toInt v6 - Int32.toInt (1 : Int32) := ta_sub _ _ (by omega)
    refine t_X5_smallestCover h_pl_wanted_4 (by omega) h_pl_near_5 h_tr_standings (fun r8 h_r8 => ?_)
    intro v10 ev10
    intro v11 ev11
    have f13 := ti_andr v10 1431655765 (by omega)
    have f12 : Int32.toInt (r8 - (v10 &&& 1431655765)) = Int32.toInt r8 - Int32.toInt (v10 &&& 1431655765) := ta_sub _ _ (by omega)
    rw [← ev11] at f12
    intro v14 ev14
    have f15 := ti_andr v11 858993459 (by omega)
    have hv14 := congrArg Int32.toInt ev14
    intro v16 ev16
    intro v17 ev17
    have f19 := ti_andr v16 858993459 (by omega)
    have f18 : Int32.toInt (v14 + (v16 &&& 858993459)) = Int32.toInt v14 + Int32.toInt (v16 &&& 858993459) := ta_add _ _ (by omega)
    rw [← ev17] at f18
    intro v20 ev20
    have hv20 := congrArg Int32.toInt ev20
    intro v22 ev22
    have f23 := ti_andr v20 252645135 (by omega)
    have hv22 := congrArg Int32.toInt ev22
    intro v24 ev24
    have hv24 := congrArg Int32.toInt ev24
    intro v26 ev26
    have hv26 := congrArg Int32.toInt ev26
    refine And.intro (fun h9 => absurd h9 (by decide)) (fun _ => ?_)
    refine And.intro (t_in (by omega)) ?_
    intro v28 ev28
    have f29 : Int32.toInt (0 + 1) = Int32.toInt (0 : Int32) + Int32.toInt (1 : Int32) := ta_add _ _ (by omega)
    rw [← ev28] at f29
    refine And.intro (fun c30 => ?_) (fun c30 => ?_)
    · skip
      have c30 := (fa_le _ _).mp c30
      exfalso; omega
    · skip
      have c30 := mt (fa_le _ _).mpr c30
      refine And.intro (t_in (by omega)) ?_
      intro v31 ev31
      have f32 : Int32.toInt (v28 + 1) = Int32.toInt v28 + Int32.toInt (1 : Int32) := ta_add _ _ (by omega)
      rw [← ev31] at f32
      exact hpost _ _ _ _ _ h_x2 h_pl_wanted_4 h_pl_near_5 (by omega)
  · skip
    have c3 := mt (fa_lt _ _).mpr c3
    intro v33 ev33
    have f34 := ti_shl1 16 65536 bZ (by decide) (by omega)
    have hv33 := congrArg Int32.toInt ev33
    intro v35 ev35
    intro v36 ev36
    refine t_X3_ripeBy (by omega) h_tr_fruits (fun r37 h_r37 => ?_)
    intro v38 ev38
    have f39 := ti_andr ((v33 - 1) &&& (v36 ^^^ (-1))) r37 (by omega)
    have f41 : Int32.toInt (v33 - 1) = Int32.toInt v33 - Int32.toInt (1 : Int32) := ta_sub _ _ (by omega)
    have f42 := ti_andl (v33 - 1) (v36 ^^^ (-1)) (by omega)
    have f43 := ti_andl ((v33 - 1) &&& (v36 ^^^ (-1))) r37 (by omega)
    have hv38 := congrArg Int32.toInt ev38
    refine And.intro (fun c44 => ?_) (fun c44 => ?_)
    · skip
      have c44 := (fa_le _ _).mp c44
      intro v45 ev45
      intro v46 ev46
      have f48 := ti_andr v45 1431655765 (by omega)
      have f47 : Int32.toInt (v38 - (v45 &&& 1431655765)) = Int32.toInt v38 - Int32.toInt (v45 &&& 1431655765) := ta_sub _ _ (by omega)
      rw [← ev46] at f47
      intro v49 ev49
      have f50 := ti_andr v46 858993459 (by omega)
      have hv49 := congrArg Int32.toInt ev49
      intro v51 ev51
      intro v52 ev52
      have f54 := ti_andr v51 858993459 (by omega)
      have f53 : Int32.toInt (v49 + (v51 &&& 858993459)) = Int32.toInt v49 + Int32.toInt (v51 &&& 858993459) := ta_add _ _ (by omega)
      rw [← ev52] at f53
      intro v55 ev55
      have hv55 := congrArg Int32.toInt ev55
      intro v57 ev57
      have f58 := ti_andr v55 252645135 (by omega)
      have hv57 := congrArg Int32.toInt ev57
      intro v59 ev59
      have hv59 := congrArg Int32.toInt ev59
      intro v61 ev61
      have hv61 := congrArg Int32.toInt ev61
      have f64 := ti_andr v61 63 (by omega)
      refine And.intro (fun c63 => ?_) (fun c63 => ?_)
      · skip
        have c63 := (fa_le _ _).mp c63
        exact ts_X9_ripens_48 bZ bD wD gF qA nJ nY dQ jC eO eW fY jD h_tr_fruits h_tr_standings h_no_today hpost hKn x1 x2 x3 oX rX qF jJ h_x1 h_x2 (by omega) h_pl_wanted h_pl_near h_ro_size hn18
      · skip
        have c63 := mt (fa_le _ _).mpr c63
        exact ts_X9_ripens_48 bZ bD wD gF qA nJ nY dQ jC eO eW fY jD h_tr_fruits h_tr_standings h_no_today hpost hKn x3 (v61 &&& 63) x3 oX rX qF jJ (by omega) (by omega) (by omega) h_pl_wanted h_pl_near h_ro_size hn18
    · skip
      have c44 := mt (fa_le _ _).mpr c44
      intro v65 ev65
      have f66 : Int32.toInt (x3 - 1) = Int32.toInt x3 - Int32.toInt (1 : Int32) := ta_sub _ _ (by omega)
      rw [← ev65] at f66
      refine t_X3_ripeBy (by omega) h_tr_fruits (fun r67 h_r67 => ?_)
      intro v68 ev68
      have f70 := ti_andl v38 (r67 ^^^ (-1)) (by omega)
      have hv68 := congrArg Int32.toInt ev68
      intro v71 ev71
      intro v72 ev72
      have f74 := ti_andr v71 1431655765 (by omega)
      have f73 : Int32.toInt (v68 - (v71 &&& 1431655765)) = Int32.toInt v68 - Int32.toInt (v71 &&& 1431655765) := ta_sub _ _ (by omega)
      rw [← ev72] at f73
      intro v75 ev75
      have f76 := ti_andr v72 858993459 (by omega)
      have hv75 := congrArg Int32.toInt ev75
      intro v77 ev77
      intro v78 ev78
      have f80 := ti_andr v77 858993459 (by omega)
      have f79 : Int32.toInt (v75 + (v77 &&& 858993459)) = Int32.toInt v75 + Int32.toInt (v77 &&& 858993459) := ta_add _ _ (by omega)
      rw [← ev78] at f79
      intro v81 ev81
      have hv81 := congrArg Int32.toInt ev81
      intro v83 ev83
      have f84 := ti_andr v81 252645135 (by omega)
      have hv83 := congrArg Int32.toInt ev83
      intro v85 ev85
      have hv85 := congrArg Int32.toInt ev85
      intro v87 ev87
      have hv87 := congrArg Int32.toInt ev87
      have f90 := ti_andr v87 63 (by omega)
      refine And.intro (fun c89 => ?_) (fun c89 => ?_)
      · skip
        have c89 := (fa_le _ _).mp c89
        exact ts_X9_ripens_48 bZ bD wD gF qA nJ nY dQ jC eO eW fY jD h_tr_fruits h_tr_standings h_no_today hpost hKn x1 x2 x3 oX rX qF jJ h_x1 h_x2 (by omega) h_pl_wanted h_pl_near h_ro_size hn18
      · skip
        have c89 := mt (fa_le _ _).mpr c89
        exact ts_X9_ripens_48 bZ bD wD gF qA nJ nY dQ jC eO eW fY jD h_tr_fruits h_tr_standings h_no_today hpost hKn x3 (v87 &&& 63) x3 oX rX qF jJ (by omega) (by omega) (by omega) h_pl_wanted h_pl_near h_ro_size hn18
set_option maxHeartbeats 8000000 in
set_option maxRecDepth 200000 in
theorem tb_X9_ripens_18 {post : Int32 → Int32 → (Nat → Int32) → Int32 → (Nat → Int32) → Prop} (bZ bD : Int32) (wD gF qA nJ nY dQ : Nat → Int32) (jC eO eW fY jD : Int32) (h_tr_fruits : 0 ≤ Int32.toInt bZ ∧ Int32.toInt bZ ≤ 16) (h_tr_standings : 0 ≤ Int32.toInt bD ∧ Int32.toInt bD ≤ 8) (h_no_today : 0 ≤ Int32.toInt jD ∧ Int32.toInt jD ≤ 9) (hpost : ∀ (r : Int32) (pl_wanted' : Int32) (pl_near' : Nat → Int32) (ro_size' : Int32) (ro_numbers' : Nat → Int32), (0 ≤ Int32.toInt r ∧ Int32.toInt r ≤ 63) → (0 ≤ Int32.toInt pl_wanted' ∧ Int32.toInt pl_wanted' ≤ 65535) → (∀ k : Nat, 0 ≤ Int32.toInt (pl_near' k) ∧ Int32.toInt (pl_near' k) ≤ 65535) → (2 ≤ Int32.toInt ro_size' ∧ Int32.toInt ro_size' ≤ 2) → post r pl_wanted' pl_near' ro_size' ro_numbers') : ∀ (n : Nat) (x1 x2 x3 oX : Int32) (rX : Nat → Int32) (qF : Int32) (jJ : Nat → Int32), (0 ≤ Int32.toInt x1 ∧ Int32.toInt x1 ≤ 9) → (0 ≤ Int32.toInt x2 ∧ Int32.toInt x2 ≤ 63) → (0 ≤ Int32.toInt x3 ∧ Int32.toInt x3 ≤ 10) → (0 ≤ Int32.toInt oX ∧ Int32.toInt oX ≤ 65535) → (∀ k : Nat, 0 ≤ Int32.toInt (rX k) ∧ Int32.toInt (rX k) ≤ 65535) → (0 ≤ Int32.toInt qF ∧ Int32.toInt qF ≤ 16) → (10 - Int32.toInt x3 < (n : Int)) → wb_X9_ripens_18 post bZ bD wD gF qA nJ nY dQ jC eO eW fY jD n x1 x2 x3 oX rX qF jJ := by
  intro n
  induction n with
  | zero =>
    intro x1 x2 x3 oX rX qF jJ h_x1 h_x2 h_x3 h_pl_wanted h_pl_near h_ro_size hm
    exfalso; omega
  | succ n ih =>
    intro x1 x2 x3 oX rX qF jJ h_x1 h_x2 h_x3 h_pl_wanted h_pl_near h_ro_size hm
    exact ts_X9_ripens_18 bZ bD wD gF qA nJ nY dQ jC eO eW fY jD h_tr_fruits h_tr_standings h_no_today hpost ih x1 x2 x3 oX rX qF jJ h_x1 h_x2 h_x3 h_pl_wanted h_pl_near h_ro_size (by omega)
set_option maxHeartbeats 8000000 in
set_option maxRecDepth 200000 in
theorem t_X9_ripens {post : Int32 → Int32 → (Nat → Int32) → Int32 → (Nat → Int32) → Prop} {oX : Int32} {rX : Nat → Int32} {bZ bD : Int32} {wD gF qA nJ nY dQ : Nat → Int32} {jC eO eW fY jD qF : Int32} {jJ : Nat → Int32} (h_pl_wanted : 0 ≤ Int32.toInt oX ∧ Int32.toInt oX ≤ 65535) (h_pl_near : ∀ k : Nat, 0 ≤ Int32.toInt (rX k) ∧ Int32.toInt (rX k) ≤ 65535) (h_tr_fruits : 0 ≤ Int32.toInt bZ ∧ Int32.toInt bZ ≤ 16) (h_tr_standings : 0 ≤ Int32.toInt bD ∧ Int32.toInt bD ≤ 8) (h_no_today : 0 ≤ Int32.toInt jD ∧ Int32.toInt jD ≤ 9) (h_ro_size : 0 ≤ Int32.toInt qF ∧ Int32.toInt qF ≤ 16) (hpost : ∀ (r : Int32) (pl_wanted' : Int32) (pl_near' : Nat → Int32) (ro_size' : Int32) (ro_numbers' : Nat → Int32), (0 ≤ Int32.toInt r ∧ Int32.toInt r ≤ 63) → (0 ≤ Int32.toInt pl_wanted' ∧ Int32.toInt pl_wanted' ≤ 65535) → (∀ k : Nat, 0 ≤ Int32.toInt (pl_near' k) ∧ Int32.toInt (pl_near' k) ≤ 65535) → (2 ≤ Int32.toInt ro_size' ∧ Int32.toInt ro_size' ≤ 2) → post r pl_wanted' pl_near' ro_size' ro_numbers') : wp_X9_ripens post oX rX bZ bD wD gF qA nJ nY dQ jC eO eW fY jD qF jJ := by
  have l0 := li_0
  exact ⟨12, tb_X9_ripens_18 bZ bD wD gF qA nJ nY dQ jC eO eW fY jD h_tr_fruits h_tr_standings h_no_today hpost _ jD 0 jD oX rX qF jJ h_no_today (by omega) (by omega) h_pl_wanted h_pl_near h_ro_size (by omega)⟩
set_option maxHeartbeats 8000000 in
set_option maxRecDepth 200000 in
theorem t_X9_ondays {post : Int32 → Int32 → (Nat → Int32) → Int32 → (Nat → Int32) → Prop} {p0 oX : Int32} {rX : Nat → Int32} {bZ bD : Int32} {wD gF qA nJ nY dQ : Nat → Int32} {jC eO eW fY jD qF : Int32} {jJ : Nat → Int32} (h_pl_wanted : 0 ≤ Int32.toInt oX ∧ Int32.toInt oX ≤ 65535) (h_pl_near : ∀ k : Nat, 0 ≤ Int32.toInt (rX k) ∧ Int32.toInt (rX k) ≤ 65535) (h_tr_fruits : 0 ≤ Int32.toInt bZ ∧ Int32.toInt bZ ≤ 16) (h_tr_standings : 0 ≤ Int32.toInt bD ∧ Int32.toInt bD ≤ 8) (h_no_today : 0 ≤ Int32.toInt jD ∧ Int32.toInt jD ≤ 9) (h_ro_size : 0 ≤ Int32.toInt qF ∧ Int32.toInt qF ≤ 16) (hpost : ∀ (r : Int32) (pl_wanted' : Int32) (pl_near' : Nat → Int32) (ro_size' : Int32) (ro_numbers' : Nat → Int32), (-1 ≤ Int32.toInt r ∧ Int32.toInt r ≤ 16) → (0 ≤ Int32.toInt pl_wanted' ∧ Int32.toInt pl_wanted' ≤ 65535) → (∀ k : Nat, 0 ≤ Int32.toInt (pl_near' k) ∧ Int32.toInt (pl_near' k) ≤ 65535) → (0 ≤ Int32.toInt ro_size' ∧ Int32.toInt ro_size' ≤ 16) → post r pl_wanted' pl_near' ro_size' ro_numbers') : wp_X9_ondays post p0 oX rX bZ bD wD gF qA nJ nY dQ jC eO eW fY jD qF jJ := by
  have l0 := li_m1
  have l1 := li_1
  have l2 := li_9
  have f2 := tp_r p0
  refine And.intro (fun c1 => ?_) (fun c1 => ?_)
  · skip
    have c1 := (fa_lt _ _).mp c1
    exact hpost _ _ _ _ _ (by omega) h_pl_wanted h_pl_near h_ro_size
  · skip
    have c1 := mt (fa_lt _ _).mpr c1
    refine And.intro (fun c3 => ?_) (fun c3 => ?_)
    · skip
      have c3 := (fa_le _ _).mp c3
      refine t_X5_lookAs h_no_today h_pl_wanted h_pl_near h_tr_fruits h_tr_standings (fun pl_wanted_4 pl_near_5 h_pl_wanted_4 h_pl_near_5 => ?_)
      intro v6 ev6
      have f7 := ti_shl1 16 65536 bZ (by decide) (by omega)
      have hv6 := congrArg Int32.toInt ev6
      intro v8 ev8
      intro v9 ev9
      refine t_X3_ripeBy (by omega) h_tr_fruits (fun r10 h_r10 => ?_)
      intro v11 ev11
      have f12 := ti_andr ((v6 - 1) &&& (v9 ^^^ (-1))) r10 (by omega)
      have f14 : Int32.toInt (v6 - 1) = Int32.toInt v6 - Int32.toInt (1 : Int32) := ta_sub _ _ (by omega)
      have f15 := ti_andl (v6 - 1) (v9 ^^^ (-1)) (by omega)
      have f16 := ti_andl ((v6 - 1) &&& (v9 ^^^ (-1))) r10 (by omega)
      have hv11 := congrArg Int32.toInt ev11
      refine And.intro (fun c17 => ?_) (fun c17 => ?_)
      · skip
        have c17 := (fa_le _ _).mp c17
        intro v18 ev18
        have f19 := ti_shl1 8 256 bD (by decide) (by omega)
        have hv18 := congrArg Int32.toInt ev18
        have f21 : Int32.toInt (v18 - 1) = Int32.toInt v18 - Int32.toInt (1 : Int32) := ta_sub _ _ (by omega)
        refine t_X5_reachedBy (by omega) h_pl_near_5 h_tr_standings (fun r20 h_r20 => ?_)
        intro v22 ev22
        have f23 := ti_andr v11 r20 (by omega)
        have f24 := ti_andl v11 r20 (by omega)
        have hv22 := congrArg Int32.toInt ev22
        intro v25 ev25
        have hv25 := congrArg Int32.toInt ev25
        have f27 : Int32.toInt (v25 - 1) = Int32.toInt v25 - Int32.toInt (1 : Int32) := ta_sub _ _ (by omega)
        refine t_X5_smallestCover (by omega) (by omega) h_pl_near_5 h_tr_standings (fun r26 h_r26 => ?_)
        refine t_X9_tellMembers h_r26 h_ro_size (fun r30 ro_size_28 ro_numbers_29 h_r30 h_ro_size_28 => ?_)
        exact hpost _ _ _ _ _ (by omega) h_pl_wanted_4 h_pl_near_5 h_ro_size_28
      · skip
        have c17 := mt (fa_le _ _).mpr c17
        intro v31 ev31
        have f32 : Int32.toInt (p0 - 1) = Int32.toInt p0 - Int32.toInt (1 : Int32) := ta_sub _ _ (by omega)
        rw [← ev31] at f32
        refine t_X3_ripeBy (by omega) h_tr_fruits (fun r33 h_r33 => ?_)
        intro v34 ev34
        have f36 := ti_andl v11 (r33 ^^^ (-1)) (by omega)
        have hv34 := congrArg Int32.toInt ev34
        intro v37 ev37
        have f38 := ti_shl1 8 256 bD (by decide) (by omega)
        have hv37 := congrArg Int32.toInt ev37
        have f40 : Int32.toInt (v37 - 1) = Int32.toInt v37 - Int32.toInt (1 : Int32) := ta_sub _ _ (by omega)
        refine t_X5_reachedBy (by omega) h_pl_near_5 h_tr_standings (fun r39 h_r39 => ?_)
        intro v41 ev41
        have f42 := ti_andr v34 r39 (by omega)
        have f43 := ti_andl v34 r39 (by omega)
        have hv41 := congrArg Int32.toInt ev41
        intro v44 ev44
        have hv44 := congrArg Int32.toInt ev44
        have f46 : Int32.toInt (v44 - 1) = Int32.toInt v44 - Int32.toInt (1 : Int32) := ta_sub _ _ (by omega)
        refine t_X5_smallestCover (by omega) (by omega) h_pl_near_5 h_tr_standings (fun r45 h_r45 => ?_)
        refine t_X9_tellMembers h_r45 h_ro_size (fun r49 ro_size_47 ro_numbers_48 h_r49 h_ro_size_47 => ?_)
        exact hpost _ _ _ _ _ (by omega) h_pl_wanted_4 h_pl_near_5 h_ro_size_47
    · skip
      have c3 := mt (fa_le _ _).mpr c3
      exact hpost _ _ _ _ _ (by omega) h_pl_wanted h_pl_near h_ro_size
set_option maxHeartbeats 8000000 in
set_option maxRecDepth 200000 in
theorem ts_X9_allripe_62 {post : Int32 → Int32 → (Nat → Int32) → Prop} (bZ : Int32) (pE qA : Nat → Int32) (jC eO eW dO jD : Int32) (h_tr_fruits : 0 ≤ Int32.toInt bZ ∧ Int32.toInt bZ ≤ 16) (h_no_today : 0 ≤ Int32.toInt jD ∧ Int32.toInt jD ≤ 9) (hpost : ∀ (r : Int32) (ro_size' : Int32) (ro_numbers' : Nat → Int32), (0 ≤ Int32.toInt r ∧ Int32.toInt r ≤ 9) → (2 ≤ Int32.toInt ro_size' ∧ Int32.toInt ro_size' ≤ 2) → post r ro_size' ro_numbers') (x2 x3 qF : Int32) (jJ : Nat → Int32) (h_x2 : 0 ≤ Int32.toInt x2 ∧ Int32.toInt x2 ≤ 65535) (h_x3 : 0 ≤ Int32.toInt x3 ∧ Int32.toInt x3 ≤ 9) (h_ro_size : 0 ≤ Int32.toInt qF ∧ Int32.toInt qF ≤ 16) : ws_X9_allripe_62 post bZ pE qA jC eO eW dO jD x2 x3 qF jJ := by
  have l0 := li_0
  have l1 := li_1
  have l2 := li_1431655765
  have l3 := li_16
  have l4 := li_252645135
  have l5 := li_858993459
  intro v1 ev1
  intro v2 ev2
  have f4 := ti_andr v1 1431655765 (by omega)
  have f3 : Int32.toInt (x2 - (v1 &&& 1431655765)) = Int32.toInt x2 - Int32.toInt (v1 &&& 1431655765) := ta_sub _ _ (by omega)
  rw [← ev2] at f3
  intro v5 ev5
  have f6 := ti_andr v2 858993459 (by omega)
  have hv5 := congrArg Int32.toInt ev5
  intro v7 ev7
  intro v8 ev8
  have f10 := ti_andr v7 858993459 (by omega)
  have f9 : Int32.toInt (v5 + (v7 &&& 858993459)) = Int32.toInt v5 + Int32.toInt (v7 &&& 858993459) := ta_add _ _ (by omega)
  rw [← ev8] at f9
  intro v11 ev11
  have hv11 := congrArg Int32.toInt ev11
  intro v13 ev13
  have f14 := ti_andr v11 252645135 (by omega)
  have hv13 := congrArg Int32.toInt ev13
  intro v15 ev15
  have hv15 := congrArg Int32.toInt ev15
  intro v17 ev17
  have hv17 := congrArg Int32.toInt ev17
  refine t_X3_worthOf h_tr_fruits (fun r19 => ?_)
  refine And.intro (fun h9 => absurd h9 (by decide)) (fun _ => ?_)
  refine And.intro (t_in (by omega)) ?_
  intro v20 ev20
  have f21 : Int32.toInt (0 + 1) = Int32.toInt (0 : Int32) + Int32.toInt (1 : Int32) := ta_add _ _ (by omega)
  rw [← ev20] at f21
  refine And.intro (fun c22 => ?_) (fun c22 => ?_)
  · skip
    have c22 := (fa_le _ _).mp c22
    exfalso; omega
  · skip
    have c22 := mt (fa_le _ _).mpr c22
    refine And.intro (t_in (by omega)) ?_
    intro v23 ev23
    have f24 : Int32.toInt (v20 + 1) = Int32.toInt v20 + Int32.toInt (1 : Int32) := ta_add _ _ (by omega)
    rw [← ev23] at f24
    exact hpost _ _ _ h_x3 (by omega)
set_option maxHeartbeats 8000000 in
set_option maxRecDepth 200000 in
theorem ts_X9_allripe_35 {post : Int32 → Int32 → (Nat → Int32) → Prop} {next : Int32 → Int32 → Int32 → Int32 → (Nat → Int32) → Prop} {n35 : Int} (bZ : Int32) (pE qA : Nat → Int32) (jC eO eW dO jD : Int32) (h_tr_fruits : 0 ≤ Int32.toInt bZ ∧ Int32.toInt bZ ≤ 16) (h_no_today : 0 ≤ Int32.toInt jD ∧ Int32.toInt jD ≤ 9) (hpost : ∀ (r : Int32) (ro_size' : Int32) (ro_numbers' : Nat → Int32), (0 ≤ Int32.toInt r ∧ Int32.toInt r ≤ 9) → (2 ≤ Int32.toInt ro_size' ∧ Int32.toInt ro_size' ≤ 2) → post r ro_size' ro_numbers') (hKn : ∀ (x1 : Int32) (x2 : Int32) (x3 : Int32) (qF : Int32) (jJ : Nat → Int32), (0 ≤ Int32.toInt x1 ∧ Int32.toInt x1 ≤ 65535) → (0 ≤ Int32.toInt x2 ∧ Int32.toInt x2 ≤ 65535) → (0 ≤ Int32.toInt x3 ∧ Int32.toInt x3 ≤ 9) → (0 ≤ Int32.toInt qF ∧ Int32.toInt qF ≤ 16) → (9 - Int32.toInt x3 < n35) → next x1 x2 x3 qF jJ) (x1 x2 x3 qF : Int32) (jJ : Nat → Int32) (h_x1 : 0 ≤ Int32.toInt x1 ∧ Int32.toInt x1 ≤ 65535) (h_x2 : 0 ≤ Int32.toInt x2 ∧ Int32.toInt x2 ≤ 65535) (h_x3 : 0 ≤ Int32.toInt x3 ∧ Int32.toInt x3 ≤ 9) (h_ro_size : 0 ≤ Int32.toInt qF ∧ Int32.toInt qF ≤ 16) (hn35 : 9 - Int32.toInt x3 ≤ n35) : ws_X9_allripe_35 post next bZ pE qA jC eO eW dO jD x1 x2 x3 qF jJ := by
  have l0 := li_0
  have l1 := li_1
  have l2 := li_9
  refine And.intro (fun c25 => ?_) (fun c25 => ?_)
  · skip
    have c25 := (fa_le _ _).mp c25
    exact ts_X9_allripe_62 bZ pE qA jC eO eW dO jD h_tr_fruits h_no_today hpost x2 x3 qF jJ h_x2 h_x3 h_ro_size
  · skip
    have c25 := mt (fa_le _ _).mpr c25
    refine t_X3_ripeBy h_x3 h_tr_fruits (fun r26 h_r26 => ?_)
    have f29 := ti_andl x1 (r26 ^^^ (-1)) (by omega)
    refine And.intro (fun c27 => ?_) (fun c27 => ?_)
    · skip
      have c27Z := c27
      have c27 := (fa_eq _ _).mp c27
      have s30 := ti_subset x1 r26 (c27Z) (by omega)
      exact ts_X9_allripe_62 bZ pE qA jC eO eW dO jD h_tr_fruits h_no_today hpost x2 x3 qF jJ h_x2 h_x3 h_ro_size
    · skip
      have c27 := mt (fa_eq _ _).mpr c27
      intro v31 ev31
      have f32 : Int32.toInt (x3 + 1) = Int32.toInt x3 + Int32.toInt (1 : Int32) := ta_add _ _ (by omega)
      rw [← ev31] at f32
      exact hKn x1 x2 v31 qF jJ h_x1 h_x2 (by omega) h_ro_size (by omega)
set_option maxHeartbeats 8000000 in
set_option maxRecDepth 200000 in
theorem tb_X9_allripe_35 {post : Int32 → Int32 → (Nat → Int32) → Prop} (bZ : Int32) (pE qA : Nat → Int32) (jC eO eW dO jD : Int32) (h_tr_fruits : 0 ≤ Int32.toInt bZ ∧ Int32.toInt bZ ≤ 16) (h_no_today : 0 ≤ Int32.toInt jD ∧ Int32.toInt jD ≤ 9) (hpost : ∀ (r : Int32) (ro_size' : Int32) (ro_numbers' : Nat → Int32), (0 ≤ Int32.toInt r ∧ Int32.toInt r ≤ 9) → (2 ≤ Int32.toInt ro_size' ∧ Int32.toInt ro_size' ≤ 2) → post r ro_size' ro_numbers') : ∀ (n : Nat) (x1 x2 x3 qF : Int32) (jJ : Nat → Int32), (0 ≤ Int32.toInt x1 ∧ Int32.toInt x1 ≤ 65535) → (0 ≤ Int32.toInt x2 ∧ Int32.toInt x2 ≤ 65535) → (0 ≤ Int32.toInt x3 ∧ Int32.toInt x3 ≤ 9) → (0 ≤ Int32.toInt qF ∧ Int32.toInt qF ≤ 16) → (9 - Int32.toInt x3 < (n : Int)) → wb_X9_allripe_35 post bZ pE qA jC eO eW dO jD n x1 x2 x3 qF jJ := by
  intro n
  induction n with
  | zero =>
    intro x1 x2 x3 qF jJ h_x1 h_x2 h_x3 h_ro_size hm
    exfalso; omega
  | succ n ih =>
    intro x1 x2 x3 qF jJ h_x1 h_x2 h_x3 h_ro_size hm
    exact ts_X9_allripe_35 bZ pE qA jC eO eW dO jD h_tr_fruits h_no_today hpost ih x1 x2 x3 qF jJ h_x1 h_x2 h_x3 h_ro_size (by omega)
set_option maxHeartbeats 8000000 in
set_option maxRecDepth 200000 in
theorem t_X9_allripe {post : Int32 → Int32 → (Nat → Int32) → Prop} {bZ : Int32} {pE qA : Nat → Int32} {jC eO eW dO jD qF : Int32} {jJ : Nat → Int32} (h_tr_fruits : 0 ≤ Int32.toInt bZ ∧ Int32.toInt bZ ≤ 16) (h_no_today : 0 ≤ Int32.toInt jD ∧ Int32.toInt jD ≤ 9) (h_ro_size : 0 ≤ Int32.toInt qF ∧ Int32.toInt qF ≤ 16) (hpost : ∀ (r : Int32) (ro_size' : Int32) (ro_numbers' : Nat → Int32), (0 ≤ Int32.toInt r ∧ Int32.toInt r ≤ 9) → (2 ≤ Int32.toInt ro_size' ∧ Int32.toInt ro_size' ≤ 2) → post r ro_size' ro_numbers') : wp_X9_allripe post bZ pE qA jC eO eW dO jD qF jJ := by
  have l0 := li_1
  intro v33 ev33
  have f34 := ti_shl1 16 65536 bZ (by decide) (by omega)
  have hv33 := congrArg Int32.toInt ev33
  intro v35 ev35
  intro v36 ev36
  refine t_X3_ripeBy h_no_today h_tr_fruits (fun r37 h_r37 => ?_)
  intro v38 ev38
  have f41 : Int32.toInt (v33 - 1) = Int32.toInt v33 - Int32.toInt (1 : Int32) := ta_sub _ _ (by omega)
  have f42 := ti_andl (v33 - 1) (v36 ^^^ (-1)) (by omega)
  have f43 := ti_andl ((v33 - 1) &&& (v36 ^^^ (-1))) (r37 ^^^ (-1)) (by omega)
  have hv38 := congrArg Int32.toInt ev38
  exact ⟨11, tb_X9_allripe_35 bZ pE qA jC eO eW dO jD h_tr_fruits h_no_today hpost _ ((v33 - 1) &&& (v36 ^^^ (-1))) v38 jD qF jJ (by omega) (by omega) h_no_today h_ro_size (by omega)⟩
