set_option maxHeartbeats 8000000 in
set_option maxRecDepth 200000 in
theorem t_X9_sleep {post : Int32 → Int32 → Int32 → Int32 → Int32 → Int32 → Int32 → Int32 → (Nat → Int32) → Prop} {no_apron : Int32} {no_basket : Int32} {no_ground : Int32} {no_bruised : Int32} {no_ladder : Int32} {no_helper : Int32} {no_today : Int32} {no_clock : Int32} {pa_undoable : Int32} {pa_free : Int32} {pa_cells : Nat → Int32} (h_no_ladder : -1 ≤ Int32.toInt no_ladder ∧ Int32.toInt no_ladder ≤ 7) (h_no_today : 0 ≤ Int32.toInt no_today ∧ Int32.toInt no_today ≤ 9) (h_pa_undoable : 0 ≤ Int32.toInt pa_undoable ∧ Int32.toInt pa_undoable ≤ 12) (h_pa_free : 0 ≤ Int32.toInt pa_free ∧ Int32.toInt pa_free ≤ 12) (e0_pa_cells : ∀ k : Nat, k % 8 = 4 → -1 ≤ Int32.toInt (pa_cells k) ∧ Int32.toInt (pa_cells k) ≤ 7) (e1_pa_cells : ∀ k : Nat, k % 8 = 6 → 0 ≤ Int32.toInt (pa_cells k) ∧ Int32.toInt (pa_cells k) ≤ 9) (hpost : ∀ (r : Int32) (no_apron' : Int32) (no_basket' : Int32) (no_ladder' : Int32) (no_today' : Int32) (no_clock' : Int32) (pa_undoable' : Int32) (pa_free' : Int32) (pa_cells' : Nat → Int32), (-1 ≤ Int32.toInt r ∧ Int32.toInt r ≤ 9) → (-1 ≤ Int32.toInt no_ladder' ∧ Int32.toInt no_ladder' ≤ 7) → (1 ≤ Int32.toInt no_today' ∧ Int32.toInt no_today' ≤ 9) → (0 ≤ Int32.toInt pa_undoable' ∧ Int32.toInt pa_undoable' ≤ 12) → (0 ≤ Int32.toInt pa_free' ∧ Int32.toInt pa_free' ≤ 12) → (∀ k : Nat, k % 8 = 4 → -1 ≤ Int32.toInt (pa_cells' k) ∧ Int32.toInt (pa_cells' k) ≤ 7) → (∀ k : Nat, k % 8 = 6 → 0 ≤ Int32.toInt (pa_cells' k) ∧ Int32.toInt (pa_cells' k) ≤ 9) → post r no_apron' no_basket' no_ladder' no_today' no_clock' pa_undoable' pa_free' pa_cells') : wp_X9_sleep post no_apron no_basket no_ground no_bruised no_ladder no_helper no_today no_clock pa_undoable pa_free pa_cells := by
  have l0 : Int32.toInt ((-1) : Int32) = -1 := (by decide)
  have l1 : Int32.toInt (0 : Int32) = 0 := (by decide)
  have l2 : Int32.toInt (1 : Int32) = 1 := (by decide)
  have l3 : Int32.toInt (104 : Int32) = 104 := (by decide)
  have l4 : Int32.toInt (12 : Int32) = 12 := (by decide)
  have l5 : Int32.toInt (13 : Int32) = 13 := (by decide)
  have l6 : Int32.toInt (2 : Int32) = 2 := (by decide)
  have l7 : Int32.toInt (3 : Int32) = 3 := (by decide)
  have l8 : Int32.toInt (4 : Int32) = 4 := (by decide)
  have l9 : Int32.toInt (5 : Int32) = 5 := (by decide)
  have l10 : Int32.toInt (6 : Int32) = 6 := (by decide)
  have l11 : Int32.toInt (7 : Int32) = 7 := (by decide)
  have l12 : Int32.toInt (8 : Int32) = 8 := (by decide)
  have l13 : Int32.toInt (9 : Int32) = 9 := (by decide)
  intro v1 ev1
  have f2 : Int32.toInt (pa_free * 8) = Int32.toInt pa_free * 8 := ta_mulc _ _ (by decide) (by omega)
  rw [← ev1] at f2
  refine And.intro (fun c3 => ?_) (fun c3 => ?_)
  · skip
    have c3 := (fa_lt _ _).mp c3
    exfalso; omega
  · skip
    have c3 := mt (fa_lt _ _).mpr c3
    have f5 : Int32.toInt (104 - 8) = Int32.toInt (104 : Int32) - Int32.toInt (8 : Int32) := ta_sub _ _ (by omega)
    refine And.intro (fun c4 => ?_) (fun c4 => ?_)
    · skip
      have c4 := (fa_le _ _).mp c4
      refine And.intro (t_in (by omega)) ?_
      have f7 := tp_r no_apron
      have e6 : ∀ k : Nat, k % 8 = 4 → -1 ≤ Int32.toInt ((upd pa_cells v1.toNatClampNeg no_apron) k) ∧ Int32.toInt ((upd pa_cells v1.toNatClampNeg no_apron) k) ≤ 7 := t_updc (C := fun k => k % 8 = 4) e0_pa_cells (fun hk => by have e9 : v1.toNatClampNeg = (Int32.toInt v1).toNat := rfl; have hk : v1.toNatClampNeg % 8 = 4 := hk; omega)
      have e8 : ∀ k : Nat, k % 8 = 6 → 0 ≤ Int32.toInt ((upd pa_cells v1.toNatClampNeg no_apron) k) ∧ Int32.toInt ((upd pa_cells v1.toNatClampNeg no_apron) k) ≤ 9 := t_updc (C := fun k => k % 8 = 6) e1_pa_cells (fun hk => by have e9 : v1.toNatClampNeg = (Int32.toInt v1).toNat := rfl; have hk : v1.toNatClampNeg % 8 = 6 := hk; omega)
      intro v9 ev9
      have f10 : Int32.toInt (v1 + 1) = Int32.toInt v1 + Int32.toInt (1 : Int32) := ta_add _ _ (by omega)
      rw [← ev9] at f10
      refine And.intro (t_in (by omega)) ?_
      have f12 := tp_r no_basket
      have e11 : ∀ k : Nat, k % 8 = 4 → -1 ≤ Int32.toInt ((upd (upd pa_cells v1.toNatClampNeg no_apron) v9.toNatClampNeg no_basket) k) ∧ Int32.toInt ((upd (upd pa_cells v1.toNatClampNeg no_apron) v9.toNatClampNeg no_basket) k) ≤ 7 := t_updc (C := fun k => k % 8 = 4) e6 (fun hk => by have e9 : v9.toNatClampNeg = (Int32.toInt v9).toNat := rfl; have hk : v9.toNatClampNeg % 8 = 4 := hk; omega)
      have e13 : ∀ k : Nat, k % 8 = 6 → 0 ≤ Int32.toInt ((upd (upd pa_cells v1.toNatClampNeg no_apron) v9.toNatClampNeg no_basket) k) ∧ Int32.toInt ((upd (upd pa_cells v1.toNatClampNeg no_apron) v9.toNatClampNeg no_basket) k) ≤ 9 := t_updc (C := fun k => k % 8 = 6) e8 (fun hk => by have e9 : v9.toNatClampNeg = (Int32.toInt v9).toNat := rfl; have hk : v9.toNatClampNeg % 8 = 6 := hk; omega)
      intro v14 ev14
      have f15 : Int32.toInt (v1 + 2) = Int32.toInt v1 + Int32.toInt (2 : Int32) := ta_add _ _ (by omega)
      rw [← ev14] at f15
      refine And.intro (t_in (by omega)) ?_
      have f17 := tp_r no_ground
      have e16 : ∀ k : Nat, k % 8 = 4 → -1 ≤ Int32.toInt ((upd (upd (upd pa_cells v1.toNatClampNeg no_apron) v9.toNatClampNeg no_basket) v14.toNatClampNeg no_ground) k) ∧ Int32.toInt ((upd (upd (upd pa_cells v1.toNatClampNeg no_apron) v9.toNatClampNeg no_basket) v14.toNatClampNeg no_ground) k) ≤ 7 := t_updc (C := fun k => k % 8 = 4) e11 (fun hk => by have e9 : v14.toNatClampNeg = (Int32.toInt v14).toNat := rfl; have hk : v14.toNatClampNeg % 8 = 4 := hk; omega)
      have e18 : ∀ k : Nat, k % 8 = 6 → 0 ≤ Int32.toInt ((upd (upd (upd pa_cells v1.toNatClampNeg no_apron) v9.toNatClampNeg no_basket) v14.toNatClampNeg no_ground) k) ∧ Int32.toInt ((upd (upd (upd pa_cells v1.toNatClampNeg no_apron) v9.toNatClampNeg no_basket) v14.toNatClampNeg no_ground) k) ≤ 9 := t_updc (C := fun k => k % 8 = 6) e13 (fun hk => by have e9 : v14.toNatClampNeg = (Int32.toInt v14).toNat := rfl; have hk : v14.toNatClampNeg % 8 = 6 := hk; omega)
      intro v19 ev19
      have f20 : Int32.toInt (v1 + 3) = Int32.toInt v1 + Int32.toInt (3 : Int32) := ta_add _ _ (by omega)
      rw [← ev19] at f20
      refine And.intro (t_in (by omega)) ?_
      have f22 := tp_r no_bruised
      have e21 : ∀ k : Nat, k % 8 = 4 → -1 ≤ Int32.toInt ((upd (upd (upd (upd pa_cells v1.toNatClampNeg no_apron) v9.toNatClampNeg no_basket) v14.toNatClampNeg no_ground) v19.toNatClampNeg no_bruised) k) ∧ Int32.toInt ((upd (upd (upd (upd pa_cells v1.toNatClampNeg no_apron) v9.toNatClampNeg no_basket) v14.toNatClampNeg no_ground) v19.toNatClampNeg no_bruised) k) ≤ 7 := t_updc (C := fun k => k % 8 = 4) e16 (fun hk => by have e9 : v19.toNatClampNeg = (Int32.toInt v19).toNat := rfl; have hk : v19.toNatClampNeg % 8 = 4 := hk; omega)
      have e23 : ∀ k : Nat, k % 8 = 6 → 0 ≤ Int32.toInt ((upd (upd (upd (upd pa_cells v1.toNatClampNeg no_apron) v9.toNatClampNeg no_basket) v14.toNatClampNeg no_ground) v19.toNatClampNeg no_bruised) k) ∧ Int32.toInt ((upd (upd (upd (upd pa_cells v1.toNatClampNeg no_apron) v9.toNatClampNeg no_basket) v14.toNatClampNeg no_ground) v19.toNatClampNeg no_bruised) k) ≤ 9 := t_updc (C := fun k => k % 8 = 6) e18 (fun hk => by have e9 : v19.toNatClampNeg = (Int32.toInt v19).toNat := rfl; have hk : v19.toNatClampNeg % 8 = 6 := hk; omega)
      intro v24 ev24
      have f25 : Int32.toInt (v1 + 4) = Int32.toInt v1 + Int32.toInt (4 : Int32) := ta_add _ _ (by omega)
      rw [← ev24] at f25
      refine And.intro (t_in (by omega)) ?_
      have e26 : ∀ k : Nat, k % 8 = 4 → -1 ≤ Int32.toInt ((upd (upd (upd (upd (upd pa_cells v1.toNatClampNeg no_apron) v9.toNatClampNeg no_basket) v14.toNatClampNeg no_ground) v19.toNatClampNeg no_bruised) v24.toNatClampNeg no_ladder) k) ∧ Int32.toInt ((upd (upd (upd (upd (upd pa_cells v1.toNatClampNeg no_apron) v9.toNatClampNeg no_basket) v14.toNatClampNeg no_ground) v19.toNatClampNeg no_bruised) v24.toNatClampNeg no_ladder) k) ≤ 7 := t_updc (C := fun k => k % 8 = 4) e21 (fun hk => by have e9 : v24.toNatClampNeg = (Int32.toInt v24).toNat := rfl; have hk : v24.toNatClampNeg % 8 = 4 := hk; omega)
      have e27 : ∀ k : Nat, k % 8 = 6 → 0 ≤ Int32.toInt ((upd (upd (upd (upd (upd pa_cells v1.toNatClampNeg no_apron) v9.toNatClampNeg no_basket) v14.toNatClampNeg no_ground) v19.toNatClampNeg no_bruised) v24.toNatClampNeg no_ladder) k) ∧ Int32.toInt ((upd (upd (upd (upd (upd pa_cells v1.toNatClampNeg no_apron) v9.toNatClampNeg no_basket) v14.toNatClampNeg no_ground) v19.toNatClampNeg no_bruised) v24.toNatClampNeg no_ladder) k) ≤ 9 := t_updc (C := fun k => k % 8 = 6) e23 (fun hk => by have e9 : v24.toNatClampNeg = (Int32.toInt v24).toNat := rfl; have hk : v24.toNatClampNeg % 8 = 6 := hk; omega)
      intro v28 ev28
      have f29 : Int32.toInt (v1 + 5) = Int32.toInt v1 + Int32.toInt (5 : Int32) := ta_add _ _ (by omega)
      rw [← ev28] at f29
      refine And.intro (t_in (by omega)) ?_
      have f31 := tp_r no_helper
      have e30 : ∀ k : Nat, k % 8 = 4 → -1 ≤ Int32.toInt ((upd (upd (upd (upd (upd (upd pa_cells v1.toNatClampNeg no_apron) v9.toNatClampNeg no_basket) v14.toNatClampNeg no_ground) v19.toNatClampNeg no_bruised) v24.toNatClampNeg no_ladder) v28.toNatClampNeg no_helper) k) ∧ Int32.toInt ((upd (upd (upd (upd (upd (upd pa_cells v1.toNatClampNeg no_apron) v9.toNatClampNeg no_basket) v14.toNatClampNeg no_ground) v19.toNatClampNeg no_bruised) v24.toNatClampNeg no_ladder) v28.toNatClampNeg no_helper) k) ≤ 7 := t_updc (C := fun k => k % 8 = 4) e26 (fun hk => by have e9 : v28.toNatClampNeg = (Int32.toInt v28).toNat := rfl; have hk : v28.toNatClampNeg % 8 = 4 := hk; omega)
      have e32 : ∀ k : Nat, k % 8 = 6 → 0 ≤ Int32.toInt ((upd (upd (upd (upd (upd (upd pa_cells v1.toNatClampNeg no_apron) v9.toNatClampNeg no_basket) v14.toNatClampNeg no_ground) v19.toNatClampNeg no_bruised) v24.toNatClampNeg no_ladder) v28.toNatClampNeg no_helper) k) ∧ Int32.toInt ((upd (upd (upd (upd (upd (upd pa_cells v1.toNatClampNeg no_apron) v9.toNatClampNeg no_basket) v14.toNatClampNeg no_ground) v19.toNatClampNeg no_bruised) v24.toNatClampNeg no_ladder) v28.toNatClampNeg no_helper) k) ≤ 9 := t_updc (C := fun k => k % 8 = 6) e27 (fun hk => by have e9 : v28.toNatClampNeg = (Int32.toInt v28).toNat := rfl; have hk : v28.toNatClampNeg % 8 = 6 := hk; omega)
      intro v33 ev33
      have f34 : Int32.toInt (v1 + 6) = Int32.toInt v1 + Int32.toInt (6 : Int32) := ta_add _ _ (by omega)
      rw [← ev33] at f34
      refine And.intro (t_in (by omega)) ?_
      have e35 : ∀ k : Nat, k % 8 = 4 → -1 ≤ Int32.toInt ((upd (upd (upd (upd (upd (upd (upd pa_cells v1.toNatClampNeg no_apron) v9.toNatClampNeg no_basket) v14.toNatClampNeg no_ground) v19.toNatClampNeg no_bruised) v24.toNatClampNeg no_ladder) v28.toNatClampNeg no_helper) v33.toNatClampNeg no_today) k) ∧ Int32.toInt ((upd (upd (upd (upd (upd (upd (upd pa_cells v1.toNatClampNeg no_apron) v9.toNatClampNeg no_basket) v14.toNatClampNeg no_ground) v19.toNatClampNeg no_bruised) v24.toNatClampNeg no_ladder) v28.toNatClampNeg no_helper) v33.toNatClampNeg no_today) k) ≤ 7 := t_updc (C := fun k => k % 8 = 4) e30 (fun hk => by have e9 : v33.toNatClampNeg = (Int32.toInt v33).toNat := rfl; have hk : v33.toNatClampNeg % 8 = 4 := hk; omega)
      have e36 : ∀ k : Nat, k % 8 = 6 → 0 ≤ Int32.toInt ((upd (upd (upd (upd (upd (upd (upd pa_cells v1.toNatClampNeg no_apron) v9.toNatClampNeg no_basket) v14.toNatClampNeg no_ground) v19.toNatClampNeg no_bruised) v24.toNatClampNeg no_ladder) v28.toNatClampNeg no_helper) v33.toNatClampNeg no_today) k) ∧ Int32.toInt ((upd (upd (upd (upd (upd (upd (upd pa_cells v1.toNatClampNeg no_apron) v9.toNatClampNeg no_basket) v14.toNatClampNeg no_ground) v19.toNatClampNeg no_bruised) v24.toNatClampNeg no_ladder) v28.toNatClampNeg no_helper) v33.toNatClampNeg no_today) k) ≤ 9 := t_updc (C := fun k => k % 8 = 6) e32 (fun hk => by have e9 : v33.toNatClampNeg = (Int32.toInt v33).toNat := rfl; have hk : v33.toNatClampNeg % 8 = 6 := hk; omega)
      intro v37 ev37
      have f38 : Int32.toInt (v1 + 7) = Int32.toInt v1 + Int32.toInt (7 : Int32) := ta_add _ _ (by omega)
      rw [← ev37] at f38
      refine And.intro (t_in (by omega)) ?_
      have f40 := tp_r no_clock
      have e39 : ∀ k : Nat, k % 8 = 4 → -1 ≤ Int32.toInt ((upd (upd (upd (upd (upd (upd (upd (upd pa_cells v1.toNatClampNeg no_apron) v9.toNatClampNeg no_basket) v14.toNatClampNeg no_ground) v19.toNatClampNeg no_bruised) v24.toNatClampNeg no_ladder) v28.toNatClampNeg no_helper) v33.toNatClampNeg no_today) v37.toNatClampNeg no_clock) k) ∧ Int32.toInt ((upd (upd (upd (upd (upd (upd (upd (upd pa_cells v1.toNatClampNeg no_apron) v9.toNatClampNeg no_basket) v14.toNatClampNeg no_ground) v19.toNatClampNeg no_bruised) v24.toNatClampNeg no_ladder) v28.toNatClampNeg no_helper) v33.toNatClampNeg no_today) v37.toNatClampNeg no_clock) k) ≤ 7 := t_updc (C := fun k => k % 8 = 4) e35 (fun hk => by have e9 : v37.toNatClampNeg = (Int32.toInt v37).toNat := rfl; have hk : v37.toNatClampNeg % 8 = 4 := hk; omega)
      have e41 : ∀ k : Nat, k % 8 = 6 → 0 ≤ Int32.toInt ((upd (upd (upd (upd (upd (upd (upd (upd pa_cells v1.toNatClampNeg no_apron) v9.toNatClampNeg no_basket) v14.toNatClampNeg no_ground) v19.toNatClampNeg no_bruised) v24.toNatClampNeg no_ladder) v28.toNatClampNeg no_helper) v33.toNatClampNeg no_today) v37.toNatClampNeg no_clock) k) ∧ Int32.toInt ((upd (upd (upd (upd (upd (upd (upd (upd pa_cells v1.toNatClampNeg no_apron) v9.toNatClampNeg no_basket) v14.toNatClampNeg no_ground) v19.toNatClampNeg no_bruised) v24.toNatClampNeg no_ladder) v28.toNatClampNeg no_helper) v33.toNatClampNeg no_today) v37.toNatClampNeg no_clock) k) ≤ 9 := t_updc (C := fun k => k % 8 = 6) e36 (fun hk => by have e9 : v37.toNatClampNeg = (Int32.toInt v37).toNat := rfl; have hk : v37.toNatClampNeg % 8 = 6 := hk; omega)
      refine And.intro (fun c42 => ?_) (fun c42 => ?_)
      · skip
        have c42 := (fa_lt _ _).mp c42
        intro v43 ev43
        have f44 : Int32.toInt (no_today + 1) = Int32.toInt no_today + Int32.toInt (1 : Int32) := ta_add _ _ (by omega)
        rw [← ev43] at f44
        intro v45 ev45
        refine And.intro (fun c46 => ?_) (fun c46 => ?_)
        · skip
          have c46 := (fa_lt _ _).mp c46
          exfalso; omega
        · skip
          have c46 := mt (fa_lt _ _).mpr c46
          intro v47 ev47
          have f48 : Int32.toInt (pa_free + 1) = Int32.toInt pa_free + Int32.toInt (1 : Int32) := ta_add _ _ (by omega)
          rw [← ev47] at f48
          intro v49 ev49
          have f50 : Int32.toInt (v47 - v47 / 13 * 13) = Int32.toInt v47 % 13 := ti_rem _ _ (by decide) (by omega) (by decide)
          rw [← ev49] at f50
          intro v51 ev51
          have f52 : Int32.toInt (pa_undoable + 1) = Int32.toInt pa_undoable + Int32.toInt (1 : Int32) := ta_add _ _ (by omega)
          rw [← ev51] at f52
          intro v53 ev53
          have f54 := ti_min (12 : Int32) v51
          have hv53 := congrArg Int32.toInt ev53
          exact hpost _ _ _ _ _ _ _ _ _ (by omega) (by omega) (by omega) (by omega) (by omega) e39 e41
      · skip
        have c42 := mt (fa_lt _ _).mpr c42
        refine And.intro (fun _ => ?_) (fun h9 => absurd h9 (by decide))
        exact hpost _ _ _ _ _ _ _ _ _ (by omega) (by omega) (by omega) (by omega) (by omega) e39 e41
    · skip
      have c4 := mt (fa_le _ _).mpr c4
      exfalso; omega
set_option maxHeartbeats 8000000 in
set_option maxRecDepth 200000 in
theorem ts_X9_doAct_143 {post : Int32 → Int32 → Int32 → Int32 → Int32 → Int32 → Int32 → Int32 → Int32 → (Nat → Int32) → (Nat → Int32) → Prop} (tr_fruits : Int32) (tr_standings : Int32) (tr_x : Nat → Int32) (tr_height : Nat → Int32) (tr_worth : Nat → Int32) (tr_ripe : Nat → Int32) (tr_foot : Nat → Int32) (tr_fork : Nat → Int32) (tr_settings : Nat → Int32) (ru_length : Int32) (ru_program : Nat → Int32) (h_tr_fruits : 0 ≤ Int32.toInt tr_fruits ∧ Int32.toInt tr_fruits ≤ 16) (h_tr_standings : 0 ≤ Int32.toInt tr_standings ∧ Int32.toInt tr_standings ≤ 8) (h_ru_length : 0 ≤ Int32.toInt ru_length ∧ Int32.toInt ru_length ≤ 40) (hpost : ∀ (r : Int32) (no_apron' : Int32) (no_basket' : Int32) (no_ground' : Int32) (no_bruised' : Int32) (no_ladder' : Int32) (no_helper' : Int32) (no_today' : Int32) (no_clock' : Int32) (ru_given' : Nat → Int32) (ru_stack' : Nat → Int32), (-1 ≤ Int32.toInt no_ladder' ∧ Int32.toInt no_ladder' ≤ 7) → (0 ≤ Int32.toInt no_today' ∧ Int32.toInt no_today' ≤ 9) → post r no_apron' no_basket' no_ground' no_bruised' no_ladder' no_helper' no_today' no_clock' ru_given' ru_stack') (no_apron : Int32) (no_basket : Int32) (no_ground : Int32) (no_bruised : Int32) (no_ladder : Int32) (no_helper : Int32) (no_today : Int32) (no_clock : Int32) (ru_given : Nat → Int32) (ru_stack : Nat → Int32) (h_no_ladder : -1 ≤ Int32.toInt no_ladder ∧ Int32.toInt no_ladder ≤ 7) (h_no_today : 0 ≤ Int32.toInt no_today ∧ Int32.toInt no_today ≤ 9) : ws_X9_doAct_143 post tr_fruits tr_standings tr_x tr_height tr_worth tr_ripe tr_foot tr_fork tr_settings ru_length ru_program no_apron no_basket no_ground no_bruised no_ladder no_helper no_today no_clock ru_given ru_stack := by
  have l0 : Int32.toInt ((-1) : Int32) = -1 := (by decide)
  have l1 : Int32.toInt (1 : Int32) = 1 := (by decide)
  have l2 : Int32.toInt (9 : Int32) = 9 := (by decide)
  refine And.intro (fun c1 => ?_) (fun c1 => ?_)
  · skip
    have c1 := (fa_lt _ _).mp c1
    intro v2 ev2
    have f3 : Int32.toInt (no_today + 1) = Int32.toInt no_today + Int32.toInt (1 : Int32) := ta_add _ _ (by omega)
    rw [← ev2] at f3
    intro v4 ev4
    exact hpost _ _ _ _ _ _ _ _ _ _ _ (by omega) (by omega)
  · skip
    have c1 := mt (fa_lt _ _).mpr c1
    exact hpost _ _ _ _ _ _ _ _ _ _ _ (by omega) (by omega)
set_option maxHeartbeats 8000000 in
set_option maxRecDepth 200000 in
theorem t_X9_doAct {post : Int32 → Int32 → Int32 → Int32 → Int32 → Int32 → Int32 → Int32 → Int32 → (Nat → Int32) → (Nat → Int32) → Prop} {p0 : Int32} {p1 : Int32} {tr_fruits : Int32} {tr_standings : Int32} {tr_x : Nat → Int32} {tr_height : Nat → Int32} {tr_worth : Nat → Int32} {tr_ripe : Nat → Int32} {tr_foot : Nat → Int32} {tr_fork : Nat → Int32} {tr_settings : Nat → Int32} {no_apron : Int32} {no_basket : Int32} {no_ground : Int32} {no_bruised : Int32} {no_ladder : Int32} {no_helper : Int32} {no_today : Int32} {no_clock : Int32} {ru_length : Int32} {ru_given : Nat → Int32} {ru_stack : Nat → Int32} {ru_program : Nat → Int32} (h_tr_fruits : 0 ≤ Int32.toInt tr_fruits ∧ Int32.toInt tr_fruits ≤ 16) (h_tr_standings : 0 ≤ Int32.toInt tr_standings ∧ Int32.toInt tr_standings ≤ 8) (h_no_ladder : -1 ≤ Int32.toInt no_ladder ∧ Int32.toInt no_ladder ≤ 7) (h_no_today : 0 ≤ Int32.toInt no_today ∧ Int32.toInt no_today ≤ 9) (h_ru_length : 0 ≤ Int32.toInt ru_length ∧ Int32.toInt ru_length ≤ 40) (hpost : ∀ (r : Int32) (no_apron' : Int32) (no_basket' : Int32) (no_ground' : Int32) (no_bruised' : Int32) (no_ladder' : Int32) (no_helper' : Int32) (no_today' : Int32) (no_clock' : Int32) (ru_given' : Nat → Int32) (ru_stack' : Nat → Int32), (-1 ≤ Int32.toInt no_ladder' ∧ Int32.toInt no_ladder' ≤ 7) → (0 ≤ Int32.toInt no_today' ∧ Int32.toInt no_today' ≤ 9) → post r no_apron' no_basket' no_ground' no_bruised' no_ladder' no_helper' no_today' no_clock' ru_given' ru_stack') : wp_X9_doAct post p0 p1 tr_fruits tr_standings tr_x tr_height tr_worth tr_ripe tr_foot tr_fork tr_settings no_apron no_basket no_ground no_bruised no_ladder no_helper no_today no_clock ru_length ru_given ru_stack ru_program := by
  have l0 : Int32.toInt ((-1) : Int32) = -1 := (by decide)
  have l1 : Int32.toInt (0 : Int32) = 0 := (by decide)
  have l2 : Int32.toInt (100 : Int32) = 100 := (by decide)
  have l3 : Int32.toInt (104 : Int32) = 104 := (by decide)
  have l4 : Int32.toInt (107 : Int32) = 107 := (by decide)
  have l5 : Int32.toInt (109 : Int32) = 109 := (by decide)
  have l6 : Int32.toInt (111 : Int32) = 111 := (by decide)
  have l7 : Int32.toInt (112 : Int32) = 112 := (by decide)
  have l8 : Int32.toInt (252645135 : Int32) = 252645135 := (by decide)
  have l9 : Int32.toInt (858993459 : Int32) = 858993459 := (by decide)
  have l10 : Int32.toInt (97 : Int32) = 97 := (by decide)
  have l11 : Int32.toInt (9999 : Int32) = 9999 := (by decide)
  have f5 := tp_r p0
  refine And.intro (fun c6 => ?_) ?_
  · skip
    have c6 := (fa_eq _ _).mp c6
    refine t_X9_isYesOrNo  (fun r7 h_r7 => ?_)
    refine And.intro (fun c8 => ?_) (fun c8 => ?_)
    · skip
      have c8 := mt (fa_eq _ _).mpr c8
      exact hpost _ _ _ _ _ _ _ _ _ _ _ (by omega) (by omega)
    · skip
      have c8 := (fa_eq _ _).mp c8
      exact hpost _ _ _ _ _ _ _ _ _ _ _ (by omega) (by omega)
  refine And.intro (fun c9 => ?_) ?_
  · skip
    have c9 := (fa_eq _ _).mp c9
    refine And.intro (fun c10 => ?_) (fun c10 => ?_)
    · skip
      have c10 := (fa_eq _ _).mp c10
      exact hpost _ _ _ _ _ _ _ _ _ _ _ (by omega) (by omega)
    · skip
      have c10 := mt (fa_eq _ _).mpr c10
      have f12 := tp_r no_apron
      refine And.intro (fun c11 => ?_) (fun c11 => ?_)
      · skip
        have c11 := mt (fa_eq _ _).mpr c11
        intro v13 ev13
        intro v14 ev14
        have hv14 := congrArg Int32.toInt ev14
        intro v16 ev16
        have f17 := ti_andr v14 858993459 (by omega)
        have hv16 := congrArg Int32.toInt ev16
        intro v18 ev18
        intro v19 ev19
        have f21 := ti_andr v18 858993459 (by omega)
        have f20 : Int32.toInt (v16 + (v18 &&& 858993459)) = Int32.toInt v16 + Int32.toInt (v18 &&& 858993459) := ta_add _ _ (by omega)
        rw [← ev19] at f20
        intro v22 ev22
        have hv22 := congrArg Int32.toInt ev22
        intro v24 ev24
        have f25 := ti_andr v22 252645135 (by omega)
        have hv24 := congrArg Int32.toInt ev24
        intro v26 ev26
        have hv26 := congrArg Int32.toInt ev26
        intro v28 ev28
        have hv28 := congrArg Int32.toInt ev28
        intro v30 ev30
        refine And.intro (t_in (by omega)) ?_
        intro v31 ev31
        have hv31 := congrArg Int32.toInt ev31
        intro v33 ev33
        have hv33 := congrArg Int32.toInt ev33
        intro v35 ev35
        have hv35 := congrArg Int32.toInt ev35
        intro v37 ev37
        have f38 := tp_r (if v35 < 9999 then v35 else 9999)
        have f40 := tp_r v35
        have f39 := ti_min (9999 : Int32) v35
        have hv37 := congrArg Int32.toInt ev37
        exact hpost _ _ _ _ _ _ _ _ _ _ _ (by omega) (by omega)
      · skip
        have c11 := (fa_eq _ _).mp c11
        exact hpost _ _ _ _ _ _ _ _ _ _ _ (by omega) (by omega)
  refine And.intro (fun c41 => ?_) ?_
  · skip
    have c41 := (fa_eq _ _).mp c41
    refine t_X0_pickFruit (by omega) (by omega) (by omega) (by omega) (fun r47 no_apron_42 no_bruised_43 no_clock_44 ru_given_45 ru_stack_46 h_r47 => ?_)
    exact hpost _ _ _ _ _ _ _ _ _ _ _ (by omega) (by omega)
  refine And.intro (fun c48 => ?_) ?_
  · skip
    have c48 := (fa_eq _ _).mp c48
    refine t_X0_shakeTree (by omega) (by omega) (by omega) (fun r52 no_ground_49 no_bruised_50 no_clock_51 h_r52 => ?_)
    exact hpost _ _ _ _ _ _ _ _ _ _ _ (by omega) (by omega)
  refine And.intro (fun c53 => ?_) ?_
  · skip
    have c53 := (fa_eq _ _).mp c53
    refine t_X0_setLadder (by omega) (by omega) (fun r58 no_apron_54 no_basket_55 no_ladder_56 no_clock_57 h_no_ladder_56 => ?_)
    exact hpost _ _ _ _ _ _ _ _ _ _ _ (by omega) (by omega)
  refine And.intro (fun c59 => ?_) ?_
  · skip
    have c59 := (fa_eq _ _).mp c59
    refine t_X9_isYesOrNo  (fun r60 h_r60 => ?_)
    refine And.intro (fun c61 => ?_) (fun c61 => ?_)
    · skip
      have c61 := mt (fa_eq _ _).mpr c61
      exact hpost _ _ _ _ _ _ _ _ _ _ _ (by omega) (by omega)
    · skip
      have c61 := (fa_eq _ _).mp c61
      exact hpost _ _ _ _ _ _ _ _ _ _ _ (by omega) (by omega)
  refine And.intro (fun c62 => ?_) ?_
  · skip
    have c62 := (fa_eq _ _).mp c62
    refine t_X0_pickFruit (by omega) (by omega) (by omega) (by omega) (fun r68 no_apron_63 no_bruised_64 no_clock_65 ru_given_66 ru_stack_67 h_r68 => ?_)
    exact hpost _ _ _ _ _ _ _ _ _ _ _ (by omega) (by omega)
  intro c69 c70 c71 c72 c73 c74 c75
  have c69 := mt (fa_eq _ _).mpr c69
  have c70 := mt (fa_eq _ _).mpr c70
  have c71 := mt (fa_eq _ _).mpr c71
  have c72 := mt (fa_eq _ _).mpr c72
  have c73 := mt (fa_eq _ _).mpr c73
  have c74 := mt (fa_eq _ _).mpr c74
  have c75 := mt (fa_eq _ _).mpr c75
  have f76 := tp_r no_apron
  have f77 := tp_r no_basket
  have f78 := tp_r no_ground
  have f79 := tp_r no_bruised
  have f80 := tp_r no_helper
  have f81 := tp_r no_clock
  exact ts_X9_doAct_143 tr_fruits tr_standings tr_x tr_height tr_worth tr_ripe tr_foot tr_fork tr_settings ru_length ru_program h_tr_fruits h_tr_standings h_ru_length hpost no_apron no_basket no_ground no_bruised no_ladder no_helper no_today no_clock ru_given ru_stack (by omega) (by omega)
set_option maxHeartbeats 8000000 in
set_option maxRecDepth 200000 in
theorem ts_X9_doActs_118 {post : Int32 → Int32 → Int32 → Int32 → Int32 → Int32 → Int32 → Int32 → Int32 → (Nat → Int32) → (Nat → Int32) → Int32 → Int32 → (Nat → Int32) → Int32 → (Nat → Int32) → Prop} (x_acts : Nat → Int32) (tr_fruits : Int32) (tr_standings : Int32) (tr_x : Nat → Int32) (tr_height : Nat → Int32) (tr_worth : Nat → Int32) (tr_ripe : Nat → Int32) (tr_foot : Nat → Int32) (tr_fork : Nat → Int32) (tr_settings : Nat → Int32) (ru_length : Int32) (ru_program : Nat → Int32) (h_tr_fruits : 0 ≤ Int32.toInt tr_fruits ∧ Int32.toInt tr_fruits ≤ 16) (h_tr_standings : 0 ≤ Int32.toInt tr_standings ∧ Int32.toInt tr_standings ≤ 8) (h_ru_length : 0 ≤ Int32.toInt ru_length ∧ Int32.toInt ru_length ≤ 40) (hpost : ∀ (r : Int32) (no_apron' : Int32) (no_basket' : Int32) (no_ground' : Int32) (no_bruised' : Int32) (no_ladder' : Int32) (no_helper' : Int32) (no_today' : Int32) (no_clock' : Int32) (ru_given' : Nat → Int32) (ru_stack' : Nat → Int32) (pa_undoable' : Int32) (pa_free' : Int32) (pa_cells' : Nat → Int32) (ro_size' : Int32) (ro_numbers' : Nat → Int32), (-1 ≤ Int32.toInt no_ladder' ∧ Int32.toInt no_ladder' ≤ 7) → (0 ≤ Int32.toInt no_today' ∧ Int32.toInt no_today' ≤ 9) → (0 ≤ Int32.toInt pa_undoable' ∧ Int32.toInt pa_undoable' ≤ 12) → (0 ≤ Int32.toInt pa_free' ∧ Int32.toInt pa_free' ≤ 12) → (∀ k : Nat, k % 8 = 4 → -1 ≤ Int32.toInt (pa_cells' k) ∧ Int32.toInt (pa_cells' k) ≤ 7) → (∀ k : Nat, k % 8 = 6 → 0 ≤ Int32.toInt (pa_cells' k) ∧ Int32.toInt (pa_cells' k) ≤ 9) → (2 ≤ Int32.toInt ro_size' ∧ Int32.toInt ro_size' ≤ 2) → post r no_apron' no_basket' no_ground' no_bruised' no_ladder' no_helper' no_today' no_clock' ru_given' ru_stack' pa_undoable' pa_free' pa_cells' ro_size' ro_numbers') (x2 : Int32) (x3 : Int32) (x4 : Int32) (no_apron : Int32) (no_basket : Int32) (no_ground : Int32) (no_bruised : Int32) (no_ladder : Int32) (no_helper : Int32) (no_today : Int32) (no_clock : Int32) (ru_given : Nat → Int32) (ru_stack : Nat → Int32) (pa_undoable : Int32) (pa_free : Int32) (pa_cells : Nat → Int32) (ro_size : Int32) (ro_numbers : Nat → Int32) (h_x4 : 0 ≤ Int32.toInt x4 ∧ Int32.toInt x4 ≤ 1) (h_no_ladder : -1 ≤ Int32.toInt no_ladder ∧ Int32.toInt no_ladder ≤ 7) (h_no_today : 0 ≤ Int32.toInt no_today ∧ Int32.toInt no_today ≤ 9) (h_pa_undoable : 0 ≤ Int32.toInt pa_undoable ∧ Int32.toInt pa_undoable ≤ 12) (h_pa_free : 0 ≤ Int32.toInt pa_free ∧ Int32.toInt pa_free ≤ 12) (e0_pa_cells : ∀ k : Nat, k % 8 = 4 → -1 ≤ Int32.toInt (pa_cells k) ∧ Int32.toInt (pa_cells k) ≤ 7) (e1_pa_cells : ∀ k : Nat, k % 8 = 6 → 0 ≤ Int32.toInt (pa_cells k) ∧ Int32.toInt (pa_cells k) ≤ 9) (h_ro_size : 0 ≤ Int32.toInt ro_size ∧ Int32.toInt ro_size ≤ 16) : ws_X9_doActs_118 post x_acts tr_fruits tr_standings tr_x tr_height tr_worth tr_ripe tr_foot tr_fork tr_settings ru_length ru_program x2 x3 x4 no_apron no_basket no_ground no_bruised no_ladder no_helper no_today no_clock ru_given ru_stack pa_undoable pa_free pa_cells ro_size ro_numbers := by
  have l0 : Int32.toInt (0 : Int32) = 0 := (by decide)
  have l1 : Int32.toInt (1 : Int32) = 1 := (by decide)
  have l2 : Int32.toInt (16 : Int32) = 16 := (by decide)
  refine And.intro (fun h9 => absurd h9 (by decide)) (fun _ => ?_)
  refine And.intro (t_in (by omega)) ?_
  intro v1 ev1
  have f2 : Int32.toInt (0 + 1) = Int32.toInt (0 : Int32) + Int32.toInt (1 : Int32) := ta_add _ _ (by omega)
  rw [← ev1] at f2
  refine And.intro (fun c3 => ?_) (fun c3 => ?_)
  · skip
    have c3 := (fa_le _ _).mp c3
    exfalso; omega
  · skip
    have c3 := mt (fa_le _ _).mpr c3
    refine And.intro (t_in (by omega)) ?_
    intro v4 ev4
    have f5 : Int32.toInt (v1 + 1) = Int32.toInt v1 + Int32.toInt (1 : Int32) := ta_add _ _ (by omega)
    rw [← ev4] at f5
    exact hpost _ _ _ _ _ _ _ _ _ _ _ _ _ _ _ _ (by omega) (by omega) (by omega) (by omega) e0_pa_cells e1_pa_cells (by omega)
set_option maxHeartbeats 8000000 in
set_option maxRecDepth 200000 in
theorem ts_X9_doActs_107 {post : Int32 → Int32 → Int32 → Int32 → Int32 → Int32 → Int32 → Int32 → Int32 → (Nat → Int32) → (Nat → Int32) → Int32 → Int32 → (Nat → Int32) → Int32 → (Nat → Int32) → Prop} (x_acts : Nat → Int32) (tr_fruits : Int32) (tr_standings : Int32) (tr_x : Nat → Int32) (tr_height : Nat → Int32) (tr_worth : Nat → Int32) (tr_ripe : Nat → Int32) (tr_foot : Nat → Int32) (tr_fork : Nat → Int32) (tr_settings : Nat → Int32) (ru_length : Int32) (ru_program : Nat → Int32) (h_tr_fruits : 0 ≤ Int32.toInt tr_fruits ∧ Int32.toInt tr_fruits ≤ 16) (h_tr_standings : 0 ≤ Int32.toInt tr_standings ∧ Int32.toInt tr_standings ≤ 8) (h_ru_length : 0 ≤ Int32.toInt ru_length ∧ Int32.toInt ru_length ≤ 40) (hpost : ∀ (r : Int32) (no_apron' : Int32) (no_basket' : Int32) (no_ground' : Int32) (no_bruised' : Int32) (no_ladder' : Int32) (no_helper' : Int32) (no_today' : Int32) (no_clock' : Int32) (ru_given' : Nat → Int32) (ru_stack' : Nat → Int32) (pa_undoable' : Int32) (pa_free' : Int32) (pa_cells' : Nat → Int32) (ro_size' : Int32) (ro_numbers' : Nat → Int32), (-1 ≤ Int32.toInt no_ladder' ∧ Int32.toInt no_ladder' ≤ 7) → (0 ≤ Int32.toInt no_today' ∧ Int32.toInt no_today' ≤ 9) → (0 ≤ Int32.toInt pa_undoable' ∧ Int32.toInt pa_undoable' ≤ 12) → (0 ≤ Int32.toInt pa_free' ∧ Int32.toInt pa_free' ≤ 12) → (∀ k : Nat, k % 8 = 4 → -1 ≤ Int32.toInt (pa_cells' k) ∧ Int32.toInt (pa_cells' k) ≤ 7) → (∀ k : Nat, k % 8 = 6 → 0 ≤ Int32.toInt (pa_cells' k) ∧ Int32.toInt (pa_cells' k) ≤ 9) → (2 ≤ Int32.toInt ro_size' ∧ Int32.toInt ro_size' ≤ 2) → post r no_apron' no_basket' no_ground' no_bruised' no_ladder' no_helper' no_today' no_clock' ru_given' ru_stack' pa_undoable' pa_free' pa_cells' ro_size' ro_numbers') (x2 : Int32) (x3 : Int32) (x4 : Int32) (no_apron : Int32) (no_basket : Int32) (no_ground : Int32) (no_bruised : Int32) (no_ladder : Int32) (no_helper : Int32) (no_today : Int32) (no_clock : Int32) (ru_given : Nat → Int32) (ru_stack : Nat → Int32) (pa_undoable : Int32) (pa_free : Int32) (pa_cells : Nat → Int32) (ro_size : Int32) (ro_numbers : Nat → Int32) (h_x4 : 0 ≤ Int32.toInt x4 ∧ Int32.toInt x4 ≤ 1) (h_no_ladder : -1 ≤ Int32.toInt no_ladder ∧ Int32.toInt no_ladder ≤ 7) (h_no_today : 0 ≤ Int32.toInt no_today ∧ Int32.toInt no_today ≤ 9) (h_pa_undoable : 0 ≤ Int32.toInt pa_undoable ∧ Int32.toInt pa_undoable ≤ 12) (h_pa_free : 0 ≤ Int32.toInt pa_free ∧ Int32.toInt pa_free ≤ 12) (e0_pa_cells : ∀ k : Nat, k % 8 = 4 → -1 ≤ Int32.toInt (pa_cells k) ∧ Int32.toInt (pa_cells k) ≤ 7) (e1_pa_cells : ∀ k : Nat, k % 8 = 6 → 0 ≤ Int32.toInt (pa_cells k) ∧ Int32.toInt (pa_cells k) ≤ 9) (h_ro_size : 0 ≤ Int32.toInt ro_size ∧ Int32.toInt ro_size ≤ 16) : ws_X9_doActs_107 post x_acts tr_fruits tr_standings tr_x tr_height tr_worth tr_ripe tr_foot tr_fork tr_settings ru_length ru_program x2 x3 x4 no_apron no_basket no_ground no_bruised no_ladder no_helper no_today no_clock ru_given ru_stack pa_undoable pa_free pa_cells ro_size ro_numbers := by
  have l0 : Int32.toInt (0 : Int32) = 0 := (by decide)
  have l1 : Int32.toInt (1 : Int32) = 1 := (by decide)
  have l2 : Int32.toInt (12 : Int32) = 12 := (by decide)
  have l3 : Int32.toInt (13 : Int32) = 13 := (by decide)
  have f7 := tp_r x2
  refine And.intro (fun c6 => ?_) (fun c6 => ?_)
  · skip
    have c6 := (fa_le _ _).mp c6
    have f8 := tp_r x3
    have f9 := tp_r no_apron
    have f10 := tp_r no_basket
    have f11 := tp_r no_ground
    have f12 := tp_r no_bruised
    have f13 := tp_r no_helper
    have f14 := tp_r no_clock
    exact ts_X9_doActs_118 x_acts tr_fruits tr_standings tr_x tr_height tr_worth tr_ripe tr_foot tr_fork tr_settings ru_length ru_program h_tr_fruits h_tr_standings h_ru_length hpost x2 x3 x4 no_apron no_basket no_ground no_bruised no_ladder no_helper no_today no_clock ru_given ru_stack pa_undoable pa_free pa_cells ro_size ro_numbers (by omega) (by omega) (by omega) (by omega) (by omega) e0_pa_cells e1_pa_cells (by omega)
  · skip
    have c6 := mt (fa_le _ _).mpr c6
    intro v15 ev15
    have f16 : Int32.toInt (pa_free + 1) = Int32.toInt pa_free + Int32.toInt (1 : Int32) := ta_add _ _ (by omega)
    rw [← ev15] at f16
    intro v17 ev17
    have f18 : Int32.toInt (v15 - v15 / 13 * 13) = Int32.toInt v15 % 13 := ti_rem _ _ (by decide) (by omega) (by decide)
    rw [← ev17] at f18
    intro v19 ev19
    have f20 : Int32.toInt (pa_undoable + 1) = Int32.toInt pa_undoable + Int32.toInt (1 : Int32) := ta_add _ _ (by omega)
    rw [← ev19] at f20
    intro v21 ev21
    have f22 := ti_min (12 : Int32) v19
    have hv21 := congrArg Int32.toInt ev21
    have f23 := tp_r x3
    have f24 := tp_r no_apron
    have f25 := tp_r no_basket
    have f26 := tp_r no_ground
    have f27 := tp_r no_bruised
    have f28 := tp_r no_helper
    have f29 := tp_r no_clock
    exact ts_X9_doActs_118 x_acts tr_fruits tr_standings tr_x tr_height tr_worth tr_ripe tr_foot tr_fork tr_settings ru_length ru_program h_tr_fruits h_tr_standings h_ru_length hpost x2 x3 x4 no_apron no_basket no_ground no_bruised no_ladder no_helper no_today no_clock ru_given ru_stack v21 v17 pa_cells ro_size ro_numbers (by omega) (by omega) (by omega) (by omega) (by omega) e0_pa_cells e1_pa_cells (by omega)
set_option maxHeartbeats 8000000 in
set_option maxRecDepth 200000 in
theorem ts_X9_doActs_101 {post : Int32 → Int32 → Int32 → Int32 → Int32 → Int32 → Int32 → Int32 → Int32 → (Nat → Int32) → (Nat → Int32) → Int32 → Int32 → (Nat → Int32) → Int32 → (Nat → Int32) → Prop} {K21 : Int32 → Int32 → Int32 → Int32 → Int32 → Int32 → Int32 → Int32 → Int32 → Int32 → Int32 → Int32 → Int32 → (Nat → Int32) → (Nat → Int32) → Int32 → Int32 → (Nat → Int32) → Int32 → (Nat → Int32) → Prop} {n21 : Int} (x_acts : Nat → Int32) (tr_fruits : Int32) (tr_standings : Int32) (tr_x : Nat → Int32) (tr_height : Nat → Int32) (tr_worth : Nat → Int32) (tr_ripe : Nat → Int32) (tr_foot : Nat → Int32) (tr_fork : Nat → Int32) (tr_settings : Nat → Int32) (ru_length : Int32) (ru_program : Nat → Int32) (h_tr_fruits : 0 ≤ Int32.toInt tr_fruits ∧ Int32.toInt tr_fruits ≤ 16) (h_tr_standings : 0 ≤ Int32.toInt tr_standings ∧ Int32.toInt tr_standings ≤ 8) (h_ru_length : 0 ≤ Int32.toInt ru_length ∧ Int32.toInt ru_length ≤ 40) (hpost : ∀ (r : Int32) (no_apron' : Int32) (no_basket' : Int32) (no_ground' : Int32) (no_bruised' : Int32) (no_ladder' : Int32) (no_helper' : Int32) (no_today' : Int32) (no_clock' : Int32) (ru_given' : Nat → Int32) (ru_stack' : Nat → Int32) (pa_undoable' : Int32) (pa_free' : Int32) (pa_cells' : Nat → Int32) (ro_size' : Int32) (ro_numbers' : Nat → Int32), (-1 ≤ Int32.toInt no_ladder' ∧ Int32.toInt no_ladder' ≤ 7) → (0 ≤ Int32.toInt no_today' ∧ Int32.toInt no_today' ≤ 9) → (0 ≤ Int32.toInt pa_undoable' ∧ Int32.toInt pa_undoable' ≤ 12) → (0 ≤ Int32.toInt pa_free' ∧ Int32.toInt pa_free' ≤ 12) → (∀ k : Nat, k % 8 = 4 → -1 ≤ Int32.toInt (pa_cells' k) ∧ Int32.toInt (pa_cells' k) ≤ 7) → (∀ k : Nat, k % 8 = 6 → 0 ≤ Int32.toInt (pa_cells' k) ∧ Int32.toInt (pa_cells' k) ≤ 9) → (2 ≤ Int32.toInt ro_size' ∧ Int32.toInt ro_size' ≤ 2) → post r no_apron' no_basket' no_ground' no_bruised' no_ladder' no_helper' no_today' no_clock' ru_given' ru_stack' pa_undoable' pa_free' pa_cells' ro_size' ro_numbers') (hK21 : ∀ (x1 : Int32) (x2 : Int32) (x3 : Int32) (x4 : Int32) (x5 : Int32) (no_apron : Int32) (no_basket : Int32) (no_ground : Int32) (no_bruised : Int32) (no_ladder : Int32) (no_helper : Int32) (no_today : Int32) (no_clock : Int32) (ru_given : Nat → Int32) (ru_stack : Nat → Int32) (pa_undoable : Int32) (pa_free : Int32) (pa_cells : Nat → Int32) (ro_size : Int32) (ro_numbers : Nat → Int32), (-1 ≤ Int32.toInt x1 ∧ Int32.toInt x1 ≤ 30) → (0 ≤ Int32.toInt x4 ∧ Int32.toInt x4 ≤ 1) → (0 ≤ Int32.toInt x5 ∧ Int32.toInt x5 ≤ 30) → (-1 ≤ Int32.toInt no_ladder ∧ Int32.toInt no_ladder ≤ 7) → (0 ≤ Int32.toInt no_today ∧ Int32.toInt no_today ≤ 9) → (0 ≤ Int32.toInt pa_undoable ∧ Int32.toInt pa_undoable ≤ 12) → (0 ≤ Int32.toInt pa_free ∧ Int32.toInt pa_free ≤ 12) → (∀ k : Nat, k % 8 = 4 → -1 ≤ Int32.toInt (pa_cells k) ∧ Int32.toInt (pa_cells k) ≤ 7) → (∀ k : Nat, k % 8 = 6 → 0 ≤ Int32.toInt (pa_cells k) ∧ Int32.toInt (pa_cells k) ≤ 9) → (0 ≤ Int32.toInt ro_size ∧ Int32.toInt ro_size ≤ 16) → (30 - Int32.toInt x5 < n21) → K21 x1 x2 x3 x4 x5 no_apron no_basket no_ground no_bruised no_ladder no_helper no_today no_clock ru_given ru_stack pa_undoable pa_free pa_cells ro_size ro_numbers) (x1 : Int32) (x2 : Int32) (x3 : Int32) (x4 : Int32) (x5 : Int32) (no_apron : Int32) (no_basket : Int32) (no_ground : Int32) (no_bruised : Int32) (no_ladder : Int32) (no_helper : Int32) (no_today : Int32) (no_clock : Int32) (ru_given : Nat → Int32) (ru_stack : Nat → Int32) (pa_undoable : Int32) (pa_free : Int32) (pa_cells : Nat → Int32) (ro_size : Int32) (ro_numbers : Nat → Int32) (h_x1 : 1 ≤ Int32.toInt x1 ∧ Int32.toInt x1 ≤ 30) (h_x4 : 0 ≤ Int32.toInt x4 ∧ Int32.toInt x4 ≤ 1) (h_x5 : 0 ≤ Int32.toInt x5 ∧ Int32.toInt x5 ≤ 29) (h_no_ladder : -1 ≤ Int32.toInt no_ladder ∧ Int32.toInt no_ladder ≤ 7) (h_no_today : 0 ≤ Int32.toInt no_today ∧ Int32.toInt no_today ≤ 9) (h_pa_undoable : 0 ≤ Int32.toInt pa_undoable ∧ Int32.toInt pa_undoable ≤ 12) (h_pa_free : 0 ≤ Int32.toInt pa_free ∧ Int32.toInt pa_free ≤ 12) (e0_pa_cells : ∀ k : Nat, k % 8 = 4 → -1 ≤ Int32.toInt (pa_cells k) ∧ Int32.toInt (pa_cells k) ≤ 7) (e1_pa_cells : ∀ k : Nat, k % 8 = 6 → 0 ≤ Int32.toInt (pa_cells k) ∧ Int32.toInt (pa_cells k) ≤ 9) (h_ro_size : 0 ≤ Int32.toInt ro_size ∧ Int32.toInt ro_size ≤ 16) (hn21 : 30 - Int32.toInt x5 ≤ n21) : ws_X9_doActs_101 post K21 x_acts tr_fruits tr_standings tr_x tr_height tr_worth tr_ripe tr_foot tr_fork tr_settings ru_length ru_program x1 x2 x3 x4 x5 no_apron no_basket no_ground no_bruised no_ladder no_helper no_today no_clock ru_given ru_stack pa_undoable pa_free pa_cells ro_size ro_numbers := by
  have l0 : Int32.toInt (1 : Int32) = 1 := (by decide)
  intro v30 ev30
  have f31 : Int32.toInt (x5 + 1) = Int32.toInt x5 + Int32.toInt (1 : Int32) := ta_add _ _ (by omega)
  rw [← ev30] at f31
  have f32 := tp_r x2
  have f33 := tp_r x3
  have f34 := tp_r no_apron
  have f35 := tp_r no_basket
  have f36 := tp_r no_ground
  have f37 := tp_r no_bruised
  have f38 := tp_r no_helper
  have f39 := tp_r no_clock
  exact hK21 x1 x2 x3 x4 v30 no_apron no_basket no_ground no_bruised no_ladder no_helper no_today no_clock ru_given ru_stack pa_undoable pa_free pa_cells ro_size ro_numbers (by omega) (by omega) (by omega) (by omega) (by omega) (by omega) (by omega) e0_pa_cells e1_pa_cells (by omega) (by omega)
set_option maxHeartbeats 8000000 in
set_option maxRecDepth 200000 in
theorem ts_X9_doActs_99 {post : Int32 → Int32 → Int32 → Int32 → Int32 → Int32 → Int32 → Int32 → Int32 → (Nat → Int32) → (Nat → Int32) → Int32 → Int32 → (Nat → Int32) → Int32 → (Nat → Int32) → Prop} {K21 : Int32 → Int32 → Int32 → Int32 → Int32 → Int32 → Int32 → Int32 → Int32 → Int32 → Int32 → Int32 → Int32 → (Nat → Int32) → (Nat → Int32) → Int32 → Int32 → (Nat → Int32) → Int32 → (Nat → Int32) → Prop} {n21 : Int} (x_acts : Nat → Int32) (tr_fruits : Int32) (tr_standings : Int32) (tr_x : Nat → Int32) (tr_height : Nat → Int32) (tr_worth : Nat → Int32) (tr_ripe : Nat → Int32) (tr_foot : Nat → Int32) (tr_fork : Nat → Int32) (tr_settings : Nat → Int32) (ru_length : Int32) (ru_program : Nat → Int32) (h_tr_fruits : 0 ≤ Int32.toInt tr_fruits ∧ Int32.toInt tr_fruits ≤ 16) (h_tr_standings : 0 ≤ Int32.toInt tr_standings ∧ Int32.toInt tr_standings ≤ 8) (h_ru_length : 0 ≤ Int32.toInt ru_length ∧ Int32.toInt ru_length ≤ 40) (hpost : ∀ (r : Int32) (no_apron' : Int32) (no_basket' : Int32) (no_ground' : Int32) (no_bruised' : Int32) (no_ladder' : Int32) (no_helper' : Int32) (no_today' : Int32) (no_clock' : Int32) (ru_given' : Nat → Int32) (ru_stack' : Nat → Int32) (pa_undoable' : Int32) (pa_free' : Int32) (pa_cells' : Nat → Int32) (ro_size' : Int32) (ro_numbers' : Nat → Int32), (-1 ≤ Int32.toInt no_ladder' ∧ Int32.toInt no_ladder' ≤ 7) → (0 ≤ Int32.toInt no_today' ∧ Int32.toInt no_today' ≤ 9) → (0 ≤ Int32.toInt pa_undoable' ∧ Int32.toInt pa_undoable' ≤ 12) → (0 ≤ Int32.toInt pa_free' ∧ Int32.toInt pa_free' ≤ 12) → (∀ k : Nat, k % 8 = 4 → -1 ≤ Int32.toInt (pa_cells' k) ∧ Int32.toInt (pa_cells' k) ≤ 7) → (∀ k : Nat, k % 8 = 6 → 0 ≤ Int32.toInt (pa_cells' k) ∧ Int32.toInt (pa_cells' k) ≤ 9) → (2 ≤ Int32.toInt ro_size' ∧ Int32.toInt ro_size' ≤ 2) → post r no_apron' no_basket' no_ground' no_bruised' no_ladder' no_helper' no_today' no_clock' ru_given' ru_stack' pa_undoable' pa_free' pa_cells' ro_size' ro_numbers') (hK21 : ∀ (x1 : Int32) (x2 : Int32) (x3 : Int32) (x4 : Int32) (x5 : Int32) (no_apron : Int32) (no_basket : Int32) (no_ground : Int32) (no_bruised : Int32) (no_ladder : Int32) (no_helper : Int32) (no_today : Int32) (no_clock : Int32) (ru_given : Nat → Int32) (ru_stack : Nat → Int32) (pa_undoable : Int32) (pa_free : Int32) (pa_cells : Nat → Int32) (ro_size : Int32) (ro_numbers : Nat → Int32), (-1 ≤ Int32.toInt x1 ∧ Int32.toInt x1 ≤ 30) → (0 ≤ Int32.toInt x4 ∧ Int32.toInt x4 ≤ 1) → (0 ≤ Int32.toInt x5 ∧ Int32.toInt x5 ≤ 30) → (-1 ≤ Int32.toInt no_ladder ∧ Int32.toInt no_ladder ≤ 7) → (0 ≤ Int32.toInt no_today ∧ Int32.toInt no_today ≤ 9) → (0 ≤ Int32.toInt pa_undoable ∧ Int32.toInt pa_undoable ≤ 12) → (0 ≤ Int32.toInt pa_free ∧ Int32.toInt pa_free ≤ 12) → (∀ k : Nat, k % 8 = 4 → -1 ≤ Int32.toInt (pa_cells k) ∧ Int32.toInt (pa_cells k) ≤ 7) → (∀ k : Nat, k % 8 = 6 → 0 ≤ Int32.toInt (pa_cells k) ∧ Int32.toInt (pa_cells k) ≤ 9) → (0 ≤ Int32.toInt ro_size ∧ Int32.toInt ro_size ≤ 16) → (30 - Int32.toInt x5 < n21) → K21 x1 x2 x3 x4 x5 no_apron no_basket no_ground no_bruised no_ladder no_helper no_today no_clock ru_given ru_stack pa_undoable pa_free pa_cells ro_size ro_numbers) (x1 : Int32) (x2 : Int32) (x4 : Int32) (x5 : Int32) (k0 : Int32) (k1 : Int32) (no_apron : Int32) (no_basket : Int32) (no_ground : Int32) (no_bruised : Int32) (no_ladder : Int32) (no_helper : Int32) (no_today : Int32) (no_clock : Int32) (ru_given : Nat → Int32) (ru_stack : Nat → Int32) (pa_undoable : Int32) (pa_free : Int32) (pa_cells : Nat → Int32) (ro_size : Int32) (ro_numbers : Nat → Int32) (h_x1 : 1 ≤ Int32.toInt x1 ∧ Int32.toInt x1 ≤ 30) (h_x4 : 0 ≤ Int32.toInt x4 ∧ Int32.toInt x4 ≤ 0) (h_x5 : 0 ≤ Int32.toInt x5 ∧ Int32.toInt x5 ≤ 29) (h_k1 : 0 ≤ Int32.toInt k1 ∧ Int32.toInt k1 ≤ 1) (h_no_ladder : -1 ≤ Int32.toInt no_ladder ∧ Int32.toInt no_ladder ≤ 7) (h_no_today : 0 ≤ Int32.toInt no_today ∧ Int32.toInt no_today ≤ 9) (h_pa_undoable : 0 ≤ Int32.toInt pa_undoable ∧ Int32.toInt pa_undoable ≤ 12) (h_pa_free : 0 ≤ Int32.toInt pa_free ∧ Int32.toInt pa_free ≤ 12) (e0_pa_cells : ∀ k : Nat, k % 8 = 4 → -1 ≤ Int32.toInt (pa_cells k) ∧ Int32.toInt (pa_cells k) ≤ 7) (e1_pa_cells : ∀ k : Nat, k % 8 = 6 → 0 ≤ Int32.toInt (pa_cells k) ∧ Int32.toInt (pa_cells k) ≤ 9) (h_ro_size : 0 ≤ Int32.toInt ro_size ∧ Int32.toInt ro_size ≤ 16) (hn21 : 30 - Int32.toInt x5 ≤ n21) : ws_X9_doActs_99 post K21 x_acts tr_fruits tr_standings tr_x tr_height tr_worth tr_ripe tr_foot tr_fork tr_settings ru_length ru_program x1 x2 x4 x5 k0 k1 no_apron no_basket no_ground no_bruised no_ladder no_helper no_today no_clock ru_given ru_stack pa_undoable pa_free pa_cells ro_size ro_numbers := by
  intro v40 ev40
  have hv40 := congrArg Int32.toInt ev40
  have f42 := tp_r x2
  have f43 := tp_r v40
  have f44 := tp_r no_apron
  have f45 := tp_r no_basket
  have f46 := tp_r no_ground
  have f47 := tp_r no_bruised
  have f48 := tp_r no_helper
  have f49 := tp_r no_clock
  exact ts_X9_doActs_101 x_acts tr_fruits tr_standings tr_x tr_height tr_worth tr_ripe tr_foot tr_fork tr_settings ru_length ru_program h_tr_fruits h_tr_standings h_ru_length hpost hK21 x1 x2 v40 x4 x5 no_apron no_basket no_ground no_bruised no_ladder no_helper no_today no_clock ru_given ru_stack pa_undoable pa_free pa_cells ro_size ro_numbers (by omega) (by omega) (by omega) (by omega) (by omega) (by omega) (by omega) e0_pa_cells e1_pa_cells (by omega) (by omega)
set_option maxHeartbeats 8000000 in
set_option maxRecDepth 200000 in
theorem ts_X9_doActs_94 {post : Int32 → Int32 → Int32 → Int32 → Int32 → Int32 → Int32 → Int32 → Int32 → (Nat → Int32) → (Nat → Int32) → Int32 → Int32 → (Nat → Int32) → Int32 → (Nat → Int32) → Prop} {K21 : Int32 → Int32 → Int32 → Int32 → Int32 → Int32 → Int32 → Int32 → Int32 → Int32 → Int32 → Int32 → Int32 → (Nat → Int32) → (Nat → Int32) → Int32 → Int32 → (Nat → Int32) → Int32 → (Nat → Int32) → Prop} {n21 : Int} (x_acts : Nat → Int32) (tr_fruits : Int32) (tr_standings : Int32) (tr_x : Nat → Int32) (tr_height : Nat → Int32) (tr_worth : Nat → Int32) (tr_ripe : Nat → Int32) (tr_foot : Nat → Int32) (tr_fork : Nat → Int32) (tr_settings : Nat → Int32) (ru_length : Int32) (ru_program : Nat → Int32) (h_tr_fruits : 0 ≤ Int32.toInt tr_fruits ∧ Int32.toInt tr_fruits ≤ 16) (h_tr_standings : 0 ≤ Int32.toInt tr_standings ∧ Int32.toInt tr_standings ≤ 8) (h_ru_length : 0 ≤ Int32.toInt ru_length ∧ Int32.toInt ru_length ≤ 40) (hpost : ∀ (r : Int32) (no_apron' : Int32) (no_basket' : Int32) (no_ground' : Int32) (no_bruised' : Int32) (no_ladder' : Int32) (no_helper' : Int32) (no_today' : Int32) (no_clock' : Int32) (ru_given' : Nat → Int32) (ru_stack' : Nat → Int32) (pa_undoable' : Int32) (pa_free' : Int32) (pa_cells' : Nat → Int32) (ro_size' : Int32) (ro_numbers' : Nat → Int32), (-1 ≤ Int32.toInt no_ladder' ∧ Int32.toInt no_ladder' ≤ 7) → (0 ≤ Int32.toInt no_today' ∧ Int32.toInt no_today' ≤ 9) → (0 ≤ Int32.toInt pa_undoable' ∧ Int32.toInt pa_undoable' ≤ 12) → (0 ≤ Int32.toInt pa_free' ∧ Int32.toInt pa_free' ≤ 12) → (∀ k : Nat, k % 8 = 4 → -1 ≤ Int32.toInt (pa_cells' k) ∧ Int32.toInt (pa_cells' k) ≤ 7) → (∀ k : Nat, k % 8 = 6 → 0 ≤ Int32.toInt (pa_cells' k) ∧ Int32.toInt (pa_cells' k) ≤ 9) → (2 ≤ Int32.toInt ro_size' ∧ Int32.toInt ro_size' ≤ 2) → post r no_apron' no_basket' no_ground' no_bruised' no_ladder' no_helper' no_today' no_clock' ru_given' ru_stack' pa_undoable' pa_free' pa_cells' ro_size' ro_numbers') (hK21 : ∀ (x1 : Int32) (x2 : Int32) (x3 : Int32) (x4 : Int32) (x5 : Int32) (no_apron : Int32) (no_basket : Int32) (no_ground : Int32) (no_bruised : Int32) (no_ladder : Int32) (no_helper : Int32) (no_today : Int32) (no_clock : Int32) (ru_given : Nat → Int32) (ru_stack : Nat → Int32) (pa_undoable : Int32) (pa_free : Int32) (pa_cells : Nat → Int32) (ro_size : Int32) (ro_numbers : Nat → Int32), (-1 ≤ Int32.toInt x1 ∧ Int32.toInt x1 ≤ 30) → (0 ≤ Int32.toInt x4 ∧ Int32.toInt x4 ≤ 1) → (0 ≤ Int32.toInt x5 ∧ Int32.toInt x5 ≤ 30) → (-1 ≤ Int32.toInt no_ladder ∧ Int32.toInt no_ladder ≤ 7) → (0 ≤ Int32.toInt no_today ∧ Int32.toInt no_today ≤ 9) → (0 ≤ Int32.toInt pa_undoable ∧ Int32.toInt pa_undoable ≤ 12) → (0 ≤ Int32.toInt pa_free ∧ Int32.toInt pa_free ≤ 12) → (∀ k : Nat, k % 8 = 4 → -1 ≤ Int32.toInt (pa_cells k) ∧ Int32.toInt (pa_cells k) ≤ 7) → (∀ k : Nat, k % 8 = 6 → 0 ≤ Int32.toInt (pa_cells k) ∧ Int32.toInt (pa_cells k) ≤ 9) → (0 ≤ Int32.toInt ro_size ∧ Int32.toInt ro_size ≤ 16) → (30 - Int32.toInt x5 < n21) → K21 x1 x2 x3 x4 x5 no_apron no_basket no_ground no_bruised no_ladder no_helper no_today no_clock ru_given ru_stack pa_undoable pa_free pa_cells ro_size ro_numbers) (x1 : Int32) (x2 : Int32) (x4 : Int32) (x5 : Int32) (k0 : Int32) (no_apron : Int32) (no_basket : Int32) (no_ground : Int32) (no_bruised : Int32) (no_ladder : Int32) (no_helper : Int32) (no_today : Int32) (no_clock : Int32) (ru_given : Nat → Int32) (ru_stack : Nat → Int32) (pa_undoable : Int32) (pa_free : Int32) (pa_cells : Nat → Int32) (ro_size : Int32) (ro_numbers : Nat → Int32) (h_x1 : 1 ≤ Int32.toInt x1 ∧ Int32.toInt x1 ≤ 30) (h_x4 : 0 ≤ Int32.toInt x4 ∧ Int32.toInt x4 ≤ 0) (h_x5 : 0 ≤ Int32.toInt x5 ∧ Int32.toInt x5 ≤ 29) (h_no_ladder : -1 ≤ Int32.toInt no_ladder ∧ Int32.toInt no_ladder ≤ 7) (h_no_today : 0 ≤ Int32.toInt no_today ∧ Int32.toInt no_today ≤ 9) (h_pa_undoable : 0 ≤ Int32.toInt pa_undoable ∧ Int32.toInt pa_undoable ≤ 12) (h_pa_free : 0 ≤ Int32.toInt pa_free ∧ Int32.toInt pa_free ≤ 12) (e0_pa_cells : ∀ k : Nat, k % 8 = 4 → -1 ≤ Int32.toInt (pa_cells k) ∧ Int32.toInt (pa_cells k) ≤ 7) (e1_pa_cells : ∀ k : Nat, k % 8 = 6 → 0 ≤ Int32.toInt (pa_cells k) ∧ Int32.toInt (pa_cells k) ≤ 9) (h_ro_size : 0 ≤ Int32.toInt ro_size ∧ Int32.toInt ro_size ≤ 16) (hn21 : 30 - Int32.toInt x5 ≤ n21) : ws_X9_doActs_94 post K21 x_acts tr_fruits tr_standings tr_x tr_height tr_worth tr_ripe tr_foot tr_fork tr_settings ru_length ru_program x1 x2 x4 x5 k0 no_apron no_basket no_ground no_bruised no_ladder no_helper no_today no_clock ru_given ru_stack pa_undoable pa_free pa_cells ro_size ro_numbers := by
  have l0 : Int32.toInt (1 : Int32) = 1 := (by decide)
  have f50 := tp_r x2
  have f51 := tp_r k0
  have f52 := tp_r no_apron
  have f53 := tp_r no_basket
  have f54 := tp_r no_ground
  have f55 := tp_r no_bruised
  have f56 := tp_r no_helper
  have f57 := tp_r no_clock
  exact ts_X9_doActs_99 x_acts tr_fruits tr_standings tr_x tr_height tr_worth tr_ripe tr_foot tr_fork tr_settings ru_length ru_program h_tr_fruits h_tr_standings h_ru_length hpost hK21 x1 x2 x4 x5 k0 1 no_apron no_basket no_ground no_bruised no_ladder no_helper no_today no_clock ru_given ru_stack pa_undoable pa_free pa_cells ro_size ro_numbers (by omega) (by omega) (by omega) (by omega) (by omega) (by omega) (by omega) (by omega) e0_pa_cells e1_pa_cells (by omega) (by omega)
set_option maxHeartbeats 8000000 in
set_option maxRecDepth 200000 in
theorem ts_X9_doActs_21 {post : Int32 → Int32 → Int32 → Int32 → Int32 → Int32 → Int32 → Int32 → Int32 → (Nat → Int32) → (Nat → Int32) → Int32 → Int32 → (Nat → Int32) → Int32 → (Nat → Int32) → Prop} {next : Int32 → Int32 → Int32 → Int32 → Int32 → Int32 → Int32 → Int32 → Int32 → Int32 → Int32 → Int32 → Int32 → (Nat → Int32) → (Nat → Int32) → Int32 → Int32 → (Nat → Int32) → Int32 → (Nat → Int32) → Prop} {n21 : Int} (x_acts : Nat → Int32) (tr_fruits : Int32) (tr_standings : Int32) (tr_x : Nat → Int32) (tr_height : Nat → Int32) (tr_worth : Nat → Int32) (tr_ripe : Nat → Int32) (tr_foot : Nat → Int32) (tr_fork : Nat → Int32) (tr_settings : Nat → Int32) (ru_length : Int32) (ru_program : Nat → Int32) (h_tr_fruits : 0 ≤ Int32.toInt tr_fruits ∧ Int32.toInt tr_fruits ≤ 16) (h_tr_standings : 0 ≤ Int32.toInt tr_standings ∧ Int32.toInt tr_standings ≤ 8) (h_ru_length : 0 ≤ Int32.toInt ru_length ∧ Int32.toInt ru_length ≤ 40) (hpost : ∀ (r : Int32) (no_apron' : Int32) (no_basket' : Int32) (no_ground' : Int32) (no_bruised' : Int32) (no_ladder' : Int32) (no_helper' : Int32) (no_today' : Int32) (no_clock' : Int32) (ru_given' : Nat → Int32) (ru_stack' : Nat → Int32) (pa_undoable' : Int32) (pa_free' : Int32) (pa_cells' : Nat → Int32) (ro_size' : Int32) (ro_numbers' : Nat → Int32), (-1 ≤ Int32.toInt no_ladder' ∧ Int32.toInt no_ladder' ≤ 7) → (0 ≤ Int32.toInt no_today' ∧ Int32.toInt no_today' ≤ 9) → (0 ≤ Int32.toInt pa_undoable' ∧ Int32.toInt pa_undoable' ≤ 12) → (0 ≤ Int32.toInt pa_free' ∧ Int32.toInt pa_free' ≤ 12) → (∀ k : Nat, k % 8 = 4 → -1 ≤ Int32.toInt (pa_cells' k) ∧ Int32.toInt (pa_cells' k) ≤ 7) → (∀ k : Nat, k % 8 = 6 → 0 ≤ Int32.toInt (pa_cells' k) ∧ Int32.toInt (pa_cells' k) ≤ 9) → (2 ≤ Int32.toInt ro_size' ∧ Int32.toInt ro_size' ≤ 2) → post r no_apron' no_basket' no_ground' no_bruised' no_ladder' no_helper' no_today' no_clock' ru_given' ru_stack' pa_undoable' pa_free' pa_cells' ro_size' ro_numbers') (hKn : ∀ (x1 : Int32) (x2 : Int32) (x3 : Int32) (x4 : Int32) (x5 : Int32) (no_apron : Int32) (no_basket : Int32) (no_ground : Int32) (no_bruised : Int32) (no_ladder : Int32) (no_helper : Int32) (no_today : Int32) (no_clock : Int32) (ru_given : Nat → Int32) (ru_stack : Nat → Int32) (pa_undoable : Int32) (pa_free : Int32) (pa_cells : Nat → Int32) (ro_size : Int32) (ro_numbers : Nat → Int32), (-1 ≤ Int32.toInt x1 ∧ Int32.toInt x1 ≤ 30) → (0 ≤ Int32.toInt x4 ∧ Int32.toInt x4 ≤ 1) → (0 ≤ Int32.toInt x5 ∧ Int32.toInt x5 ≤ 30) → (-1 ≤ Int32.toInt no_ladder ∧ Int32.toInt no_ladder ≤ 7) → (0 ≤ Int32.toInt no_today ∧ Int32.toInt no_today ≤ 9) → (0 ≤ Int32.toInt pa_undoable ∧ Int32.toInt pa_undoable ≤ 12) → (0 ≤ Int32.toInt pa_free ∧ Int32.toInt pa_free ≤ 12) → (∀ k : Nat, k % 8 = 4 → -1 ≤ Int32.toInt (pa_cells k) ∧ Int32.toInt (pa_cells k) ≤ 7) → (∀ k : Nat, k % 8 = 6 → 0 ≤ Int32.toInt (pa_cells k) ∧ Int32.toInt (pa_cells k) ≤ 9) → (0 ≤ Int32.toInt ro_size ∧ Int32.toInt ro_size ≤ 16) → (30 - Int32.toInt x5 < n21) → next x1 x2 x3 x4 x5 no_apron no_basket no_ground no_bruised no_ladder no_helper no_today no_clock ru_given ru_stack pa_undoable pa_free pa_cells ro_size ro_numbers) (x1 : Int32) (x2 : Int32) (x3 : Int32) (x4 : Int32) (x5 : Int32) (no_apron : Int32) (no_basket : Int32) (no_ground : Int32) (no_bruised : Int32) (no_ladder : Int32) (no_helper : Int32) (no_today : Int32) (no_clock : Int32) (ru_given : Nat → Int32) (ru_stack : Nat → Int32) (pa_undoable : Int32) (pa_free : Int32) (pa_cells : Nat → Int32) (ro_size : Int32) (ro_numbers : Nat → Int32) (h_x1 : -1 ≤ Int32.toInt x1 ∧ Int32.toInt x1 ≤ 30) (h_x4 : 0 ≤ Int32.toInt x4 ∧ Int32.toInt x4 ≤ 1) (h_x5 : 0 ≤ Int32.toInt x5 ∧ Int32.toInt x5 ≤ 30) (h_no_ladder : -1 ≤ Int32.toInt no_ladder ∧ Int32.toInt no_ladder ≤ 7) (h_no_today : 0 ≤ Int32.toInt no_today ∧ Int32.toInt no_today ≤ 9) (h_pa_undoable : 0 ≤ Int32.toInt pa_undoable ∧ Int32.toInt pa_undoable ≤ 12) (h_pa_free : 0 ≤ Int32.toInt pa_free ∧ Int32.toInt pa_free ≤ 12) (e0_pa_cells : ∀ k : Nat, k % 8 = 4 → -1 ≤ Int32.toInt (pa_cells k) ∧ Int32.toInt (pa_cells k) ≤ 7) (e1_pa_cells : ∀ k : Nat, k % 8 = 6 → 0 ≤ Int32.toInt (pa_cells k) ∧ Int32.toInt (pa_cells k) ≤ 9) (h_ro_size : 0 ≤ Int32.toInt ro_size ∧ Int32.toInt ro_size ≤ 16) (hn21 : 30 - Int32.toInt x5 ≤ n21) : ws_X9_doActs_21 post next x_acts tr_fruits tr_standings tr_x tr_height tr_worth tr_ripe tr_foot tr_fork tr_settings ru_length ru_program x1 x2 x3 x4 x5 no_apron no_basket no_ground no_bruised no_ladder no_helper no_today no_clock ru_given ru_stack pa_undoable pa_free pa_cells ro_size ro_numbers := by
  have l0 : Int32.toInt (0 : Int32) = 0 := (by decide)
  have l1 : Int32.toInt (1 : Int32) = 1 := (by decide)
  have l2 : Int32.toInt (104 : Int32) = 104 := (by decide)
  have l3 : Int32.toInt (112 : Int32) = 112 := (by decide)
  have l4 : Int32.toInt (30 : Int32) = 30 := (by decide)
  refine And.intro (fun c58 => ?_) (fun c58 => ?_)
  · skip
    have c58 := (fa_le _ _).mp c58
    have f59 := tp_r x2
    have f60 := tp_r x3
    have f61 := tp_r no_apron
    have f62 := tp_r no_basket
    have f63 := tp_r no_ground
    have f64 := tp_r no_bruised
    have f65 := tp_r no_helper
    have f66 := tp_r no_clock
    exact ts_X9_doActs_107 x_acts tr_fruits tr_standings tr_x tr_height tr_worth tr_ripe tr_foot tr_fork tr_settings ru_length ru_program h_tr_fruits h_tr_standings h_ru_length hpost x2 x3 x4 no_apron no_basket no_ground no_bruised no_ladder no_helper no_today no_clock ru_given ru_stack pa_undoable pa_free pa_cells ro_size ro_numbers (by omega) (by omega) (by omega) (by omega) (by omega) e0_pa_cells e1_pa_cells (by omega)
  · skip
    have c58 := mt (fa_le _ _).mpr c58
    refine And.intro (fun c67 => ?_) (fun c67 => ?_)
    · skip
      have c67 := (fa_le _ _).mp c67
      exfalso; omega
    · skip
      have c67 := mt (fa_le _ _).mpr c67
      refine And.intro (fun c68 => ?_) (fun c68 => ?_)
      · skip
        have c68 := mt (fa_eq _ _).mpr c68
        have f69 := tp_r x2
        have f70 := tp_r x3
        have f71 := tp_r no_apron
        have f72 := tp_r no_basket
        have f73 := tp_r no_ground
        have f74 := tp_r no_bruised
        have f75 := tp_r no_helper
        have f76 := tp_r no_clock
        exact ts_X9_doActs_107 x_acts tr_fruits tr_standings tr_x tr_height tr_worth tr_ripe tr_foot tr_fork tr_settings ru_length ru_program h_tr_fruits h_tr_standings h_ru_length hpost x2 x3 x4 no_apron no_basket no_ground no_bruised no_ladder no_helper no_today no_clock ru_given ru_stack pa_undoable pa_free pa_cells ro_size ro_numbers (by omega) (by omega) (by omega) (by omega) (by omega) e0_pa_cells e1_pa_cells (by omega)
      · skip
        have c68 := (fa_eq _ _).mp c68
        refine And.intro (t_in (by omega)) ?_
        intro v77 ev77
        have hv77 := congrArg Int32.toInt ev77
        intro v79 ev79
        refine And.intro (t_in (by omega)) ?_
        intro v80 ev80
        have hv80 := congrArg Int32.toInt ev80
        intro v81 ev81
        refine t_X9_doAct (by omega) (by omega) (by omega) (by omega) (by omega) (fun r92 no_apron_82 no_basket_83 no_ground_84 no_bruised_85 no_ladder_86 no_helper_87 no_today_88 no_clock_89 ru_given_90 ru_stack_91 h_no_ladder_86 h_no_today_88 => ?_)
        have f94 := tp_r r92
        refine And.intro (fun c93 => ?_) (fun c93 => ?_)
        · skip
          have c93 := (fa_le _ _).mp c93
          intro v95 ev95
          have hv95 := congrArg Int32.toInt ev95
          have f98 := tp_r v79
          refine And.intro (fun c97 => ?_) (fun c97 => ?_)
          · skip
            have c97 := (fa_eq _ _).mp c97
            have f99 := tp_r v95
            have f100 := tp_r x3
            have f101 := tp_r no_apron_82
            have f102 := tp_r no_basket_83
            have f103 := tp_r no_ground_84
            have f104 := tp_r no_bruised_85
            have f105 := tp_r no_helper_87
            have f106 := tp_r no_clock_89
            exact ts_X9_doActs_94 x_acts tr_fruits tr_standings tr_x tr_height tr_worth tr_ripe tr_foot tr_fork tr_settings ru_length ru_program h_tr_fruits h_tr_standings h_ru_length hpost hKn x1 v95 x4 x5 x3 no_apron_82 no_basket_83 no_ground_84 no_bruised_85 no_ladder_86 no_helper_87 no_today_88 no_clock_89 ru_given_90 ru_stack_91 pa_undoable pa_free pa_cells ro_size ro_numbers (by omega) (by omega) (by omega) (by omega) (by omega) (by omega) (by omega) e0_pa_cells e1_pa_cells (by omega) (by omega)
          · skip
            have c97 := mt (fa_eq _ _).mpr c97
            refine And.intro (fun c107 => ?_) (fun c107 => ?_)
            · skip
              have c107 := mt (fa_eq _ _).mpr c107
              have f108 := tp_r v95
              have f109 := tp_r x3
              have f110 := tp_r no_apron_82
              have f111 := tp_r no_basket_83
              have f112 := tp_r no_ground_84
              have f113 := tp_r no_bruised_85
              have f114 := tp_r no_helper_87
              have f115 := tp_r no_clock_89
              exact ts_X9_doActs_99 x_acts tr_fruits tr_standings tr_x tr_height tr_worth tr_ripe tr_foot tr_fork tr_settings ru_length ru_program h_tr_fruits h_tr_standings h_ru_length hpost hKn x1 v95 x4 x5 x3 0 no_apron_82 no_basket_83 no_ground_84 no_bruised_85 no_ladder_86 no_helper_87 no_today_88 no_clock_89 ru_given_90 ru_stack_91 pa_undoable pa_free pa_cells ro_size ro_numbers (by omega) (by omega) (by omega) (by omega) (by omega) (by omega) (by omega) (by omega) e0_pa_cells e1_pa_cells (by omega) (by omega)
            · skip
              have c107 := (fa_eq _ _).mp c107
              have f116 := tp_r v95
              have f117 := tp_r x3
              have f118 := tp_r no_apron_82
              have f119 := tp_r no_basket_83
              have f120 := tp_r no_ground_84
              have f121 := tp_r no_bruised_85
              have f122 := tp_r no_helper_87
              have f123 := tp_r no_clock_89
              exact ts_X9_doActs_94 x_acts tr_fruits tr_standings tr_x tr_height tr_worth tr_ripe tr_foot tr_fork tr_settings ru_length ru_program h_tr_fruits h_tr_standings h_ru_length hpost hKn x1 v95 x4 x5 x3 no_apron_82 no_basket_83 no_ground_84 no_bruised_85 no_ladder_86 no_helper_87 no_today_88 no_clock_89 ru_given_90 ru_stack_91 pa_undoable pa_free pa_cells ro_size ro_numbers (by omega) (by omega) (by omega) (by omega) (by omega) (by omega) (by omega) e0_pa_cells e1_pa_cells (by omega) (by omega)
        · skip
          have c93 := mt (fa_le _ _).mpr c93
          have f124 := tp_r x2
          have f125 := tp_r x3
          have f126 := tp_r no_apron_82
          have f127 := tp_r no_basket_83
          have f128 := tp_r no_ground_84
          have f129 := tp_r no_bruised_85
          have f130 := tp_r no_helper_87
          have f131 := tp_r no_clock_89
          exact ts_X9_doActs_101 x_acts tr_fruits tr_standings tr_x tr_height tr_worth tr_ripe tr_foot tr_fork tr_settings ru_length ru_program h_tr_fruits h_tr_standings h_ru_length hpost hKn x1 x2 x3 1 x5 no_apron_82 no_basket_83 no_ground_84 no_bruised_85 no_ladder_86 no_helper_87 no_today_88 no_clock_89 ru_given_90 ru_stack_91 pa_undoable pa_free pa_cells ro_size ro_numbers (by omega) (by omega) (by omega) (by omega) (by omega) (by omega) (by omega) e0_pa_cells e1_pa_cells (by omega) (by omega)
set_option maxHeartbeats 8000000 in
set_option maxRecDepth 200000 in
theorem tb_X9_doActs_21 {post : Int32 → Int32 → Int32 → Int32 → Int32 → Int32 → Int32 → Int32 → Int32 → (Nat → Int32) → (Nat → Int32) → Int32 → Int32 → (Nat → Int32) → Int32 → (Nat → Int32) → Prop} (x_acts : Nat → Int32) (tr_fruits : Int32) (tr_standings : Int32) (tr_x : Nat → Int32) (tr_height : Nat → Int32) (tr_worth : Nat → Int32) (tr_ripe : Nat → Int32) (tr_foot : Nat → Int32) (tr_fork : Nat → Int32) (tr_settings : Nat → Int32) (ru_length : Int32) (ru_program : Nat → Int32) (h_tr_fruits : 0 ≤ Int32.toInt tr_fruits ∧ Int32.toInt tr_fruits ≤ 16) (h_tr_standings : 0 ≤ Int32.toInt tr_standings ∧ Int32.toInt tr_standings ≤ 8) (h_ru_length : 0 ≤ Int32.toInt ru_length ∧ Int32.toInt ru_length ≤ 40) (hpost : ∀ (r : Int32) (no_apron' : Int32) (no_basket' : Int32) (no_ground' : Int32) (no_bruised' : Int32) (no_ladder' : Int32) (no_helper' : Int32) (no_today' : Int32) (no_clock' : Int32) (ru_given' : Nat → Int32) (ru_stack' : Nat → Int32) (pa_undoable' : Int32) (pa_free' : Int32) (pa_cells' : Nat → Int32) (ro_size' : Int32) (ro_numbers' : Nat → Int32), (-1 ≤ Int32.toInt no_ladder' ∧ Int32.toInt no_ladder' ≤ 7) → (0 ≤ Int32.toInt no_today' ∧ Int32.toInt no_today' ≤ 9) → (0 ≤ Int32.toInt pa_undoable' ∧ Int32.toInt pa_undoable' ≤ 12) → (0 ≤ Int32.toInt pa_free' ∧ Int32.toInt pa_free' ≤ 12) → (∀ k : Nat, k % 8 = 4 → -1 ≤ Int32.toInt (pa_cells' k) ∧ Int32.toInt (pa_cells' k) ≤ 7) → (∀ k : Nat, k % 8 = 6 → 0 ≤ Int32.toInt (pa_cells' k) ∧ Int32.toInt (pa_cells' k) ≤ 9) → (2 ≤ Int32.toInt ro_size' ∧ Int32.toInt ro_size' ≤ 2) → post r no_apron' no_basket' no_ground' no_bruised' no_ladder' no_helper' no_today' no_clock' ru_given' ru_stack' pa_undoable' pa_free' pa_cells' ro_size' ro_numbers') : ∀ (n : Nat) (x1 : Int32) (x2 : Int32) (x3 : Int32) (x4 : Int32) (x5 : Int32) (no_apron : Int32) (no_basket : Int32) (no_ground : Int32) (no_bruised : Int32) (no_ladder : Int32) (no_helper : Int32) (no_today : Int32) (no_clock : Int32) (ru_given : Nat → Int32) (ru_stack : Nat → Int32) (pa_undoable : Int32) (pa_free : Int32) (pa_cells : Nat → Int32) (ro_size : Int32) (ro_numbers : Nat → Int32), (-1 ≤ Int32.toInt x1 ∧ Int32.toInt x1 ≤ 30) → (0 ≤ Int32.toInt x4 ∧ Int32.toInt x4 ≤ 1) → (0 ≤ Int32.toInt x5 ∧ Int32.toInt x5 ≤ 30) → (-1 ≤ Int32.toInt no_ladder ∧ Int32.toInt no_ladder ≤ 7) → (0 ≤ Int32.toInt no_today ∧ Int32.toInt no_today ≤ 9) → (0 ≤ Int32.toInt pa_undoable ∧ Int32.toInt pa_undoable ≤ 12) → (0 ≤ Int32.toInt pa_free ∧ Int32.toInt pa_free ≤ 12) → (∀ k : Nat, k % 8 = 4 → -1 ≤ Int32.toInt (pa_cells k) ∧ Int32.toInt (pa_cells k) ≤ 7) → (∀ k : Nat, k % 8 = 6 → 0 ≤ Int32.toInt (pa_cells k) ∧ Int32.toInt (pa_cells k) ≤ 9) → (0 ≤ Int32.toInt ro_size ∧ Int32.toInt ro_size ≤ 16) → (30 - Int32.toInt x5 < (n : Int)) → wb_X9_doActs_21 post x_acts tr_fruits tr_standings tr_x tr_height tr_worth tr_ripe tr_foot tr_fork tr_settings ru_length ru_program n x1 x2 x3 x4 x5 no_apron no_basket no_ground no_bruised no_ladder no_helper no_today no_clock ru_given ru_stack pa_undoable pa_free pa_cells ro_size ro_numbers := by
  intro n
  induction n with
  | zero =>
    intro x1 x2 x3 x4 x5 no_apron no_basket no_ground no_bruised no_ladder no_helper no_today no_clock ru_given ru_stack pa_undoable pa_free pa_cells ro_size ro_numbers h_x1 h_x4 h_x5 h_no_ladder h_no_today h_pa_undoable h_pa_free e0_pa_cells e1_pa_cells h_ro_size hm
    exfalso; omega
  | succ n ih =>
    intro x1 x2 x3 x4 x5 no_apron no_basket no_ground no_bruised no_ladder no_helper no_today no_clock ru_given ru_stack pa_undoable pa_free pa_cells ro_size ro_numbers h_x1 h_x4 h_x5 h_no_ladder h_no_today h_pa_undoable h_pa_free e0_pa_cells e1_pa_cells h_ro_size hm
    exact ts_X9_doActs_21 x_acts tr_fruits tr_standings tr_x tr_height tr_worth tr_ripe tr_foot tr_fork tr_settings ru_length ru_program h_tr_fruits h_tr_standings h_ru_length hpost ih x1 x2 x3 x4 x5 no_apron no_basket no_ground no_bruised no_ladder no_helper no_today no_clock ru_given ru_stack pa_undoable pa_free pa_cells ro_size ro_numbers h_x1 h_x4 h_x5 h_no_ladder h_no_today h_pa_undoable h_pa_free e0_pa_cells e1_pa_cells h_ro_size (by omega)
set_option maxHeartbeats 8000000 in
set_option maxRecDepth 200000 in
theorem t_X9_doActs {post : Int32 → Int32 → Int32 → Int32 → Int32 → Int32 → Int32 → Int32 → Int32 → (Nat → Int32) → (Nat → Int32) → Int32 → Int32 → (Nat → Int32) → Int32 → (Nat → Int32) → Prop} {p0 : Int32} {x_acts : Nat → Int32} {tr_fruits : Int32} {tr_standings : Int32} {tr_x : Nat → Int32} {tr_height : Nat → Int32} {tr_worth : Nat → Int32} {tr_ripe : Nat → Int32} {tr_foot : Nat → Int32} {tr_fork : Nat → Int32} {tr_settings : Nat → Int32} {no_apron : Int32} {no_basket : Int32} {no_ground : Int32} {no_bruised : Int32} {no_ladder : Int32} {no_helper : Int32} {no_today : Int32} {no_clock : Int32} {ru_length : Int32} {ru_given : Nat → Int32} {ru_stack : Nat → Int32} {ru_program : Nat → Int32} {pa_undoable : Int32} {pa_free : Int32} {pa_cells : Nat → Int32} {ro_size : Int32} {ro_numbers : Nat → Int32} (h_p0 : -1 ≤ Int32.toInt p0 ∧ Int32.toInt p0 ≤ 30) (h_tr_fruits : 0 ≤ Int32.toInt tr_fruits ∧ Int32.toInt tr_fruits ≤ 16) (h_tr_standings : 0 ≤ Int32.toInt tr_standings ∧ Int32.toInt tr_standings ≤ 8) (h_no_ladder : -1 ≤ Int32.toInt no_ladder ∧ Int32.toInt no_ladder ≤ 7) (h_no_today : 0 ≤ Int32.toInt no_today ∧ Int32.toInt no_today ≤ 9) (h_ru_length : 0 ≤ Int32.toInt ru_length ∧ Int32.toInt ru_length ≤ 40) (h_pa_undoable : 0 ≤ Int32.toInt pa_undoable ∧ Int32.toInt pa_undoable ≤ 12) (h_pa_free : 0 ≤ Int32.toInt pa_free ∧ Int32.toInt pa_free ≤ 12) (e0_pa_cells : ∀ k : Nat, k % 8 = 4 → -1 ≤ Int32.toInt (pa_cells k) ∧ Int32.toInt (pa_cells k) ≤ 7) (e1_pa_cells : ∀ k : Nat, k % 8 = 6 → 0 ≤ Int32.toInt (pa_cells k) ∧ Int32.toInt (pa_cells k) ≤ 9) (h_ro_size : 0 ≤ Int32.toInt ro_size ∧ Int32.toInt ro_size ≤ 16) (hpost : ∀ (r : Int32) (no_apron' : Int32) (no_basket' : Int32) (no_ground' : Int32) (no_bruised' : Int32) (no_ladder' : Int32) (no_helper' : Int32) (no_today' : Int32) (no_clock' : Int32) (ru_given' : Nat → Int32) (ru_stack' : Nat → Int32) (pa_undoable' : Int32) (pa_free' : Int32) (pa_cells' : Nat → Int32) (ro_size' : Int32) (ro_numbers' : Nat → Int32), (-1 ≤ Int32.toInt no_ladder' ∧ Int32.toInt no_ladder' ≤ 7) → (0 ≤ Int32.toInt no_today' ∧ Int32.toInt no_today' ≤ 9) → (0 ≤ Int32.toInt pa_undoable' ∧ Int32.toInt pa_undoable' ≤ 12) → (0 ≤ Int32.toInt pa_free' ∧ Int32.toInt pa_free' ≤ 12) → (∀ k : Nat, k % 8 = 4 → -1 ≤ Int32.toInt (pa_cells' k) ∧ Int32.toInt (pa_cells' k) ≤ 7) → (∀ k : Nat, k % 8 = 6 → 0 ≤ Int32.toInt (pa_cells' k) ∧ Int32.toInt (pa_cells' k) ≤ 9) → (2 ≤ Int32.toInt ro_size' ∧ Int32.toInt ro_size' ≤ 2) → post r no_apron' no_basket' no_ground' no_bruised' no_ladder' no_helper' no_today' no_clock' ru_given' ru_stack' pa_undoable' pa_free' pa_cells' ro_size' ro_numbers') : wp_X9_doActs post p0 x_acts tr_fruits tr_standings tr_x tr_height tr_worth tr_ripe tr_foot tr_fork tr_settings no_apron no_basket no_ground no_bruised no_ladder no_helper no_today no_clock ru_length ru_given ru_stack ru_program pa_undoable pa_free pa_cells ro_size ro_numbers := by
  have l0 : Int32.toInt (0 : Int32) = 0 := (by decide)
  have l1 : Int32.toInt (1 : Int32) = 1 := (by decide)
  have l2 : Int32.toInt (104 : Int32) = 104 := (by decide)
  have l3 : Int32.toInt (2 : Int32) = 2 := (by decide)
  have l4 : Int32.toInt (3 : Int32) = 3 := (by decide)
  have l5 : Int32.toInt (4 : Int32) = 4 := (by decide)
  have l6 : Int32.toInt (5 : Int32) = 5 := (by decide)
  have l7 : Int32.toInt (6 : Int32) = 6 := (by decide)
  have l8 : Int32.toInt (7 : Int32) = 7 := (by decide)
  have l9 : Int32.toInt (8 : Int32) = 8 := (by decide)
  intro v132 ev132
  have f133 : Int32.toInt (pa_free * 8) = Int32.toInt pa_free * 8 := ta_mulc _ _ (by decide) (by omega)
  rw [← ev132] at f133
  refine And.intro (fun c134 => ?_) (fun c134 => ?_)
  · skip
    have c134 := (fa_lt _ _).mp c134
    exfalso; omega
  · skip
    have c134 := mt (fa_lt _ _).mpr c134
    have f136 : Int32.toInt (104 - 8) = Int32.toInt (104 : Int32) - Int32.toInt (8 : Int32) := ta_sub _ _ (by omega)
    refine And.intro (fun c135 => ?_) (fun c135 => ?_)
    · skip
      have c135 := (fa_le _ _).mp c135
      refine And.intro (t_in (by omega)) ?_
      have f138 := tp_r no_apron
      have e137 : ∀ k : Nat, k % 8 = 4 → -1 ≤ Int32.toInt ((upd pa_cells v132.toNatClampNeg no_apron) k) ∧ Int32.toInt ((upd pa_cells v132.toNatClampNeg no_apron) k) ≤ 7 := t_updc (C := fun k => k % 8 = 4) e0_pa_cells (fun hk => by have e9 : v132.toNatClampNeg = (Int32.toInt v132).toNat := rfl; have hk : v132.toNatClampNeg % 8 = 4 := hk; omega)
      have e139 : ∀ k : Nat, k % 8 = 6 → 0 ≤ Int32.toInt ((upd pa_cells v132.toNatClampNeg no_apron) k) ∧ Int32.toInt ((upd pa_cells v132.toNatClampNeg no_apron) k) ≤ 9 := t_updc (C := fun k => k % 8 = 6) e1_pa_cells (fun hk => by have e9 : v132.toNatClampNeg = (Int32.toInt v132).toNat := rfl; have hk : v132.toNatClampNeg % 8 = 6 := hk; omega)
      intro v140 ev140
      have f141 : Int32.toInt (v132 + 1) = Int32.toInt v132 + Int32.toInt (1 : Int32) := ta_add _ _ (by omega)
      rw [← ev140] at f141
      refine And.intro (t_in (by omega)) ?_
      have f143 := tp_r no_basket
      have e142 : ∀ k : Nat, k % 8 = 4 → -1 ≤ Int32.toInt ((upd (upd pa_cells v132.toNatClampNeg no_apron) v140.toNatClampNeg no_basket) k) ∧ Int32.toInt ((upd (upd pa_cells v132.toNatClampNeg no_apron) v140.toNatClampNeg no_basket) k) ≤ 7 := t_updc (C := fun k => k % 8 = 4) e137 (fun hk => by have e9 : v140.toNatClampNeg = (Int32.toInt v140).toNat := rfl; have hk : v140.toNatClampNeg % 8 = 4 := hk; omega)
      have e144 : ∀ k : Nat, k % 8 = 6 → 0 ≤ Int32.toInt ((upd (upd pa_cells v132.toNatClampNeg no_apron) v140.toNatClampNeg no_basket) k) ∧ Int32.toInt ((upd (upd pa_cells v132.toNatClampNeg no_apron) v140.toNatClampNeg no_basket) k) ≤ 9 := t_updc (C := fun k => k % 8 = 6) e139 (fun hk => by have e9 : v140.toNatClampNeg = (Int32.toInt v140).toNat := rfl; have hk : v140.toNatClampNeg % 8 = 6 := hk; omega)
      intro v145 ev145
      have f146 : Int32.toInt (v132 + 2) = Int32.toInt v132 + Int32.toInt (2 : Int32) := ta_add _ _ (by omega)
      rw [← ev145] at f146
      refine And.intro (t_in (by omega)) ?_
      have f148 := tp_r no_ground
      have e147 : ∀ k : Nat, k % 8 = 4 → -1 ≤ Int32.toInt ((upd (upd (upd pa_cells v132.toNatClampNeg no_apron) v140.toNatClampNeg no_basket) v145.toNatClampNeg no_ground) k) ∧ Int32.toInt ((upd (upd (upd pa_cells v132.toNatClampNeg no_apron) v140.toNatClampNeg no_basket) v145.toNatClampNeg no_ground) k) ≤ 7 := t_updc (C := fun k => k % 8 = 4) e142 (fun hk => by have e9 : v145.toNatClampNeg = (Int32.toInt v145).toNat := rfl; have hk : v145.toNatClampNeg % 8 = 4 := hk; omega)
      have e149 : ∀ k : Nat, k % 8 = 6 → 0 ≤ Int32.toInt ((upd (upd (upd pa_cells v132.toNatClampNeg no_apron) v140.toNatClampNeg no_basket) v145.toNatClampNeg no_ground) k) ∧ Int32.toInt ((upd (upd (upd pa_cells v132.toNatClampNeg no_apron) v140.toNatClampNeg no_basket) v145.toNatClampNeg no_ground) k) ≤ 9 := t_updc (C := fun k => k % 8 = 6) e144 (fun hk => by have e9 : v145.toNatClampNeg = (Int32.toInt v145).toNat := rfl; have hk : v145.toNatClampNeg % 8 = 6 := hk; omega)
      intro v150 ev150
      have f151 : Int32.toInt (v132 + 3) = Int32.toInt v132 + Int32.toInt (3 : Int32) := ta_add _ _ (by omega)
      rw [← ev150] at f151
      refine And.intro (t_in (by omega)) ?_
      have f153 := tp_r no_bruised
      have e152 : ∀ k : Nat, k % 8 = 4 → -1 ≤ Int32.toInt ((upd (upd (upd (upd pa_cells v132.toNatClampNeg no_apron) v140.toNatClampNeg no_basket) v145.toNatClampNeg no_ground) v150.toNatClampNeg no_bruised) k) ∧ Int32.toInt ((upd (upd (upd (upd pa_cells v132.toNatClampNeg no_apron) v140.toNatClampNeg no_basket) v145.toNatClampNeg no_ground) v150.toNatClampNeg no_bruised) k) ≤ 7 := t_updc (C := fun k => k % 8 = 4) e147 (fun hk => by have e9 : v150.toNatClampNeg = (Int32.toInt v150).toNat := rfl; have hk : v150.toNatClampNeg % 8 = 4 := hk; omega)
      have e154 : ∀ k : Nat, k % 8 = 6 → 0 ≤ Int32.toInt ((upd (upd (upd (upd pa_cells v132.toNatClampNeg no_apron) v140.toNatClampNeg no_basket) v145.toNatClampNeg no_ground) v150.toNatClampNeg no_bruised) k) ∧ Int32.toInt ((upd (upd (upd (upd pa_cells v132.toNatClampNeg no_apron) v140.toNatClampNeg no_basket) v145.toNatClampNeg no_ground) v150.toNatClampNeg no_bruised) k) ≤ 9 := t_updc (C := fun k => k % 8 = 6) e149 (fun hk => by have e9 : v150.toNatClampNeg = (Int32.toInt v150).toNat := rfl; have hk : v150.toNatClampNeg % 8 = 6 := hk; omega)
      intro v155 ev155
      have f156 : Int32.toInt (v132 + 4) = Int32.toInt v132 + Int32.toInt (4 : Int32) := ta_add _ _ (by omega)
      rw [← ev155] at f156
      refine And.intro (t_in (by omega)) ?_
      have e157 : ∀ k : Nat, k % 8 = 4 → -1 ≤ Int32.toInt ((upd (upd (upd (upd (upd pa_cells v132.toNatClampNeg no_apron) v140.toNatClampNeg no_basket) v145.toNatClampNeg no_ground) v150.toNatClampNeg no_bruised) v155.toNatClampNeg no_ladder) k) ∧ Int32.toInt ((upd (upd (upd (upd (upd pa_cells v132.toNatClampNeg no_apron) v140.toNatClampNeg no_basket) v145.toNatClampNeg no_ground) v150.toNatClampNeg no_bruised) v155.toNatClampNeg no_ladder) k) ≤ 7 := t_updc (C := fun k => k % 8 = 4) e152 (fun hk => by have e9 : v155.toNatClampNeg = (Int32.toInt v155).toNat := rfl; have hk : v155.toNatClampNeg % 8 = 4 := hk; omega)
      have e158 : ∀ k : Nat, k % 8 = 6 → 0 ≤ Int32.toInt ((upd (upd (upd (upd (upd pa_cells v132.toNatClampNeg no_apron) v140.toNatClampNeg no_basket) v145.toNatClampNeg no_ground) v150.toNatClampNeg no_bruised) v155.toNatClampNeg no_ladder) k) ∧ Int32.toInt ((upd (upd (upd (upd (upd pa_cells v132.toNatClampNeg no_apron) v140.toNatClampNeg no_basket) v145.toNatClampNeg no_ground) v150.toNatClampNeg no_bruised) v155.toNatClampNeg no_ladder) k) ≤ 9 := t_updc (C := fun k => k % 8 = 6) e154 (fun hk => by have e9 : v155.toNatClampNeg = (Int32.toInt v155).toNat := rfl; have hk : v155.toNatClampNeg % 8 = 6 := hk; omega)
      intro v159 ev159
      have f160 : Int32.toInt (v132 + 5) = Int32.toInt v132 + Int32.toInt (5 : Int32) := ta_add _ _ (by omega)
      rw [← ev159] at f160
      refine And.intro (t_in (by omega)) ?_
      have f162 := tp_r no_helper
      have e161 : ∀ k : Nat, k % 8 = 4 → -1 ≤ Int32.toInt ((upd (upd (upd (upd (upd (upd pa_cells v132.toNatClampNeg no_apron) v140.toNatClampNeg no_basket) v145.toNatClampNeg no_ground) v150.toNatClampNeg no_bruised) v155.toNatClampNeg no_ladder) v159.toNatClampNeg no_helper) k) ∧ Int32.toInt ((upd (upd (upd (upd (upd (upd pa_cells v132.toNatClampNeg no_apron) v140.toNatClampNeg no_basket) v145.toNatClampNeg no_ground) v150.toNatClampNeg no_bruised) v155.toNatClampNeg no_ladder) v159.toNatClampNeg no_helper) k) ≤ 7 := t_updc (C := fun k => k % 8 = 4) e157 (fun hk => by have e9 : v159.toNatClampNeg = (Int32.toInt v159).toNat := rfl; have hk : v159.toNatClampNeg % 8 = 4 := hk; omega)
      have e163 : ∀ k : Nat, k % 8 = 6 → 0 ≤ Int32.toInt ((upd (upd (upd (upd (upd (upd pa_cells v132.toNatClampNeg no_apron) v140.toNatClampNeg no_basket) v145.toNatClampNeg no_ground) v150.toNatClampNeg no_bruised) v155.toNatClampNeg no_ladder) v159.toNatClampNeg no_helper) k) ∧ Int32.toInt ((upd (upd (upd (upd (upd (upd pa_cells v132.toNatClampNeg no_apron) v140.toNatClampNeg no_basket) v145.toNatClampNeg no_ground) v150.toNatClampNeg no_bruised) v155.toNatClampNeg no_ladder) v159.toNatClampNeg no_helper) k) ≤ 9 := t_updc (C := fun k => k % 8 = 6) e158 (fun hk => by have e9 : v159.toNatClampNeg = (Int32.toInt v159).toNat := rfl; have hk : v159.toNatClampNeg % 8 = 6 := hk; omega)
      intro v164 ev164
      have f165 : Int32.toInt (v132 + 6) = Int32.toInt v132 + Int32.toInt (6 : Int32) := ta_add _ _ (by omega)
      rw [← ev164] at f165
      refine And.intro (t_in (by omega)) ?_
      have e166 : ∀ k : Nat, k % 8 = 4 → -1 ≤ Int32.toInt ((upd (upd (upd (upd (upd (upd (upd pa_cells v132.toNatClampNeg no_apron) v140.toNatClampNeg no_basket) v145.toNatClampNeg no_ground) v150.toNatClampNeg no_bruised) v155.toNatClampNeg no_ladder) v159.toNatClampNeg no_helper) v164.toNatClampNeg no_today) k) ∧ Int32.toInt ((upd (upd (upd (upd (upd (upd (upd pa_cells v132.toNatClampNeg no_apron) v140.toNatClampNeg no_basket) v145.toNatClampNeg no_ground) v150.toNatClampNeg no_bruised) v155.toNatClampNeg no_ladder) v159.toNatClampNeg no_helper) v164.toNatClampNeg no_today) k) ≤ 7 := t_updc (C := fun k => k % 8 = 4) e161 (fun hk => by have e9 : v164.toNatClampNeg = (Int32.toInt v164).toNat := rfl; have hk : v164.toNatClampNeg % 8 = 4 := hk; omega)
      have e167 : ∀ k : Nat, k % 8 = 6 → 0 ≤ Int32.toInt ((upd (upd (upd (upd (upd (upd (upd pa_cells v132.toNatClampNeg no_apron) v140.toNatClampNeg no_basket) v145.toNatClampNeg no_ground) v150.toNatClampNeg no_bruised) v155.toNatClampNeg no_ladder) v159.toNatClampNeg no_helper) v164.toNatClampNeg no_today) k) ∧ Int32.toInt ((upd (upd (upd (upd (upd (upd (upd pa_cells v132.toNatClampNeg no_apron) v140.toNatClampNeg no_basket) v145.toNatClampNeg no_ground) v150.toNatClampNeg no_bruised) v155.toNatClampNeg no_ladder) v159.toNatClampNeg no_helper) v164.toNatClampNeg no_today) k) ≤ 9 := t_updc (C := fun k => k % 8 = 6) e163 (fun hk => by have e9 : v164.toNatClampNeg = (Int32.toInt v164).toNat := rfl; have hk : v164.toNatClampNeg % 8 = 6 := hk; omega)
      intro v168 ev168
      have f169 : Int32.toInt (v132 + 7) = Int32.toInt v132 + Int32.toInt (7 : Int32) := ta_add _ _ (by omega)
      rw [← ev168] at f169
      refine And.intro (t_in (by omega)) ?_
      have f171 := tp_r no_clock
      have e170 : ∀ k : Nat, k % 8 = 4 → -1 ≤ Int32.toInt ((upd (upd (upd (upd (upd (upd (upd (upd pa_cells v132.toNatClampNeg no_apron) v140.toNatClampNeg no_basket) v145.toNatClampNeg no_ground) v150.toNatClampNeg no_bruised) v155.toNatClampNeg no_ladder) v159.toNatClampNeg no_helper) v164.toNatClampNeg no_today) v168.toNatClampNeg no_clock) k) ∧ Int32.toInt ((upd (upd (upd (upd (upd (upd (upd (upd pa_cells v132.toNatClampNeg no_apron) v140.toNatClampNeg no_basket) v145.toNatClampNeg no_ground) v150.toNatClampNeg no_bruised) v155.toNatClampNeg no_ladder) v159.toNatClampNeg no_helper) v164.toNatClampNeg no_today) v168.toNatClampNeg no_clock) k) ≤ 7 := t_updc (C := fun k => k % 8 = 4) e166 (fun hk => by have e9 : v168.toNatClampNeg = (Int32.toInt v168).toNat := rfl; have hk : v168.toNatClampNeg % 8 = 4 := hk; omega)
      have e172 : ∀ k : Nat, k % 8 = 6 → 0 ≤ Int32.toInt ((upd (upd (upd (upd (upd (upd (upd (upd pa_cells v132.toNatClampNeg no_apron) v140.toNatClampNeg no_basket) v145.toNatClampNeg no_ground) v150.toNatClampNeg no_bruised) v155.toNatClampNeg no_ladder) v159.toNatClampNeg no_helper) v164.toNatClampNeg no_today) v168.toNatClampNeg no_clock) k) ∧ Int32.toInt ((upd (upd (upd (upd (upd (upd (upd (upd pa_cells v132.toNatClampNeg no_apron) v140.toNatClampNeg no_basket) v145.toNatClampNeg no_ground) v150.toNatClampNeg no_bruised) v155.toNatClampNeg no_ladder) v159.toNatClampNeg no_helper) v164.toNatClampNeg no_today) v168.toNatClampNeg no_clock) k) ≤ 9 := t_updc (C := fun k => k % 8 = 6) e167 (fun hk => by have e9 : v168.toNatClampNeg = (Int32.toInt v168).toNat := rfl; have hk : v168.toNatClampNeg % 8 = 6 := hk; omega)
      exact ⟨32, tb_X9_doActs_21 x_acts tr_fruits tr_standings tr_x tr_height tr_worth tr_ripe tr_foot tr_fork tr_settings ru_length ru_program h_tr_fruits h_tr_standings h_ru_length hpost _ p0 0 0 0 0 no_apron no_basket no_ground no_bruised no_ladder no_helper no_today no_clock ru_given ru_stack pa_undoable pa_free (upd (upd (upd (upd (upd (upd (upd (upd pa_cells v132.toNatClampNeg no_apron) v140.toNatClampNeg no_basket) v145.toNatClampNeg no_ground) v150.toNatClampNeg no_bruised) v155.toNatClampNeg no_ladder) v159.toNatClampNeg no_helper) v164.toNatClampNeg no_today) v168.toNatClampNeg no_clock) ro_size ro_numbers (by omega) (by omega) (by omega) (by omega) (by omega) (by omega) (by omega) e170 e172 (by omega) (by omega)⟩
    · skip
      have c135 := mt (fa_le _ _).mpr c135
      exfalso; omega
set_option maxHeartbeats 8000000 in
set_option maxRecDepth 200000 in
theorem ts_X9_readAct_143 {post : Int32 → Int32 → Prop} (tx_stop : Int32) (tx_signs : Nat → Int32) (h_tx_stop : 0 ≤ Int32.toInt tx_stop ∧ Int32.toInt tx_stop ≤ 60) (h_tx_signs : ∀ k : Nat, 0 ≤ Int32.toInt (tx_signs k) ∧ Int32.toInt (tx_signs k) ≤ 65535) (hpost : ∀ (r : Int32) (tx_place' : Int32), (0 ≤ Int32.toInt tx_place' ∧ Int32.toInt tx_place' ≤ 80) → post r tx_place') (x1 : Int32) (x2 : Int32) (tx_place : Int32) (h_x1 : 97 ≤ Int32.toInt x1 ∧ Int32.toInt x1 ≤ 125) (h_x2 : 0 ≤ Int32.toInt x2 ∧ Int32.toInt x2 ≤ 2) (h_tx_place : 0 ≤ Int32.toInt tx_place ∧ Int32.toInt tx_place ≤ 60) : ws_X9_readAct_143 post tx_stop tx_signs x1 x2 tx_place := by
  have l0 : Int32.toInt ((-1) : Int32) = -1 := (by decide)
  have l1 : Int32.toInt (0 : Int32) = 0 := (by decide)
  have l2 : Int32.toInt (1 : Int32) = 1 := (by decide)
  have l3 : Int32.toInt (100 : Int32) = 100 := (by decide)
  refine And.intro (fun c1 => ?_) (fun c1 => ?_)
  · skip
    have c1 := (fa_le _ _).mp c1
    refine And.intro (fun c2 => ?_) (fun c2 => ?_)
    · skip
      have c2 := mt (fa_eq _ _).mpr c2
      refine t_X8_readNumber (by omega) (by omega) (by omega) (fun k => by have q9 := h_tx_signs k; omega) (fun r4 tx_place_3 h_tx_place_3 => ?_)
      have f6 := tp_r r4
      refine And.intro (fun c5 => ?_) (fun c5 => ?_)
      · skip
        have c5 := mt (fa_eq _ _).mpr c5
        intro v7 ev7
        have f8 : Int32.toInt (x1 * 100) = Int32.toInt x1 * 100 := ta_mulc _ _ (by decide) (by omega)
        rw [← ev7] at f8
        exact hpost _ _ (by omega)
      · skip
        have c5 := (fa_eq _ _).mp c5
        exact hpost _ _ (by omega)
    · skip
      have c2 := (fa_eq _ _).mp c2
      exact hpost _ _ (by omega)
  · skip
    have c1 := mt (fa_le _ _).mpr c1
    intro v9 ev9
    have f10 : Int32.toInt (tx_place + 1) = Int32.toInt tx_place + Int32.toInt (1 : Int32) := ta_add _ _ (by omega)
    rw [← ev9] at f10
    refine And.intro (fun c11 => ?_) (fun c11 => ?_)
    · skip
      have c11 := mt (fa_eq _ _).mpr c11
      refine t_X8_readNumber (by omega) (by omega) (by omega) (fun k => by have q9 := h_tx_signs k; omega) (fun r13 tx_place_12 h_tx_place_12 => ?_)
      have f15 := tp_r r13
      refine And.intro (fun c14 => ?_) (fun c14 => ?_)
      · skip
        have c14 := mt (fa_eq _ _).mpr c14
        intro v16 ev16
        have f17 : Int32.toInt (x1 * 100) = Int32.toInt x1 * 100 := ta_mulc _ _ (by decide) (by omega)
        rw [← ev16] at f17
        exact hpost _ _ (by omega)
      · skip
        have c14 := (fa_eq _ _).mp c14
        exact hpost _ _ (by omega)
    · skip
      have c11 := (fa_eq _ _).mp c11
      exact hpost _ _ (by omega)
set_option maxHeartbeats 8000000 in
set_option maxRecDepth 200000 in
theorem ts_X9_readAct_133 {post : Int32 → Int32 → Prop} (tx_stop : Int32) (tx_signs : Nat → Int32) (h_tx_stop : 0 ≤ Int32.toInt tx_stop ∧ Int32.toInt tx_stop ≤ 60) (h_tx_signs : ∀ k : Nat, 0 ≤ Int32.toInt (tx_signs k) ∧ Int32.toInt (tx_signs k) ≤ 65535) (hpost : ∀ (r : Int32) (tx_place' : Int32), (0 ≤ Int32.toInt tx_place' ∧ Int32.toInt tx_place' ≤ 80) → post r tx_place') (x1 : Int32) (tx_place : Int32) (h_x1 : 104 ≤ Int32.toInt x1 ∧ Int32.toInt x1 ≤ 112) (h_tx_place : 0 ≤ Int32.toInt tx_place ∧ Int32.toInt tx_place ≤ 60) : ws_X9_readAct_133 post tx_stop tx_signs x1 tx_place := by
  have l0 : Int32.toInt (2 : Int32) = 2 := (by decide)
  exact ts_X9_readAct_143 tx_stop tx_signs h_tx_stop h_tx_signs hpost x1 2 tx_place (by omega) (by omega) (by omega)
set_option maxHeartbeats 8000000 in
set_option maxRecDepth 200000 in
theorem ts_X9_readAct_138 {post : Int32 → Int32 → Prop} (tx_stop : Int32) (tx_signs : Nat → Int32) (h_tx_stop : 0 ≤ Int32.toInt tx_stop ∧ Int32.toInt tx_stop ≤ 60) (h_tx_signs : ∀ k : Nat, 0 ≤ Int32.toInt (tx_signs k) ∧ Int32.toInt (tx_signs k) ≤ 65535) (hpost : ∀ (r : Int32) (tx_place' : Int32), (0 ≤ Int32.toInt tx_place' ∧ Int32.toInt tx_place' ≤ 80) → post r tx_place') (x1 : Int32) (x2 : Int32) (tx_place : Int32) (h_x1 : 97 ≤ Int32.toInt x1 ∧ Int32.toInt x1 ≤ 125) (h_x2 : 0 ≤ Int32.toInt x2 ∧ Int32.toInt x2 ≤ 0) (h_tx_place : 0 ≤ Int32.toInt tx_place ∧ Int32.toInt tx_place ≤ 60) : ws_X9_readAct_138 post tx_stop tx_signs x1 x2 tx_place := by
  exact ts_X9_readAct_143 tx_stop tx_signs h_tx_stop h_tx_signs hpost x1 x2 tx_place (by omega) (by omega) (by omega)
set_option maxHeartbeats 8000000 in
set_option maxRecDepth 200000 in
theorem t_X9_readAct {post : Int32 → Int32 → Prop} {tx_place : Int32} {tx_stop : Int32} {tx_signs : Nat → Int32} (h_tx_place : 0 ≤ Int32.toInt tx_place ∧ Int32.toInt tx_place ≤ 60) (h_tx_stop : 0 ≤ Int32.toInt tx_stop ∧ Int32.toInt tx_stop ≤ 60) (h_tx_signs : ∀ k : Nat, 0 ≤ Int32.toInt (tx_signs k) ∧ Int32.toInt (tx_signs k) ≤ 65535) (hpost : ∀ (r : Int32) (tx_place' : Int32), (0 ≤ Int32.toInt tx_place' ∧ Int32.toInt tx_place' ≤ 80) → post r tx_place') : wp_X9_readAct post tx_place tx_stop tx_signs := by
  have l0 : Int32.toInt ((-1) : Int32) = -1 := (by decide)
  have l1 : Int32.toInt (0 : Int32) = 0 := (by decide)
  have l2 : Int32.toInt (1 : Int32) = 1 := (by decide)
  have l3 : Int32.toInt (100 : Int32) = 100 := (by decide)
  have l4 : Int32.toInt (104 : Int32) = 104 := (by decide)
  have l5 : Int32.toInt (107 : Int32) = 107 := (by decide)
  have l6 : Int32.toInt (109 : Int32) = 109 := (by decide)
  have l7 : Int32.toInt (111 : Int32) = 111 := (by decide)
  have l8 : Int32.toInt (112 : Int32) = 112 := (by decide)
  have l9 : Int32.toInt (122 : Int32) = 122 := (by decide)
  have l10 : Int32.toInt (97 : Int32) = 97 := (by decide)
  refine And.intro (fun c18 => ?_) (fun c18 => ?_)
  · skip
    have c18 := (fa_le _ _).mp c18
    refine And.intro (fun c19 => ?_) ?_
    · skip
      have c19 := (fa_eq _ _).mp c19
      exfalso; omega
    refine And.intro (fun c20 => ?_) ?_
    · skip
      have c20 := (fa_eq _ _).mp c20
      exfalso; omega
    refine And.intro (fun c21 => ?_) ?_
    · skip
      have c21 := (fa_eq _ _).mp c21
      exfalso; omega
    refine And.intro (fun c22 => ?_) ?_
    · skip
      have c22 := (fa_eq _ _).mp c22
      exfalso; omega
    refine And.intro (fun c23 => ?_) ?_
    · skip
      have c23 := (fa_eq _ _).mp c23
      exfalso; omega
    refine And.intro (fun c24 => ?_) ?_
    · skip
      have c24 := (fa_eq _ _).mp c24
      exfalso; omega
    refine And.intro (fun c25 => ?_) ?_
    · skip
      have c25 := (fa_eq _ _).mp c25
      exfalso; omega
    refine And.intro (fun c26 => ?_) ?_
    · skip
      have c26 := (fa_eq _ _).mp c26
      exfalso; omega
    intro c27 c28 c29 c30 c31 c32 c33 c34
    have c27 := mt (fa_eq _ _).mpr c27
    have c28 := mt (fa_eq _ _).mpr c28
    have c29 := mt (fa_eq _ _).mpr c29
    have c30 := mt (fa_eq _ _).mpr c30
    have c31 := mt (fa_eq _ _).mpr c31
    have c32 := mt (fa_eq _ _).mpr c32
    have c33 := mt (fa_eq _ _).mpr c33
    have c34 := mt (fa_eq _ _).mpr c34
    exact hpost _ _ (by omega)
  · skip
    have c18 := mt (fa_le _ _).mpr c18
    refine And.intro (t_in (by omega)) ?_
    intro v35 ev35
    have f36 := h_tx_signs tx_place.toNatClampNeg
    have hv35 := congrArg Int32.toInt ev35
    refine And.intro (fun c37 => ?_) ?_
    · skip
      have c37 := (fa_eq _ _).mp c37
      exact ts_X9_readAct_138 tx_stop tx_signs h_tx_stop h_tx_signs hpost v35 0 tx_place (by omega) (by omega) (by omega)
    refine And.intro (fun c38 => ?_) ?_
    · skip
      have c38 := (fa_eq _ _).mp c38
      exact ts_X9_readAct_138 tx_stop tx_signs h_tx_stop h_tx_signs hpost v35 0 tx_place (by omega) (by omega) (by omega)
    refine And.intro (fun c39 => ?_) ?_
    · skip
      have c39 := (fa_eq _ _).mp c39
      exact ts_X9_readAct_133 tx_stop tx_signs h_tx_stop h_tx_signs hpost v35 tx_place (by omega) (by omega)
    refine And.intro (fun c40 => ?_) ?_
    · skip
      have c40 := (fa_eq _ _).mp c40
      exact ts_X9_readAct_138 tx_stop tx_signs h_tx_stop h_tx_signs hpost v35 0 tx_place (by omega) (by omega) (by omega)
    refine And.intro (fun c41 => ?_) ?_
    · skip
      have c41 := (fa_eq _ _).mp c41
      exact ts_X9_readAct_143 tx_stop tx_signs h_tx_stop h_tx_signs hpost v35 1 tx_place (by omega) (by omega) (by omega)
    refine And.intro (fun c42 => ?_) ?_
    · skip
      have c42 := (fa_eq _ _).mp c42
      exact ts_X9_readAct_138 tx_stop tx_signs h_tx_stop h_tx_signs hpost v35 0 tx_place (by omega) (by omega) (by omega)
    refine And.intro (fun c43 => ?_) ?_
    · skip
      have c43 := (fa_eq _ _).mp c43
      exact ts_X9_readAct_133 tx_stop tx_signs h_tx_stop h_tx_signs hpost v35 tx_place (by omega) (by omega)
    refine And.intro (fun c44 => ?_) ?_
    · skip
      have c44 := (fa_eq _ _).mp c44
      exact ts_X9_readAct_138 tx_stop tx_signs h_tx_stop h_tx_signs hpost v35 0 tx_place (by omega) (by omega) (by omega)
    intro c45 c46 c47 c48 c49 c50 c51 c52
    have c45 := mt (fa_eq _ _).mpr c45
    have c46 := mt (fa_eq _ _).mpr c46
    have c47 := mt (fa_eq _ _).mpr c47
    have c48 := mt (fa_eq _ _).mpr c48
    have c49 := mt (fa_eq _ _).mpr c49
    have c50 := mt (fa_eq _ _).mpr c50
    have c51 := mt (fa_eq _ _).mpr c51
    have c52 := mt (fa_eq _ _).mpr c52
    exact hpost _ _ (by omega)
set_option maxHeartbeats 8000000 in
set_option maxRecDepth 200000 in
theorem ts_X9_readActs_2 {post : Int32 → (Nat → Int32) → Int32 → Prop} {next : Int32 → (Nat → Int32) → Int32 → Prop} {n2 : Int} (tx_stop : Int32) (tx_signs : Nat → Int32) (h_tx_stop : 0 ≤ Int32.toInt tx_stop ∧ Int32.toInt tx_stop ≤ 60) (h_tx_signs : ∀ k : Nat, 0 ≤ Int32.toInt (tx_signs k) ∧ Int32.toInt (tx_signs k) ≤ 65535) (hpost : ∀ (r : Int32) (x_acts' : Nat → Int32) (tx_place' : Int32), (-1 ≤ Int32.toInt r ∧ Int32.toInt r ≤ 30) → (0 ≤ Int32.toInt tx_place' ∧ Int32.toInt tx_place' ≤ 80) → post r x_acts' tx_place') (hKn : ∀ (x1 : Int32) (x_acts : Nat → Int32) (tx_place : Int32), (0 ≤ Int32.toInt x1 ∧ Int32.toInt x1 ≤ 30) → (0 ≤ Int32.toInt tx_place ∧ Int32.toInt tx_place ≤ 60) → (30 - Int32.toInt x1 < n2) → next x1 x_acts tx_place) (x1 : Int32) (x_acts : Nat → Int32) (tx_place : Int32) (h_x1 : 0 ≤ Int32.toInt x1 ∧ Int32.toInt x1 ≤ 30) (h_tx_place : 0 ≤ Int32.toInt tx_place ∧ Int32.toInt tx_place ≤ 60) (hn2 : 30 - Int32.toInt x1 ≤ n2) : ws_X9_readActs_2 post next tx_stop tx_signs x1 x_acts tx_place := by
  have l0 : Int32.toInt ((-1) : Int32) = -1 := (by decide)
  have l1 : Int32.toInt (1 : Int32) = 1 := (by decide)
  have l2 : Int32.toInt (30 : Int32) = 30 := (by decide)
  have l3 : Int32.toInt (59 : Int32) = 59 := (by decide)
  refine And.intro (fun c1 => ?_) (fun c1 => ?_)
  · skip
    have c1 := (fa_le _ _).mp c1
    exact hpost _ _ _ (by omega) (by omega)
  · skip
    have c1 := mt (fa_le _ _).mpr c1
    refine t_X9_readAct (by omega) (by omega) (fun k => by have q9 := h_tx_signs k; omega) (fun r3 tx_place_2 h_tx_place_2 => ?_)
    have f5 := tp_r r3
    refine And.intro (fun c4 => ?_) (fun c4 => ?_)
    · skip
      have c4 := mt (fa_eq _ _).mpr c4
      refine And.intro (t_in (by omega)) ?_
      refine And.intro (fun c6 => ?_) (fun c6 => ?_)
      · skip
        have c6 := (fa_le _ _).mp c6
        refine And.intro (fun h9 => absurd h9 (by decide)) (fun _ => ?_)
        refine And.intro (fun h9 => absurd h9 (by decide)) (fun _ => ?_)
        have f7 : Int32.toInt (x1 + 1) = Int32.toInt x1 + Int32.toInt (1 : Int32) := ta_add _ _ (by omega)
        exact hpost _ _ _ (by omega) (by omega)
      · skip
        have c6 := mt (fa_le _ _).mpr c6
        refine And.intro (t_in (by omega)) ?_
        intro v8 ev8
        have f9 := h_tx_signs tx_place_2.toNatClampNeg
        have hv8 := congrArg Int32.toInt ev8
        refine And.intro (fun c10 => ?_) (fun c10 => ?_)
        · skip
          have c10 := (fa_eq _ _).mp c10
          intro v11 ev11
          have f12 : Int32.toInt (tx_place_2 + 1) = Int32.toInt tx_place_2 + Int32.toInt (1 : Int32) := ta_add _ _ (by omega)
          rw [← ev11] at f12
          refine And.intro (fun _ => ?_) (fun h9 => absurd h9 (by decide))
          intro v13 ev13
          have f14 : Int32.toInt (x1 + 1) = Int32.toInt x1 + Int32.toInt (1 : Int32) := ta_add _ _ (by omega)
          rw [← ev13] at f14
          exact hKn v13 (upd x_acts x1.toNatClampNeg r3) v11 (by omega) (by omega) (by omega)
        · skip
          have c10 := mt (fa_eq _ _).mpr c10
          refine And.intro (fun h9 => absurd h9 (by decide)) (fun _ => ?_)
          have f15 : Int32.toInt (x1 + 1) = Int32.toInt x1 + Int32.toInt (1 : Int32) := ta_add _ _ (by omega)
          exact hpost _ _ _ (by omega) (by omega)
    · skip
      have c4 := (fa_eq _ _).mp c4
      exact hpost _ _ _ (by omega) (by omega)
set_option maxHeartbeats 8000000 in
set_option maxRecDepth 200000 in
theorem tb_X9_readActs_2 {post : Int32 → (Nat → Int32) → Int32 → Prop} (tx_stop : Int32) (tx_signs : Nat → Int32) (h_tx_stop : 0 ≤ Int32.toInt tx_stop ∧ Int32.toInt tx_stop ≤ 60) (h_tx_signs : ∀ k : Nat, 0 ≤ Int32.toInt (tx_signs k) ∧ Int32.toInt (tx_signs k) ≤ 65535) (hpost : ∀ (r : Int32) (x_acts' : Nat → Int32) (tx_place' : Int32), (-1 ≤ Int32.toInt r ∧ Int32.toInt r ≤ 30) → (0 ≤ Int32.toInt tx_place' ∧ Int32.toInt tx_place' ≤ 80) → post r x_acts' tx_place') : ∀ (n : Nat) (x1 : Int32) (x_acts : Nat → Int32) (tx_place : Int32), (0 ≤ Int32.toInt x1 ∧ Int32.toInt x1 ≤ 30) → (0 ≤ Int32.toInt tx_place ∧ Int32.toInt tx_place ≤ 60) → (30 - Int32.toInt x1 < (n : Int)) → wb_X9_readActs_2 post tx_stop tx_signs n x1 x_acts tx_place := by
  intro n
  induction n with
  | zero =>
    intro x1 x_acts tx_place h_x1 h_tx_place hm
    exfalso; omega
  | succ n ih =>
    intro x1 x_acts tx_place h_x1 h_tx_place hm
    exact ts_X9_readActs_2 tx_stop tx_signs h_tx_stop h_tx_signs hpost ih x1 x_acts tx_place h_x1 h_tx_place (by omega)
set_option maxHeartbeats 8000000 in
set_option maxRecDepth 200000 in
theorem t_X9_readActs {post : Int32 → (Nat → Int32) → Int32 → Prop} {x_acts : Nat → Int32} {tx_place : Int32} {tx_stop : Int32} {tx_signs : Nat → Int32} (h_tx_place : 0 ≤ Int32.toInt tx_place ∧ Int32.toInt tx_place ≤ 0) (h_tx_stop : 0 ≤ Int32.toInt tx_stop ∧ Int32.toInt tx_stop ≤ 60) (h_tx_signs : ∀ k : Nat, 0 ≤ Int32.toInt (tx_signs k) ∧ Int32.toInt (tx_signs k) ≤ 65535) (hpost : ∀ (r : Int32) (x_acts' : Nat → Int32) (tx_place' : Int32), (-1 ≤ Int32.toInt r ∧ Int32.toInt r ≤ 30) → (0 ≤ Int32.toInt tx_place' ∧ Int32.toInt tx_place' ≤ 80) → post r x_acts' tx_place') : wp_X9_readActs post x_acts tx_place tx_stop tx_signs := by
  have l0 : Int32.toInt (0 : Int32) = 0 := (by decide)
  exact ⟨32, tb_X9_readActs_2 tx_stop tx_signs h_tx_stop h_tx_signs hpost _ 0 x_acts tx_place (by omega) (by omega) (by omega)⟩
set_option maxHeartbeats 8000000 in
set_option maxRecDepth 200000 in
theorem ts_X9_day_68 {post : Int32 → (Nat → Int32) → Int32 → Int32 → Int32 → Int32 → Int32 → Int32 → Int32 → Int32 → Int32 → Int32 → Int32 → (Nat → Int32) → (Nat → Int32) → Int32 → Int32 → (Nat → Int32) → Int32 → (Nat → Int32) → Prop} (tx_signs : Nat → Int32) (tr_fruits : Int32) (tr_standings : Int32) (tr_x : Nat → Int32) (tr_height : Nat → Int32) (tr_worth : Nat → Int32) (tr_ripe : Nat → Int32) (tr_foot : Nat → Int32) (tr_fork : Nat → Int32) (tr_settings : Nat → Int32) (ru_length : Int32) (ru_program : Nat → Int32) (h_tx_signs : ∀ k : Nat, 0 ≤ Int32.toInt (tx_signs k) ∧ Int32.toInt (tx_signs k) ≤ 65535) (h_tr_fruits : 0 ≤ Int32.toInt tr_fruits ∧ Int32.toInt tr_fruits ≤ 16) (h_tr_standings : 0 ≤ Int32.toInt tr_standings ∧ Int32.toInt tr_standings ≤ 8) (h_ru_length : 0 ≤ Int32.toInt ru_length ∧ Int32.toInt ru_length ≤ 40) (hpost : ∀ (r : Int32) (x_acts' : Nat → Int32) (tx_length' : Int32) (tx_place' : Int32) (tx_stop' : Int32) (no_apron' : Int32) (no_basket' : Int32) (no_ground' : Int32) (no_bruised' : Int32) (no_ladder' : Int32) (no_helper' : Int32) (no_today' : Int32) (no_clock' : Int32) (ru_given' : Nat → Int32) (ru_stack' : Nat → Int32) (pa_undoable' : Int32) (pa_free' : Int32) (pa_cells' : Nat → Int32) (ro_size' : Int32) (ro_numbers' : Nat → Int32), (0 ≤ Int32.toInt tx_length' ∧ Int32.toInt tx_length' ≤ 0) → (0 ≤ Int32.toInt tx_place' ∧ Int32.toInt tx_place' ≤ 80) → (0 ≤ Int32.toInt tx_stop' ∧ Int32.toInt tx_stop' ≤ 60) → (-1 ≤ Int32.toInt no_ladder' ∧ Int32.toInt no_ladder' ≤ 7) → (0 ≤ Int32.toInt no_today' ∧ Int32.toInt no_today' ≤ 9) → (0 ≤ Int32.toInt pa_undoable' ∧ Int32.toInt pa_undoable' ≤ 12) → (0 ≤ Int32.toInt pa_free' ∧ Int32.toInt pa_free' ≤ 12) → (∀ k : Nat, k % 8 = 4 → -1 ≤ Int32.toInt (pa_cells' k) ∧ Int32.toInt (pa_cells' k) ≤ 7) → (∀ k : Nat, k % 8 = 6 → 0 ≤ Int32.toInt (pa_cells' k) ∧ Int32.toInt (pa_cells' k) ≤ 9) → (0 ≤ Int32.toInt ro_size' ∧ Int32.toInt ro_size' ≤ 16) → post r x_acts' tx_length' tx_place' tx_stop' no_apron' no_basket' no_ground' no_bruised' no_ladder' no_helper' no_today' no_clock' ru_given' ru_stack' pa_undoable' pa_free' pa_cells' ro_size' ro_numbers') (k0 : Int32) (x_acts : Nat → Int32) (tx_length : Int32) (tx_place : Int32) (tx_stop : Int32) (no_apron : Int32) (no_basket : Int32) (no_ground : Int32) (no_bruised : Int32) (no_ladder : Int32) (no_helper : Int32) (no_today : Int32) (no_clock : Int32) (ru_given : Nat → Int32) (ru_stack : Nat → Int32) (pa_undoable : Int32) (pa_free : Int32) (pa_cells : Nat → Int32) (ro_size : Int32) (ro_numbers : Nat → Int32) (h_tx_length : 0 ≤ Int32.toInt tx_length ∧ Int32.toInt tx_length ≤ 80) (h_tx_place : 0 ≤ Int32.toInt tx_place ∧ Int32.toInt tx_place ≤ 80) (h_tx_stop : 0 ≤ Int32.toInt tx_stop ∧ Int32.toInt tx_stop ≤ 60) (h_no_ladder : -1 ≤ Int32.toInt no_ladder ∧ Int32.toInt no_ladder ≤ 7) (h_no_today : 0 ≤ Int32.toInt no_today ∧ Int32.toInt no_today ≤ 9) (h_pa_undoable : 0 ≤ Int32.toInt pa_undoable ∧ Int32.toInt pa_undoable ≤ 12) (h_pa_free : 0 ≤ Int32.toInt pa_free ∧ Int32.toInt pa_free ≤ 12) (e0_pa_cells : ∀ k : Nat, k % 8 = 4 → -1 ≤ Int32.toInt (pa_cells k) ∧ Int32.toInt (pa_cells k) ≤ 7) (e1_pa_cells : ∀ k : Nat, k % 8 = 6 → 0 ≤ Int32.toInt (pa_cells k) ∧ Int32.toInt (pa_cells k) ≤ 9) (h_ro_size : 0 ≤ Int32.toInt ro_size ∧ Int32.toInt ro_size ≤ 16) : ws_X9_day_68 post tx_signs tr_fruits tr_standings tr_x tr_height tr_worth tr_ripe tr_foot tr_fork tr_settings ru_length ru_program k0 x_acts tx_length tx_place tx_stop no_apron no_basket no_ground no_bruised no_ladder no_helper no_today no_clock ru_given ru_stack pa_undoable pa_free pa_cells ro_size ro_numbers := by
  have l0 : Int32.toInt (0 : Int32) = 0 := (by decide)
  exact hpost _ _ _ _ _ _ _ _ _ _ _ _ _ _ _ _ _ _ _ _ (by omega) (by omega) (by omega) (by omega) (by omega) (by omega) (by omega) e0_pa_cells e1_pa_cells (by omega)
set_option maxHeartbeats 8000000 in
set_option maxRecDepth 200000 in
theorem ts_X9_day_48 {post : Int32 → (Nat → Int32) → Int32 → Int32 → Int32 → Int32 → Int32 → Int32 → Int32 → Int32 → Int32 → Int32 → Int32 → (Nat → Int32) → (Nat → Int32) → Int32 → Int32 → (Nat → Int32) → Int32 → (Nat → Int32) → Prop} (tx_signs : Nat → Int32) (tr_fruits : Int32) (tr_standings : Int32) (tr_x : Nat → Int32) (tr_height : Nat → Int32) (tr_worth : Nat → Int32) (tr_ripe : Nat → Int32) (tr_foot : Nat → Int32) (tr_fork : Nat → Int32) (tr_settings : Nat → Int32) (ru_length : Int32) (ru_program : Nat → Int32) (h_tx_signs : ∀ k : Nat, 0 ≤ Int32.toInt (tx_signs k) ∧ Int32.toInt (tx_signs k) ≤ 65535) (h_tr_fruits : 0 ≤ Int32.toInt tr_fruits ∧ Int32.toInt tr_fruits ≤ 16) (h_tr_standings : 0 ≤ Int32.toInt tr_standings ∧ Int32.toInt tr_standings ≤ 8) (h_ru_length : 0 ≤ Int32.toInt ru_length ∧ Int32.toInt ru_length ≤ 40) (hpost : ∀ (r : Int32) (x_acts' : Nat → Int32) (tx_length' : Int32) (tx_place' : Int32) (tx_stop' : Int32) (no_apron' : Int32) (no_basket' : Int32) (no_ground' : Int32) (no_bruised' : Int32) (no_ladder' : Int32) (no_helper' : Int32) (no_today' : Int32) (no_clock' : Int32) (ru_given' : Nat → Int32) (ru_stack' : Nat → Int32) (pa_undoable' : Int32) (pa_free' : Int32) (pa_cells' : Nat → Int32) (ro_size' : Int32) (ro_numbers' : Nat → Int32), (0 ≤ Int32.toInt tx_length' ∧ Int32.toInt tx_length' ≤ 0) → (0 ≤ Int32.toInt tx_place' ∧ Int32.toInt tx_place' ≤ 80) → (0 ≤ Int32.toInt tx_stop' ∧ Int32.toInt tx_stop' ≤ 60) → (-1 ≤ Int32.toInt no_ladder' ∧ Int32.toInt no_ladder' ≤ 7) → (0 ≤ Int32.toInt no_today' ∧ Int32.toInt no_today' ≤ 9) → (0 ≤ Int32.toInt pa_undoable' ∧ Int32.toInt pa_undoable' ≤ 12) → (0 ≤ Int32.toInt pa_free' ∧ Int32.toInt pa_free' ≤ 12) → (∀ k : Nat, k % 8 = 4 → -1 ≤ Int32.toInt (pa_cells' k) ∧ Int32.toInt (pa_cells' k) ≤ 7) → (∀ k : Nat, k % 8 = 6 → 0 ≤ Int32.toInt (pa_cells' k) ∧ Int32.toInt (pa_cells' k) ≤ 9) → (0 ≤ Int32.toInt ro_size' ∧ Int32.toInt ro_size' ≤ 16) → post r x_acts' tx_length' tx_place' tx_stop' no_apron' no_basket' no_ground' no_bruised' no_ladder' no_helper' no_today' no_clock' ru_given' ru_stack' pa_undoable' pa_free' pa_cells' ro_size' ro_numbers') (x1 : Int32) (k0 : Int32) (x_acts : Nat → Int32) (tx_length : Int32) (tx_place : Int32) (tx_stop : Int32) (no_apron : Int32) (no_basket : Int32) (no_ground : Int32) (no_bruised : Int32) (no_ladder : Int32) (no_helper : Int32) (no_today : Int32) (no_clock : Int32) (ru_given : Nat → Int32) (ru_stack : Nat → Int32) (pa_undoable : Int32) (pa_free : Int32) (pa_cells : Nat → Int32) (ro_size : Int32) (ro_numbers : Nat → Int32) (h_x1 : -1 ≤ Int32.toInt x1 ∧ Int32.toInt x1 ≤ 30) (h_k0 : 0 ≤ Int32.toInt k0 ∧ Int32.toInt k0 ≤ 1) (h_tx_length : 0 ≤ Int32.toInt tx_length ∧ Int32.toInt tx_length ≤ 80) (h_tx_place : 0 ≤ Int32.toInt tx_place ∧ Int32.toInt tx_place ≤ 80) (h_tx_stop : 0 ≤ Int32.toInt tx_stop ∧ Int32.toInt tx_stop ≤ 60) (h_no_ladder : -1 ≤ Int32.toInt no_ladder ∧ Int32.toInt no_ladder ≤ 7) (h_no_today : 0 ≤ Int32.toInt no_today ∧ Int32.toInt no_today ≤ 9) (h_pa_undoable : 0 ≤ Int32.toInt pa_undoable ∧ Int32.toInt pa_undoable ≤ 12) (h_pa_free : 0 ≤ Int32.toInt pa_free ∧ Int32.toInt pa_free ≤ 12) (e0_pa_cells : ∀ k : Nat, k % 8 = 4 → -1 ≤ Int32.toInt (pa_cells k) ∧ Int32.toInt (pa_cells k) ≤ 7) (e1_pa_cells : ∀ k : Nat, k % 8 = 6 → 0 ≤ Int32.toInt (pa_cells k) ∧ Int32.toInt (pa_cells k) ≤ 9) (h_ro_size : 0 ≤ Int32.toInt ro_size ∧ Int32.toInt ro_size ≤ 16) : ws_X9_day_48 post tx_signs tr_fruits tr_standings tr_x tr_height tr_worth tr_ripe tr_foot tr_fork tr_settings ru_length ru_program x1 k0 x_acts tx_length tx_place tx_stop no_apron no_basket no_ground no_bruised no_ladder no_helper no_today no_clock ru_given ru_stack pa_undoable pa_free pa_cells ro_size ro_numbers := by
  have l0 : Int32.toInt ((-1) : Int32) = -1 := (by decide)
  have l1 : Int32.toInt (0 : Int32) = 0 := (by decide)
  refine And.intro (fun c1 => ?_) (fun c1 => ?_)
  · skip
    have c1 := (fa_eq _ _).mp c1
    have f2 : Int32.toInt ((-1) - tx_place) = Int32.toInt ((-1) : Int32) - Int32.toInt tx_place := ta_sub _ _ (by omega)
    obtain ⟨w3, ew3⟩ : ∃ w9 : Int32, w9 = (-1) - tx_place := ⟨_, rfl⟩
    rw [← ew3] at f2
    have f4 := tp_r no_apron
    have f5 := tp_r no_basket
    have f6 := tp_r no_ground
    have f7 := tp_r no_bruised
    have f8 := tp_r no_helper
    have f9 := tp_r no_clock
    have key9 := ts_X9_day_68 tx_signs tr_fruits tr_standings tr_x tr_height tr_worth tr_ripe tr_foot tr_fork tr_settings ru_length ru_program h_tx_signs h_tr_fruits h_tr_standings h_ru_length hpost w3 x_acts tx_length tx_place tx_stop no_apron no_basket no_ground no_bruised no_ladder no_helper no_today no_clock ru_given ru_stack pa_undoable pa_free pa_cells ro_size ro_numbers (by omega) (by omega) (by omega) (by omega) (by omega) (by omega) (by omega) e0_pa_cells e1_pa_cells (by omega)
    subst ew3
    exact key9
  · skip
    have c1 := mt (fa_eq _ _).mpr c1
    refine t_X9_doActs (by omega) (by omega) (by omega) (by omega) (by omega) (by omega) (by omega) (by omega) e0_pa_cells e1_pa_cells (by omega) (fun r25 no_apron_10 no_basket_11 no_ground_12 no_bruised_13 no_ladder_14 no_helper_15 no_today_16 no_clock_17 ru_given_18 ru_stack_19 pa_undoable_20 pa_free_21 pa_cells_22 ro_size_23 ro_numbers_24 h_no_ladder_14 h_no_today_16 h_pa_undoable_20 h_pa_free_21 e0_pa_cells_22 e1_pa_cells_22 h_ro_size_23 => ?_)
    have f26 := tp_r r25
    have f27 := tp_r no_apron_10
    have f28 := tp_r no_basket_11
    have f29 := tp_r no_ground_12
    have f30 := tp_r no_bruised_13
    have f31 := tp_r no_helper_15
    have f32 := tp_r no_clock_17
    exact ts_X9_day_68 tx_signs tr_fruits tr_standings tr_x tr_height tr_worth tr_ripe tr_foot tr_fork tr_settings ru_length ru_program h_tx_signs h_tr_fruits h_tr_standings h_ru_length hpost r25 x_acts tx_length tx_place tx_stop no_apron_10 no_basket_11 no_ground_12 no_bruised_13 no_ladder_14 no_helper_15 no_today_16 no_clock_17 ru_given_18 ru_stack_19 pa_undoable_20 pa_free_21 pa_cells_22 ro_size_23 ro_numbers_24 (by omega) (by omega) (by omega) (by omega) (by omega) (by omega) (by omega) e0_pa_cells_22 e1_pa_cells_22 (by omega)
set_option maxHeartbeats 8000000 in
set_option maxRecDepth 200000 in
theorem ts_X9_day_47 {post : Int32 → (Nat → Int32) → Int32 → Int32 → Int32 → Int32 → Int32 → Int32 → Int32 → Int32 → Int32 → Int32 → Int32 → (Nat → Int32) → (Nat → Int32) → Int32 → Int32 → (Nat → Int32) → Int32 → (Nat → Int32) → Prop} (tx_signs : Nat → Int32) (tr_fruits : Int32) (tr_standings : Int32) (tr_x : Nat → Int32) (tr_height : Nat → Int32) (tr_worth : Nat → Int32) (tr_ripe : Nat → Int32) (tr_foot : Nat → Int32) (tr_fork : Nat → Int32) (tr_settings : Nat → Int32) (ru_length : Int32) (ru_program : Nat → Int32) (h_tx_signs : ∀ k : Nat, 0 ≤ Int32.toInt (tx_signs k) ∧ Int32.toInt (tx_signs k) ≤ 65535) (h_tr_fruits : 0 ≤ Int32.toInt tr_fruits ∧ Int32.toInt tr_fruits ≤ 16) (h_tr_standings : 0 ≤ Int32.toInt tr_standings ∧ Int32.toInt tr_standings ≤ 8) (h_ru_length : 0 ≤ Int32.toInt ru_length ∧ Int32.toInt ru_length ≤ 40) (hpost : ∀ (r : Int32) (x_acts' : Nat → Int32) (tx_length' : Int32) (tx_place' : Int32) (tx_stop' : Int32) (no_apron' : Int32) (no_basket' : Int32) (no_ground' : Int32) (no_bruised' : Int32) (no_ladder' : Int32) (no_helper' : Int32) (no_today' : Int32) (no_clock' : Int32) (ru_given' : Nat → Int32) (ru_stack' : Nat → Int32) (pa_undoable' : Int32) (pa_free' : Int32) (pa_cells' : Nat → Int32) (ro_size' : Int32) (ro_numbers' : Nat → Int32), (0 ≤ Int32.toInt tx_length' ∧ Int32.toInt tx_length' ≤ 0) → (0 ≤ Int32.toInt tx_place' ∧ Int32.toInt tx_place' ≤ 80) → (0 ≤ Int32.toInt tx_stop' ∧ Int32.toInt tx_stop' ≤ 60) → (-1 ≤ Int32.toInt no_ladder' ∧ Int32.toInt no_ladder' ≤ 7) → (0 ≤ Int32.toInt no_today' ∧ Int32.toInt no_today' ≤ 9) → (0 ≤ Int32.toInt pa_undoable' ∧ Int32.toInt pa_undoable' ≤ 12) → (0 ≤ Int32.toInt pa_free' ∧ Int32.toInt pa_free' ≤ 12) → (∀ k : Nat, k % 8 = 4 → -1 ≤ Int32.toInt (pa_cells' k) ∧ Int32.toInt (pa_cells' k) ≤ 7) → (∀ k : Nat, k % 8 = 6 → 0 ≤ Int32.toInt (pa_cells' k) ∧ Int32.toInt (pa_cells' k) ≤ 9) → (0 ≤ Int32.toInt ro_size' ∧ Int32.toInt ro_size' ≤ 16) → post r x_acts' tx_length' tx_place' tx_stop' no_apron' no_basket' no_ground' no_bruised' no_ladder' no_helper' no_today' no_clock' ru_given' ru_stack' pa_undoable' pa_free' pa_cells' ro_size' ro_numbers') (x1 : Int32) (x_acts : Nat → Int32) (tx_length : Int32) (tx_place : Int32) (tx_stop : Int32) (no_apron : Int32) (no_basket : Int32) (no_ground : Int32) (no_bruised : Int32) (no_ladder : Int32) (no_helper : Int32) (no_today : Int32) (no_clock : Int32) (ru_given : Nat → Int32) (ru_stack : Nat → Int32) (pa_undoable : Int32) (pa_free : Int32) (pa_cells : Nat → Int32) (ro_size : Int32) (ro_numbers : Nat → Int32) (h_x1 : -1 ≤ Int32.toInt x1 ∧ Int32.toInt x1 ≤ 30) (h_tx_length : 0 ≤ Int32.toInt tx_length ∧ Int32.toInt tx_length ≤ 80) (h_tx_place : 0 ≤ Int32.toInt tx_place ∧ Int32.toInt tx_place ≤ 80) (h_tx_stop : 0 ≤ Int32.toInt tx_stop ∧ Int32.toInt tx_stop ≤ 60) (h_no_ladder : -1 ≤ Int32.toInt no_ladder ∧ Int32.toInt no_ladder ≤ 7) (h_no_today : 0 ≤ Int32.toInt no_today ∧ Int32.toInt no_today ≤ 9) (h_pa_undoable : 0 ≤ Int32.toInt pa_undoable ∧ Int32.toInt pa_undoable ≤ 12) (h_pa_free : 0 ≤ Int32.toInt pa_free ∧ Int32.toInt pa_free ≤ 12) (e0_pa_cells : ∀ k : Nat, k % 8 = 4 → -1 ≤ Int32.toInt (pa_cells k) ∧ Int32.toInt (pa_cells k) ≤ 7) (e1_pa_cells : ∀ k : Nat, k % 8 = 6 → 0 ≤ Int32.toInt (pa_cells k) ∧ Int32.toInt (pa_cells k) ≤ 9) (h_ro_size : 0 ≤ Int32.toInt ro_size ∧ Int32.toInt ro_size ≤ 16) : ws_X9_day_47 post tx_signs tr_fruits tr_standings tr_x tr_height tr_worth tr_ripe tr_foot tr_fork tr_settings ru_length ru_program x1 x_acts tx_length tx_place tx_stop no_apron no_basket no_ground no_bruised no_ladder no_helper no_today no_clock ru_given ru_stack pa_undoable pa_free pa_cells ro_size ro_numbers := by
  have l0 : Int32.toInt (0 : Int32) = 0 := (by decide)
  have f33 := tp_r no_apron
  have f34 := tp_r no_basket
  have f35 := tp_r no_ground
  have f36 := tp_r no_bruised
  have f37 := tp_r no_helper
  have f38 := tp_r no_clock
  exact ts_X9_day_48 tx_signs tr_fruits tr_standings tr_x tr_height tr_worth tr_ripe tr_foot tr_fork tr_settings ru_length ru_program h_tx_signs h_tr_fruits h_tr_standings h_ru_length hpost x1 0 x_acts tx_length tx_place tx_stop no_apron no_basket no_ground no_bruised no_ladder no_helper no_today no_clock ru_given ru_stack pa_undoable pa_free pa_cells ro_size ro_numbers (by omega) (by omega) (by omega) (by omega) (by omega) (by omega) (by omega) (by omega) (by omega) e0_pa_cells e1_pa_cells (by omega)
set_option maxHeartbeats 8000000 in
set_option maxRecDepth 200000 in
theorem ts_X9_day_27 {post : Int32 → (Nat → Int32) → Int32 → Int32 → Int32 → Int32 → Int32 → Int32 → Int32 → Int32 → Int32 → Int32 → Int32 → (Nat → Int32) → (Nat → Int32) → Int32 → Int32 → (Nat → Int32) → Int32 → (Nat → Int32) → Prop} (tx_signs : Nat → Int32) (tr_fruits : Int32) (tr_standings : Int32) (tr_x : Nat → Int32) (tr_height : Nat → Int32) (tr_worth : Nat → Int32) (tr_ripe : Nat → Int32) (tr_foot : Nat → Int32) (tr_fork : Nat → Int32) (tr_settings : Nat → Int32) (ru_length : Int32) (ru_program : Nat → Int32) (h_tx_signs : ∀ k : Nat, 0 ≤ Int32.toInt (tx_signs k) ∧ Int32.toInt (tx_signs k) ≤ 65535) (h_tr_fruits : 0 ≤ Int32.toInt tr_fruits ∧ Int32.toInt tr_fruits ≤ 16) (h_tr_standings : 0 ≤ Int32.toInt tr_standings ∧ Int32.toInt tr_standings ≤ 8) (h_ru_length : 0 ≤ Int32.toInt ru_length ∧ Int32.toInt ru_length ≤ 40) (hpost : ∀ (r : Int32) (x_acts' : Nat → Int32) (tx_length' : Int32) (tx_place' : Int32) (tx_stop' : Int32) (no_apron' : Int32) (no_basket' : Int32) (no_ground' : Int32) (no_bruised' : Int32) (no_ladder' : Int32) (no_helper' : Int32) (no_today' : Int32) (no_clock' : Int32) (ru_given' : Nat → Int32) (ru_stack' : Nat → Int32) (pa_undoable' : Int32) (pa_free' : Int32) (pa_cells' : Nat → Int32) (ro_size' : Int32) (ro_numbers' : Nat → Int32), (0 ≤ Int32.toInt tx_length' ∧ Int32.toInt tx_length' ≤ 0) → (0 ≤ Int32.toInt tx_place' ∧ Int32.toInt tx_place' ≤ 80) → (0 ≤ Int32.toInt tx_stop' ∧ Int32.toInt tx_stop' ≤ 60) → (-1 ≤ Int32.toInt no_ladder' ∧ Int32.toInt no_ladder' ≤ 7) → (0 ≤ Int32.toInt no_today' ∧ Int32.toInt no_today' ≤ 9) → (0 ≤ Int32.toInt pa_undoable' ∧ Int32.toInt pa_undoable' ≤ 12) → (0 ≤ Int32.toInt pa_free' ∧ Int32.toInt pa_free' ≤ 12) → (∀ k : Nat, k % 8 = 4 → -1 ≤ Int32.toInt (pa_cells' k) ∧ Int32.toInt (pa_cells' k) ≤ 7) → (∀ k : Nat, k % 8 = 6 → 0 ≤ Int32.toInt (pa_cells' k) ∧ Int32.toInt (pa_cells' k) ≤ 9) → (0 ≤ Int32.toInt ro_size' ∧ Int32.toInt ro_size' ≤ 16) → post r x_acts' tx_length' tx_place' tx_stop' no_apron' no_basket' no_ground' no_bruised' no_ladder' no_helper' no_today' no_clock' ru_given' ru_stack' pa_undoable' pa_free' pa_cells' ro_size' ro_numbers') (k0 : Int32) (x_acts : Nat → Int32) (tx_length : Int32) (tx_place : Int32) (tx_stop : Int32) (no_apron : Int32) (no_basket : Int32) (no_ground : Int32) (no_bruised : Int32) (no_ladder : Int32) (no_helper : Int32) (no_today : Int32) (no_clock : Int32) (ru_given : Nat → Int32) (ru_stack : Nat → Int32) (pa_undoable : Int32) (pa_free : Int32) (pa_cells : Nat → Int32) (ro_size : Int32) (ro_numbers : Nat → Int32) (h_k0 : -1 ≤ Int32.toInt k0 ∧ Int32.toInt k0 ≤ 30) (h_tx_length : 0 ≤ Int32.toInt tx_length ∧ Int32.toInt tx_length ≤ 80) (h_tx_place : 0 ≤ Int32.toInt tx_place ∧ Int32.toInt tx_place ≤ 80) (h_tx_stop : 0 ≤ Int32.toInt tx_stop ∧ Int32.toInt tx_stop ≤ 60) (h_no_ladder : -1 ≤ Int32.toInt no_ladder ∧ Int32.toInt no_ladder ≤ 7) (h_no_today : 0 ≤ Int32.toInt no_today ∧ Int32.toInt no_today ≤ 9) (h_pa_undoable : 0 ≤ Int32.toInt pa_undoable ∧ Int32.toInt pa_undoable ≤ 12) (h_pa_free : 0 ≤ Int32.toInt pa_free ∧ Int32.toInt pa_free ≤ 12) (e0_pa_cells : ∀ k : Nat, k % 8 = 4 → -1 ≤ Int32.toInt (pa_cells k) ∧ Int32.toInt (pa_cells k) ≤ 7) (e1_pa_cells : ∀ k : Nat, k % 8 = 6 → 0 ≤ Int32.toInt (pa_cells k) ∧ Int32.toInt (pa_cells k) ≤ 9) (h_ro_size : 0 ≤ Int32.toInt ro_size ∧ Int32.toInt ro_size ≤ 16) : ws_X9_day_27 post tx_signs tr_fruits tr_standings tr_x tr_height tr_worth tr_ripe tr_foot tr_fork tr_settings ru_length ru_program k0 x_acts tx_length tx_place tx_stop no_apron no_basket no_ground no_bruised no_ladder no_helper no_today no_clock ru_given ru_stack pa_undoable pa_free pa_cells ro_size ro_numbers := by
  have l0 : Int32.toInt ((-1) : Int32) = -1 := (by decide)
  have l1 : Int32.toInt (1 : Int32) = 1 := (by decide)
  refine And.intro (fun c39 => ?_) (fun c39 => ?_)
  · skip
    have c39 := (fa_eq _ _).mp c39
    have f40 := tp_r no_apron
    have f41 := tp_r no_basket
    have f42 := tp_r no_ground
    have f43 := tp_r no_bruised
    have f44 := tp_r no_helper
    have f45 := tp_r no_clock
    exact ts_X9_day_47 tx_signs tr_fruits tr_standings tr_x tr_height tr_worth tr_ripe tr_foot tr_fork tr_settings ru_length ru_program h_tx_signs h_tr_fruits h_tr_standings h_ru_length hpost k0 x_acts tx_length tx_place tx_stop no_apron no_basket no_ground no_bruised no_ladder no_helper no_today no_clock ru_given ru_stack pa_undoable pa_free pa_cells ro_size ro_numbers (by omega) (by omega) (by omega) (by omega) (by omega) (by omega) (by omega) (by omega) e0_pa_cells e1_pa_cells (by omega)
  · skip
    have c39 := mt (fa_eq _ _).mpr c39
    refine And.intro (fun c46 => ?_) (fun c46 => ?_)
    · skip
      have c46 := mt (fa_eq _ _).mpr c46
      refine And.intro (fun _ => ?_) (fun h9 => absurd h9 (by decide))
      have f47 := tp_r no_apron
      have f48 := tp_r no_basket
      have f49 := tp_r no_ground
      have f50 := tp_r no_bruised
      have f51 := tp_r no_helper
      have f52 := tp_r no_clock
      exact ts_X9_day_47 tx_signs tr_fruits tr_standings tr_x tr_height tr_worth tr_ripe tr_foot tr_fork tr_settings ru_length ru_program h_tx_signs h_tr_fruits h_tr_standings h_ru_length hpost k0 x_acts tx_length tx_place tx_stop no_apron no_basket no_ground no_bruised no_ladder no_helper no_today no_clock ru_given ru_stack pa_undoable pa_free pa_cells ro_size ro_numbers (by omega) (by omega) (by omega) (by omega) (by omega) (by omega) (by omega) (by omega) e0_pa_cells e1_pa_cells (by omega)
    · skip
      have c46 := (fa_eq _ _).mp c46
      refine And.intro (fun h9 => absurd h9 (by decide)) (fun _ => ?_)
      have f53 := tp_r no_apron
      have f54 := tp_r no_basket
      have f55 := tp_r no_ground
      have f56 := tp_r no_bruised
      have f57 := tp_r no_helper
      have f58 := tp_r no_clock
      exact ts_X9_day_48 tx_signs tr_fruits tr_standings tr_x tr_height tr_worth tr_ripe tr_foot tr_fork tr_settings ru_length ru_program h_tx_signs h_tr_fruits h_tr_standings h_ru_length hpost k0 1 x_acts tx_length tx_place tx_stop no_apron no_basket no_ground no_bruised no_ladder no_helper no_today no_clock ru_given ru_stack pa_undoable pa_free pa_cells ro_size ro_numbers (by omega) (by omega) (by omega) (by omega) (by omega) (by omega) (by omega) (by omega) (by omega) e0_pa_cells e1_pa_cells (by omega)
set_option maxHeartbeats 8000000 in
set_option maxRecDepth 200000 in
theorem t_X9_day {post : Int32 → (Nat → Int32) → Int32 → Int32 → Int32 → Int32 → Int32 → Int32 → Int32 → Int32 → Int32 → Int32 → Int32 → (Nat → Int32) → (Nat → Int32) → Int32 → Int32 → (Nat → Int32) → Int32 → (Nat → Int32) → Prop} {x_acts : Nat → Int32} {tx_length : Int32} {tx_place : Int32} {tx_stop : Int32} {tx_signs : Nat → Int32} {tr_fruits : Int32} {tr_standings : Int32} {tr_x : Nat → Int32} {tr_height : Nat → Int32} {tr_worth : Nat → Int32} {tr_ripe : Nat → Int32} {tr_foot : Nat → Int32} {tr_fork : Nat → Int32} {tr_settings : Nat → Int32} {no_apron : Int32} {no_basket : Int32} {no_ground : Int32} {no_bruised : Int32} {no_ladder : Int32} {no_helper : Int32} {no_today : Int32} {no_clock : Int32} {ru_length : Int32} {ru_given : Nat → Int32} {ru_stack : Nat → Int32} {ru_program : Nat → Int32} {pa_undoable : Int32} {pa_free : Int32} {pa_cells : Nat → Int32} {ro_size : Int32} {ro_numbers : Nat → Int32} (h_tx_length : 0 ≤ Int32.toInt tx_length ∧ Int32.toInt tx_length ≤ 80) (h_tx_place : 0 ≤ Int32.toInt tx_place ∧ Int32.toInt tx_place ≤ 80) (h_tx_stop : 0 ≤ Int32.toInt tx_stop ∧ Int32.toInt tx_stop ≤ 80) (h_tx_signs : ∀ k : Nat, 0 ≤ Int32.toInt (tx_signs k) ∧ Int32.toInt (tx_signs k) ≤ 65535) (h_tr_fruits : 0 ≤ Int32.toInt tr_fruits ∧ Int32.toInt tr_fruits ≤ 16) (h_tr_standings : 0 ≤ Int32.toInt tr_standings ∧ Int32.toInt tr_standings ≤ 8) (h_no_ladder : -1 ≤ Int32.toInt no_ladder ∧ Int32.toInt no_ladder ≤ 7) (h_no_today : 0 ≤ Int32.toInt no_today ∧ Int32.toInt no_today ≤ 9) (h_ru_length : 0 ≤ Int32.toInt ru_length ∧ Int32.toInt ru_length ≤ 40) (h_pa_undoable : 0 ≤ Int32.toInt pa_undoable ∧ Int32.toInt pa_undoable ≤ 12) (h_pa_free : 0 ≤ Int32.toInt pa_free ∧ Int32.toInt pa_free ≤ 12) (e0_pa_cells : ∀ k : Nat, k % 8 = 4 → -1 ≤ Int32.toInt (pa_cells k) ∧ Int32.toInt (pa_cells k) ≤ 7) (e1_pa_cells : ∀ k : Nat, k % 8 = 6 → 0 ≤ Int32.toInt (pa_cells k) ∧ Int32.toInt (pa_cells k) ≤ 9) (h_ro_size : 0 ≤ Int32.toInt ro_size ∧ Int32.toInt ro_size ≤ 16) (hpost : ∀ (r : Int32) (x_acts' : Nat → Int32) (tx_length' : Int32) (tx_place' : Int32) (tx_stop' : Int32) (no_apron' : Int32) (no_basket' : Int32) (no_ground' : Int32) (no_bruised' : Int32) (no_ladder' : Int32) (no_helper' : Int32) (no_today' : Int32) (no_clock' : Int32) (ru_given' : Nat → Int32) (ru_stack' : Nat → Int32) (pa_undoable' : Int32) (pa_free' : Int32) (pa_cells' : Nat → Int32) (ro_size' : Int32) (ro_numbers' : Nat → Int32), (0 ≤ Int32.toInt tx_length' ∧ Int32.toInt tx_length' ≤ 0) → (0 ≤ Int32.toInt tx_place' ∧ Int32.toInt tx_place' ≤ 80) → (0 ≤ Int32.toInt tx_stop' ∧ Int32.toInt tx_stop' ≤ 60) → (-1 ≤ Int32.toInt no_ladder' ∧ Int32.toInt no_ladder' ≤ 7) → (0 ≤ Int32.toInt no_today' ∧ Int32.toInt no_today' ≤ 9) → (0 ≤ Int32.toInt pa_undoable' ∧ Int32.toInt pa_undoable' ≤ 12) → (0 ≤ Int32.toInt pa_free' ∧ Int32.toInt pa_free' ≤ 12) → (∀ k : Nat, k % 8 = 4 → -1 ≤ Int32.toInt (pa_cells' k) ∧ Int32.toInt (pa_cells' k) ≤ 7) → (∀ k : Nat, k % 8 = 6 → 0 ≤ Int32.toInt (pa_cells' k) ∧ Int32.toInt (pa_cells' k) ≤ 9) → (0 ≤ Int32.toInt ro_size' ∧ Int32.toInt ro_size' ≤ 16) → post r x_acts' tx_length' tx_place' tx_stop' no_apron' no_basket' no_ground' no_bruised' no_ladder' no_helper' no_today' no_clock' ru_given' ru_stack' pa_undoable' pa_free' pa_cells' ro_size' ro_numbers') : wp_X9_day post x_acts tx_length tx_place tx_stop tx_signs tr_fruits tr_standings tr_x tr_height tr_worth tr_ripe tr_foot tr_fork tr_settings no_apron no_basket no_ground no_bruised no_ladder no_helper no_today no_clock ru_length ru_given ru_stack ru_program pa_undoable pa_free pa_cells ro_size ro_numbers := by
  have l0 : Int32.toInt (0 : Int32) = 0 := (by decide)
  have l1 : Int32.toInt (60 : Int32) = 60 := (by decide)
  intro v59 ev59
  have f60 := ti_min tx_length (60 : Int32)
  have hv59 := congrArg Int32.toInt ev59
  refine And.intro (fun c61 => ?_) (fun c61 => ?_)
  · skip
    have c61 := mt (fa_eq _ _).mpr c61
    refine t_X9_readActs (by omega) (by omega) (fun k => by have q9 := h_tx_signs k; omega) (fun r64 x_acts_62 tx_place_63 h_r64 h_tx_place_63 => ?_)
    have f65 := tp_r no_apron
    have f66 := tp_r no_basket
    have f67 := tp_r no_ground
    have f68 := tp_r no_bruised
    have f69 := tp_r no_helper
    have f70 := tp_r no_clock
    exact ts_X9_day_27 tx_signs tr_fruits tr_standings tr_x tr_height tr_worth tr_ripe tr_foot tr_fork tr_settings ru_length ru_program h_tx_signs h_tr_fruits h_tr_standings h_ru_length hpost r64 x_acts_62 tx_length tx_place_63 v59 no_apron no_basket no_ground no_bruised no_ladder no_helper no_today no_clock ru_given ru_stack pa_undoable pa_free pa_cells ro_size ro_numbers (by omega) (by omega) (by omega) (by omega) (by omega) (by omega) (by omega) (by omega) e0_pa_cells e1_pa_cells (by omega)
  · skip
    have c61 := (fa_eq _ _).mp c61
    have f71 := tp_r no_apron
    have f72 := tp_r no_basket
    have f73 := tp_r no_ground
    have f74 := tp_r no_bruised
    have f75 := tp_r no_helper
    have f76 := tp_r no_clock
    exact ts_X9_day_27 tx_signs tr_fruits tr_standings tr_x tr_height tr_worth tr_ripe tr_foot tr_fork tr_settings ru_length ru_program h_tx_signs h_tr_fruits h_tr_standings h_ru_length hpost 0 x_acts tx_length 0 v59 no_apron no_basket no_ground no_bruised no_ladder no_helper no_today no_clock ru_given ru_stack pa_undoable pa_free pa_cells ro_size ro_numbers (by omega) (by omega) (by omega) (by omega) (by omega) (by omega) (by omega) (by omega) e0_pa_cells e1_pa_cells (by omega)
