set_option maxHeartbeats 8000000 in
set_option maxRecDepth 200000 in
theorem ts_X3_standingsAt_37 {post : Int32 → Prop} {K5 : Int32 → Int32 → Int32 → Int32 → Prop} {n5 : Int} (tr_standings : Int32) (tr_foot : Nat → Int32) (h_tr_standings : 0 ≤ Int32.toInt tr_standings ∧ Int32.toInt tr_standings ≤ 8) (hpost : ∀ (r : Int32) , (0 ≤ Int32.toInt r ∧ Int32.toInt r ≤ 255) → post r) (hK5 : ∀ (x1 : Int32) (x2 : Int32) (x3 : Int32) (x4 : Int32), (0 ≤ Int32.toInt x2 ∧ Int32.toInt x2 ≤ 99) → (0 ≤ Int32.toInt x3 ∧ Int32.toInt x3 ≤ 255) → (0 ≤ Int32.toInt x4 ∧ Int32.toInt x4 ≤ 8) → (8 - Int32.toInt x4 < n5) → K5 x1 x2 x3 x4) (x1 : Int32) (x2 : Int32) (x3 : Int32) (x4 : Int32) (h_x2 : 0 ≤ Int32.toInt x2 ∧ Int32.toInt x2 ≤ 99) (h_x3 : 0 ≤ Int32.toInt x3 ∧ Int32.toInt x3 ≤ 255) (h_x4 : 0 ≤ Int32.toInt x4 ∧ Int32.toInt x4 ≤ 7) (hn5 : 8 - Int32.toInt x4 ≤ n5) : ws_X3_standingsAt_37 post K5 tr_standings tr_foot x1 x2 x3 x4 := by
  have l0 : Int32.toInt (1 : Int32) = 1 := (by decide)
  intro v1 ev1
  have f2 : Int32.toInt (x4 + 1) = Int32.toInt x4 + Int32.toInt (1 : Int32) := ta_add _ _ (by omega)
  rw [← ev1] at f2
  have f3 := tp_r x1
  exact hK5 x1 x2 x3 v1 (by omega) (by omega) (by omega) (by omega)
set_option maxHeartbeats 8000000 in
set_option maxRecDepth 200000 in
theorem ts_X3_standingsAt_5 {post : Int32 → Prop} {next : Int32 → Int32 → Int32 → Int32 → Prop} {n5 : Int} (tr_standings : Int32) (tr_foot : Nat → Int32) (h_tr_standings : 0 ≤ Int32.toInt tr_standings ∧ Int32.toInt tr_standings ≤ 8) (hpost : ∀ (r : Int32) , (0 ≤ Int32.toInt r ∧ Int32.toInt r ≤ 255) → post r) (hKn : ∀ (x1 : Int32) (x2 : Int32) (x3 : Int32) (x4 : Int32), (0 ≤ Int32.toInt x2 ∧ Int32.toInt x2 ≤ 99) → (0 ≤ Int32.toInt x3 ∧ Int32.toInt x3 ≤ 255) → (0 ≤ Int32.toInt x4 ∧ Int32.toInt x4 ≤ 8) → (8 - Int32.toInt x4 < n5) → next x1 x2 x3 x4) (x1 : Int32) (x2 : Int32) (x3 : Int32) (x4 : Int32) (h_x2 : 0 ≤ Int32.toInt x2 ∧ Int32.toInt x2 ≤ 99) (h_x3 : 0 ≤ Int32.toInt x3 ∧ Int32.toInt x3 ≤ 255) (h_x4 : 0 ≤ Int32.toInt x4 ∧ Int32.toInt x4 ≤ 8) (hn5 : 8 - Int32.toInt x4 ≤ n5) : ws_X3_standingsAt_5 post next tr_standings tr_foot x1 x2 x3 x4 := by
  refine And.intro (fun c4 => ?_) (fun c4 => ?_)
  · skip
    have c4 := (fa_le _ _).mp c4
    exact hpost _ (by omega)
  · skip
    have c4 := mt (fa_le _ _).mpr c4
    refine And.intro (t_in (by omega)) ?_
    intro v5 ev5
    have hv5 := congrArg Int32.toInt ev5
    intro v7 ev7
    have hv7 := congrArg Int32.toInt ev7
    intro v9 ev9
    have hv9 := congrArg Int32.toInt ev9
    have f12 := tp_r v9
    refine And.intro (fun c11 => ?_) (fun c11 => ?_)
    · skip
      have c11 := (fa_lt _ _).mp c11
      have f13 := tp_r x1
      exact ts_X3_standingsAt_37 tr_standings tr_foot h_tr_standings hpost hKn x1 x2 x3 x4 (by omega) (by omega) (by omega) (by omega)
    · skip
      have c11 := mt (fa_lt _ _).mpr c11
      intro v14 ev14
      have f16 := ti_shl1 7 128 x4 (by decide) (by omega)
      have f15 := ti_or 8 256 x3 (1 <<< (x4 &&& 31)) (by decide) (by omega) (by omega)
      have hv14 := congrArg Int32.toInt ev14
      have f17 := tp_r x1
      exact ts_X3_standingsAt_37 tr_standings tr_foot h_tr_standings hpost hKn x1 x2 v14 x4 (by omega) (by omega) (by omega) (by omega)
set_option maxHeartbeats 8000000 in
set_option maxRecDepth 200000 in
theorem tb_X3_standingsAt_5 {post : Int32 → Prop} (tr_standings : Int32) (tr_foot : Nat → Int32) (h_tr_standings : 0 ≤ Int32.toInt tr_standings ∧ Int32.toInt tr_standings ≤ 8) (hpost : ∀ (r : Int32) , (0 ≤ Int32.toInt r ∧ Int32.toInt r ≤ 255) → post r) : ∀ (n : Nat) (x1 : Int32) (x2 : Int32) (x3 : Int32) (x4 : Int32), (0 ≤ Int32.toInt x2 ∧ Int32.toInt x2 ≤ 99) → (0 ≤ Int32.toInt x3 ∧ Int32.toInt x3 ≤ 255) → (0 ≤ Int32.toInt x4 ∧ Int32.toInt x4 ≤ 8) → (8 - Int32.toInt x4 < (n : Int)) → wb_X3_standingsAt_5 post tr_standings tr_foot n x1 x2 x3 x4 := by
  intro n
  induction n with
  | zero =>
    intro x1 x2 x3 x4 h_x2 h_x3 h_x4 hm
    exfalso; omega
  | succ n ih =>
    intro x1 x2 x3 x4 h_x2 h_x3 h_x4 hm
    exact ts_X3_standingsAt_5 tr_standings tr_foot h_tr_standings hpost ih x1 x2 x3 x4 h_x2 h_x3 h_x4 (by omega)
set_option maxHeartbeats 8000000 in
set_option maxRecDepth 200000 in
theorem t_X3_standingsAt {post : Int32 → Prop} {p0 : Int32} {p1 : Int32} {tr_standings : Int32} {tr_foot : Nat → Int32} (h_p1 : 0 ≤ Int32.toInt p1 ∧ Int32.toInt p1 ≤ 99) (h_tr_standings : 0 ≤ Int32.toInt tr_standings ∧ Int32.toInt tr_standings ≤ 8) (hpost : ∀ (r : Int32) , (0 ≤ Int32.toInt r ∧ Int32.toInt r ≤ 255) → post r) : wp_X3_standingsAt post p0 p1 tr_standings tr_foot := by
  have l0 : Int32.toInt (0 : Int32) = 0 := (by decide)
  have f18 := tp_r p0
  exact ⟨10, tb_X3_standingsAt_5 tr_standings tr_foot h_tr_standings hpost _ p0 p1 0 0 (by omega) (by omega) (by omega) (by omega)⟩
set_option maxHeartbeats 8000000 in
set_option maxRecDepth 200000 in
theorem t_X9_marks {post : Int32 → Prop} {p0 : Int32} {p1 : Int32} {tr_standings : Int32} {tr_foot : Nat → Int32} (h_tr_standings : 0 ≤ Int32.toInt tr_standings ∧ Int32.toInt tr_standings ≤ 8) (hpost : ∀ (r : Int32) , (-1 ≤ Int32.toInt r ∧ Int32.toInt r ≤ 255) → post r) : wp_X9_marks post p0 p1 tr_standings tr_foot := by
  have l0 : Int32.toInt ((-1) : Int32) = -1 := (by decide)
  have l1 : Int32.toInt (0 : Int32) = 0 := (by decide)
  have l2 : Int32.toInt (99 : Int32) = 99 := (by decide)
  have f2 := tp_r p0
  refine And.intro (fun c1 => ?_) (fun c1 => ?_)
  · skip
    have c1 := (fa_lt _ _).mp c1
    exact hpost _ (by omega)
  · skip
    have c1 := mt (fa_lt _ _).mpr c1
    refine And.intro (fun c3 => ?_) (fun c3 => ?_)
    · skip
      have c3 := (fa_lt _ _).mp c3
      exact hpost _ (by omega)
    · skip
      have c3 := mt (fa_lt _ _).mpr c3
      have f5 := tp_r p1
      refine And.intro (fun c4 => ?_) (fun c4 => ?_)
      · skip
        have c4 := (fa_lt _ _).mp c4
        exact hpost _ (by omega)
      · skip
        have c4 := mt (fa_lt _ _).mpr c4
        refine And.intro (fun c6 => ?_) (fun c6 => ?_)
        · skip
          have c6 := (fa_le _ _).mp c6
          refine t_X3_standingsAt (by omega) (by omega) (fun r7 h_r7 => ?_)
          exact hpost _ (by omega)
        · skip
          have c6 := mt (fa_le _ _).mpr c6
          exact hpost _ (by omega)
set_option maxHeartbeats 8000000 in
set_option maxRecDepth 200000 in
theorem ts_X1_readAll_5 {post : Int32 → Int32 → Int32 → (Nat → Int32) → Prop} {next : Int32 → Int32 → (Nat → Int32) → Prop} {n5 : Int} (tx_length : Int32) (tx_stop : Int32) (tx_signs : Nat → Int32) (h_tx_length : 0 ≤ Int32.toInt tx_length ∧ Int32.toInt tx_length ≤ 80) (h_tx_stop : 0 ≤ Int32.toInt tx_stop ∧ Int32.toInt tx_stop ≤ 80) (h_tx_signs : ∀ k : Nat, 0 ≤ Int32.toInt (tx_signs k) ∧ Int32.toInt (tx_signs k) ≤ 65535) (hpost : ∀ (r : Int32) (tx_place' : Int32) (mk_many' : Int32) (mk_at' : Nat → Int32), (0 ≤ Int32.toInt r ∧ Int32.toInt r ≤ 1) → (0 ≤ Int32.toInt tx_place' ∧ Int32.toInt tx_place' ≤ 80) → (0 ≤ Int32.toInt mk_many' ∧ Int32.toInt mk_many' ≤ 6) → post r tx_place' mk_many' mk_at') (hKn : ∀ (tx_place : Int32) (mk_many : Int32) (mk_at : Nat → Int32), (0 ≤ Int32.toInt tx_place ∧ Int32.toInt tx_place ≤ 80) → (0 ≤ Int32.toInt mk_many ∧ Int32.toInt mk_many ≤ 6) → (6 - Int32.toInt mk_many < n5) → next tx_place mk_many mk_at) (tx_place : Int32) (mk_many : Int32) (mk_at : Nat → Int32) (h_tx_place : 0 ≤ Int32.toInt tx_place ∧ Int32.toInt tx_place ≤ 80) (h_mk_many : 0 ≤ Int32.toInt mk_many ∧ Int32.toInt mk_many ≤ 6) (hn5 : 6 - Int32.toInt mk_many ≤ n5) : ws_X1_readAll_5 post next tx_length tx_stop tx_signs tx_place mk_many mk_at := by
  have l0 : Int32.toInt ((-1) : Int32) = -1 := (by decide)
  have l1 : Int32.toInt (0 : Int32) = 0 := (by decide)
  have l2 : Int32.toInt (1 : Int32) = 1 := (by decide)
  have l3 : Int32.toInt (2 : Int32) = 2 := (by decide)
  have l4 : Int32.toInt (44 : Int32) = 44 := (by decide)
  have l5 : Int32.toInt (6 : Int32) = 6 := (by decide)
  refine And.intro (fun c1 => ?_) (fun c1 => ?_)
  · skip
    have c1 := (fa_le _ _).mp c1
    exact hpost _ _ _ _ (by omega) (by omega) (by omega)
  · skip
    have c1 := mt (fa_le _ _).mpr c1
    refine t_X8_readNumber (by omega) (by omega) (by omega) (fun k => by have q9 := h_tx_signs k; omega) (fun r3 tx_place_2 h_tx_place_2 => ?_)
    have f5 := tp_r r3
    refine And.intro (fun c4 => ?_) (fun c4 => ?_)
    · skip
      have c4 := mt (fa_eq _ _).mpr c4
      refine And.intro (t_in (by omega)) ?_
      refine And.intro (fun c6 => ?_) (fun c6 => ?_)
      · skip
        have c6 := (fa_le _ _).mp c6
        refine And.intro (fun h9 => absurd h9 (by decide)) (fun _ => ?_)
        refine And.intro (fun h9 => absurd h9 (by decide)) (fun _ => ?_)
        intro v7 ev7
        have f8 : Int32.toInt (mk_many + 1) = Int32.toInt mk_many + Int32.toInt (1 : Int32) := ta_add _ _ (by omega)
        rw [← ev7] at f8
        refine And.intro (fun c9 => ?_) (fun c9 => ?_)
        · skip
          have c9 := mt (fa_eq _ _).mpr c9
          refine And.intro (t_bool (by omega)) ?_
          exact hpost _ _ _ _ (by omega) (by omega) (by omega)
        · skip
          have c9 := (fa_eq _ _).mp c9
          refine And.intro (t_bool (by omega)) ?_
          exact hpost _ _ _ _ (by omega) (by omega) (by omega)
      · skip
        have c6 := mt (fa_le _ _).mpr c6
        refine And.intro (t_in (by omega)) ?_
        intro v10 ev10
        have f11 := h_tx_signs tx_place_2.toNatClampNeg
        have hv10 := congrArg Int32.toInt ev10
        refine And.intro (fun c12 => ?_) (fun c12 => ?_)
        · skip
          have c12 := (fa_eq _ _).mp c12
          intro v13 ev13
          have f14 : Int32.toInt (tx_place_2 + 1) = Int32.toInt tx_place_2 + Int32.toInt (1 : Int32) := ta_add _ _ (by omega)
          rw [← ev13] at f14
          refine And.intro (fun _ => ?_) (fun h9 => absurd h9 (by decide))
          intro v15 ev15
          have f16 : Int32.toInt (mk_many + 1) = Int32.toInt mk_many + Int32.toInt (1 : Int32) := ta_add _ _ (by omega)
          rw [← ev15] at f16
          exact hKn v13 v15 (upd mk_at mk_many.toNatClampNeg r3) (by omega) (by omega) (by omega)
        · skip
          have c12 := mt (fa_eq _ _).mpr c12
          refine And.intro (fun h9 => absurd h9 (by decide)) (fun _ => ?_)
          intro v17 ev17
          have f18 : Int32.toInt (mk_many + 1) = Int32.toInt mk_many + Int32.toInt (1 : Int32) := ta_add _ _ (by omega)
          rw [← ev17] at f18
          refine And.intro (fun c19 => ?_) (fun c19 => ?_)
          · skip
            have c19 := mt (fa_eq _ _).mpr c19
            refine And.intro (t_bool (by omega)) ?_
            exact hpost _ _ _ _ (by omega) (by omega) (by omega)
          · skip
            have c19 := (fa_eq _ _).mp c19
            refine And.intro (t_bool (by omega)) ?_
            exact hpost _ _ _ _ (by omega) (by omega) (by omega)
    · skip
      have c4 := (fa_eq _ _).mp c4
      exact hpost _ _ _ _ (by omega) (by omega) (by omega)
set_option maxHeartbeats 8000000 in
set_option maxRecDepth 200000 in
theorem tb_X1_readAll_5 {post : Int32 → Int32 → Int32 → (Nat → Int32) → Prop} (tx_length : Int32) (tx_stop : Int32) (tx_signs : Nat → Int32) (h_tx_length : 0 ≤ Int32.toInt tx_length ∧ Int32.toInt tx_length ≤ 80) (h_tx_stop : 0 ≤ Int32.toInt tx_stop ∧ Int32.toInt tx_stop ≤ 80) (h_tx_signs : ∀ k : Nat, 0 ≤ Int32.toInt (tx_signs k) ∧ Int32.toInt (tx_signs k) ≤ 65535) (hpost : ∀ (r : Int32) (tx_place' : Int32) (mk_many' : Int32) (mk_at' : Nat → Int32), (0 ≤ Int32.toInt r ∧ Int32.toInt r ≤ 1) → (0 ≤ Int32.toInt tx_place' ∧ Int32.toInt tx_place' ≤ 80) → (0 ≤ Int32.toInt mk_many' ∧ Int32.toInt mk_many' ≤ 6) → post r tx_place' mk_many' mk_at') : ∀ (n : Nat) (tx_place : Int32) (mk_many : Int32) (mk_at : Nat → Int32), (0 ≤ Int32.toInt tx_place ∧ Int32.toInt tx_place ≤ 80) → (0 ≤ Int32.toInt mk_many ∧ Int32.toInt mk_many ≤ 6) → (6 - Int32.toInt mk_many < (n : Int)) → wb_X1_readAll_5 post tx_length tx_stop tx_signs n tx_place mk_many mk_at := by
  intro n
  induction n with
  | zero =>
    intro tx_place mk_many mk_at h_tx_place h_mk_many hm
    exfalso; omega
  | succ n ih =>
    intro tx_place mk_many mk_at h_tx_place h_mk_many hm
    exact ts_X1_readAll_5 tx_length tx_stop tx_signs h_tx_length h_tx_stop h_tx_signs hpost ih tx_place mk_many mk_at h_tx_place h_mk_many (by omega)
set_option maxHeartbeats 8000000 in
set_option maxRecDepth 200000 in
theorem t_X1_readAll {post : Int32 → Int32 → Int32 → (Nat → Int32) → Prop} {tx_length : Int32} {tx_place : Int32} {tx_stop : Int32} {tx_signs : Nat → Int32} {mk_many : Int32} {mk_at : Nat → Int32} (h_tx_length : 0 ≤ Int32.toInt tx_length ∧ Int32.toInt tx_length ≤ 80) (h_tx_place : 0 ≤ Int32.toInt tx_place ∧ Int32.toInt tx_place ≤ 0) (h_tx_stop : 0 ≤ Int32.toInt tx_stop ∧ Int32.toInt tx_stop ≤ 80) (h_tx_signs : ∀ k : Nat, 0 ≤ Int32.toInt (tx_signs k) ∧ Int32.toInt (tx_signs k) ≤ 65535) (h_mk_many : 0 ≤ Int32.toInt mk_many ∧ Int32.toInt mk_many ≤ 6) (hpost : ∀ (r : Int32) (tx_place' : Int32) (mk_many' : Int32) (mk_at' : Nat → Int32), (0 ≤ Int32.toInt r ∧ Int32.toInt r ≤ 1) → (0 ≤ Int32.toInt tx_place' ∧ Int32.toInt tx_place' ≤ 80) → (0 ≤ Int32.toInt mk_many' ∧ Int32.toInt mk_many' ≤ 6) → post r tx_place' mk_many' mk_at') : wp_X1_readAll post tx_length tx_place tx_stop tx_signs mk_many mk_at := by
  have l0 : Int32.toInt (0 : Int32) = 0 := (by decide)
  exact ⟨8, tb_X1_readAll_5 tx_length tx_stop tx_signs h_tx_length h_tx_stop h_tx_signs hpost _ tx_place 0 mk_at (by omega) (by omega) (by omega)⟩
set_option maxHeartbeats 8000000 in
set_option maxRecDepth 200000 in
theorem ts_X1_countRows_92 {post : Int32 → (Nat → Int32) → Prop} {K10 : Int32 → Int32 → Int32 → (Nat → Int32) → Prop} {K37 : Int32 → Int32 → Int32 → Int32 → Int32 → Int32 → (Nat → Int32) → Prop} {n10 : Int} {n37 : Int} (tr_standings : Int32) (tr_foot : Nat → Int32) (mk_many : Int32) (mk_at : Nat → Int32) (h_tr_standings : 0 ≤ Int32.toInt tr_standings ∧ Int32.toInt tr_standings ≤ 8) (h_mk_many : 0 ≤ Int32.toInt mk_many ∧ Int32.toInt mk_many ≤ 6) (hpost : ∀ (r : Int32) (mk_rows' : Nat → Int32), post r mk_rows') (hK10 : ∀ (x2 : Int32) (x3 : Int32) (x4 : Int32) (mk_rows : Nat → Int32), (0 ≤ Int32.toInt x2 ∧ Int32.toInt x2 ≤ 99) → (-1 ≤ Int32.toInt x4 ∧ Int32.toInt x4 ≤ 5) → (Int32.toInt x4 ≤ Int32.toInt mk_many - 1) → (Int32.toInt x4 + 1 < n10) → K10 x2 x3 x4 mk_rows) (hK37 : ∀ (x2 : Int32) (x3 : Int32) (x4 : Int32) (x5 : Int32) (x6 : Int32) (x7 : Int32) (mk_rows : Nat → Int32), (0 ≤ Int32.toInt x2 ∧ Int32.toInt x2 ≤ 99) → (0 ≤ Int32.toInt x4 ∧ Int32.toInt x4 ≤ 5) → (0 ≤ Int32.toInt x5 ∧ Int32.toInt x5 ≤ 255) → (0 ≤ Int32.toInt x7 ∧ Int32.toInt x7 ≤ 8) → (Int32.toInt x4 ≤ Int32.toInt mk_many - 1) → (Int32.toInt x4 + 1 ≤ n10) → (8 - Int32.toInt x7 < n37) → K37 x2 x3 x4 x5 x6 x7 mk_rows) (x2 : Int32) (x3 : Int32) (x4 : Int32) (x5 : Int32) (x6 : Int32) (x7 : Int32) (x8 : Int32) (mk_rows : Nat → Int32) (h_x2 : 0 ≤ Int32.toInt x2 ∧ Int32.toInt x2 ≤ 99) (h_x4 : 0 ≤ Int32.toInt x4 ∧ Int32.toInt x4 ≤ 5) (h_x5 : 0 ≤ Int32.toInt x5 ∧ Int32.toInt x5 ≤ 255) (h_x7 : 0 ≤ Int32.toInt x7 ∧ Int32.toInt x7 ≤ 7) (hx0 : Int32.toInt x4 ≤ Int32.toInt mk_many - 1) (hn10 : Int32.toInt x4 + 1 ≤ n10) (hn37 : 8 - Int32.toInt x7 ≤ n37) : ws_X1_countRows_92 post K10 K37 tr_standings tr_foot mk_many mk_at x2 x3 x4 x5 x6 x7 x8 mk_rows := by
  have l0 : Int32.toInt (1 : Int32) = 1 := (by decide)
  have l1 : Int32.toInt (8 : Int32) = 8 := (by decide)
  intro v1 ev1
  have f2 : Int32.toInt (x4 * 8) = Int32.toInt x4 * 8 := ta_mulc _ _ (by decide) (by omega)
  rw [← ev1] at f2
  intro v3 ev3
  have f4 : Int32.toInt (v1 + x7) = Int32.toInt v1 + Int32.toInt x7 := ta_add _ _ (by omega)
  rw [← ev3] at f4
  refine And.intro (t_in (by omega)) ?_
  intro v5 ev5
  have hv5 := congrArg Int32.toInt ev5
  intro v7 ev7
  have f8 : Int32.toInt (x7 + 1) = Int32.toInt x7 + Int32.toInt (1 : Int32) := ta_add _ _ (by omega)
  rw [← ev7] at f8
  have f9 := tp_r v5
  have f10 := tp_r x6
  exact hK37 x2 v5 x4 x5 x6 v7 (upd mk_rows v3.toNatClampNeg x8) (by omega) (by omega) (by omega) (by omega) (by omega) (by omega) (by omega)
set_option maxHeartbeats 8000000 in
set_option maxRecDepth 200000 in
theorem ts_X1_countRows_90 {post : Int32 → (Nat → Int32) → Prop} {K10 : Int32 → Int32 → Int32 → (Nat → Int32) → Prop} {K37 : Int32 → Int32 → Int32 → Int32 → Int32 → Int32 → (Nat → Int32) → Prop} {n10 : Int} {n37 : Int} (tr_standings : Int32) (tr_foot : Nat → Int32) (mk_many : Int32) (mk_at : Nat → Int32) (h_tr_standings : 0 ≤ Int32.toInt tr_standings ∧ Int32.toInt tr_standings ≤ 8) (h_mk_many : 0 ≤ Int32.toInt mk_many ∧ Int32.toInt mk_many ≤ 6) (hpost : ∀ (r : Int32) (mk_rows' : Nat → Int32), post r mk_rows') (hK10 : ∀ (x2 : Int32) (x3 : Int32) (x4 : Int32) (mk_rows : Nat → Int32), (0 ≤ Int32.toInt x2 ∧ Int32.toInt x2 ≤ 99) → (-1 ≤ Int32.toInt x4 ∧ Int32.toInt x4 ≤ 5) → (Int32.toInt x4 ≤ Int32.toInt mk_many - 1) → (Int32.toInt x4 + 1 < n10) → K10 x2 x3 x4 mk_rows) (hK37 : ∀ (x2 : Int32) (x3 : Int32) (x4 : Int32) (x5 : Int32) (x6 : Int32) (x7 : Int32) (mk_rows : Nat → Int32), (0 ≤ Int32.toInt x2 ∧ Int32.toInt x2 ≤ 99) → (0 ≤ Int32.toInt x4 ∧ Int32.toInt x4 ≤ 5) → (0 ≤ Int32.toInt x5 ∧ Int32.toInt x5 ≤ 255) → (0 ≤ Int32.toInt x7 ∧ Int32.toInt x7 ≤ 8) → (Int32.toInt x4 ≤ Int32.toInt mk_many - 1) → (Int32.toInt x4 + 1 ≤ n10) → (8 - Int32.toInt x7 < n37) → K37 x2 x3 x4 x5 x6 x7 mk_rows) (x2 : Int32) (x3 : Int32) (x4 : Int32) (x5 : Int32) (x6 : Int32) (x7 : Int32) (k0 : Int32) (mk_rows : Nat → Int32) (h_x2 : 0 ≤ Int32.toInt x2 ∧ Int32.toInt x2 ≤ 99) (h_x4 : 0 ≤ Int32.toInt x4 ∧ Int32.toInt x4 ≤ 5) (h_x5 : 0 ≤ Int32.toInt x5 ∧ Int32.toInt x5 ≤ 255) (h_x7 : 0 ≤ Int32.toInt x7 ∧ Int32.toInt x7 ≤ 7) (hx0 : Int32.toInt x4 ≤ Int32.toInt mk_many - 1) (hn10 : Int32.toInt x4 + 1 ≤ n10) (hn37 : 8 - Int32.toInt x7 ≤ n37) : ws_X1_countRows_90 post K10 K37 tr_standings tr_foot mk_many mk_at x2 x3 x4 x5 x6 x7 k0 mk_rows := by
  have f11 := tp_r x3
  have f12 := tp_r x6
  have f13 := tp_r k0
  exact ts_X1_countRows_92 tr_standings tr_foot mk_many mk_at h_tr_standings h_mk_many hpost hK10 hK37 x2 x3 x4 x5 x6 x7 k0 mk_rows (by omega) (by omega) (by omega) (by omega) (by omega) (by omega) (by omega)
set_option maxHeartbeats 8000000 in
set_option maxRecDepth 200000 in
theorem ts_X1_countRows_37 {post : Int32 → (Nat → Int32) → Prop} {K10 : Int32 → Int32 → Int32 → (Nat → Int32) → Prop} {next : Int32 → Int32 → Int32 → Int32 → Int32 → Int32 → (Nat → Int32) → Prop} {n37 : Int} {n10 : Int} (tr_standings : Int32) (tr_foot : Nat → Int32) (mk_many : Int32) (mk_at : Nat → Int32) (h_tr_standings : 0 ≤ Int32.toInt tr_standings ∧ Int32.toInt tr_standings ≤ 8) (h_mk_many : 0 ≤ Int32.toInt mk_many ∧ Int32.toInt mk_many ≤ 6) (hpost : ∀ (r : Int32) (mk_rows' : Nat → Int32), post r mk_rows') (hK10 : ∀ (x2 : Int32) (x3 : Int32) (x4 : Int32) (mk_rows : Nat → Int32), (0 ≤ Int32.toInt x2 ∧ Int32.toInt x2 ≤ 99) → (-1 ≤ Int32.toInt x4 ∧ Int32.toInt x4 ≤ 5) → (Int32.toInt x4 ≤ Int32.toInt mk_many - 1) → (Int32.toInt x4 + 1 < n10) → K10 x2 x3 x4 mk_rows) (hKn : ∀ (x2 : Int32) (x3 : Int32) (x4 : Int32) (x5 : Int32) (x6 : Int32) (x7 : Int32) (mk_rows : Nat → Int32), (0 ≤ Int32.toInt x2 ∧ Int32.toInt x2 ≤ 99) → (0 ≤ Int32.toInt x4 ∧ Int32.toInt x4 ≤ 5) → (0 ≤ Int32.toInt x5 ∧ Int32.toInt x5 ≤ 255) → (0 ≤ Int32.toInt x7 ∧ Int32.toInt x7 ≤ 8) → (Int32.toInt x4 ≤ Int32.toInt mk_many - 1) → (Int32.toInt x4 + 1 ≤ n10) → (8 - Int32.toInt x7 < n37) → next x2 x3 x4 x5 x6 x7 mk_rows) (x2 : Int32) (x3 : Int32) (x4 : Int32) (x5 : Int32) (x6 : Int32) (x7 : Int32) (mk_rows : Nat → Int32) (h_x2 : 0 ≤ Int32.toInt x2 ∧ Int32.toInt x2 ≤ 99) (h_x4 : 0 ≤ Int32.toInt x4 ∧ Int32.toInt x4 ≤ 5) (h_x5 : 0 ≤ Int32.toInt x5 ∧ Int32.toInt x5 ≤ 255) (h_x7 : 0 ≤ Int32.toInt x7 ∧ Int32.toInt x7 ≤ 8) (hx0 : Int32.toInt x4 ≤ Int32.toInt mk_many - 1) (hn10 : Int32.toInt x4 + 1 ≤ n10) (hn37 : 8 - Int32.toInt x7 ≤ n37) : ws_X1_countRows_37 post K10 next tr_standings tr_foot mk_many mk_at x2 x3 x4 x5 x6 x7 mk_rows := by
  have l0 : Int32.toInt ((-1) : Int32) = -1 := (by decide)
  have l1 : Int32.toInt (0 : Int32) = 0 := (by decide)
  have l2 : Int32.toInt (1 : Int32) = 1 := (by decide)
  have l3 : Int32.toInt (8 : Int32) = 8 := (by decide)
  refine And.intro (fun c14 => ?_) (fun c14 => ?_)
  · skip
    have c14 := (fa_le _ _).mp c14
    intro v15 ev15
    have f16 : Int32.toInt (x4 + (-1)) = Int32.toInt x4 + Int32.toInt ((-1) : Int32) := ta_add _ _ (by omega)
    rw [← ev15] at f16
    have f17 := tp_r x3
    exact hK10 x2 x3 v15 mk_rows (by omega) (by omega) (by omega) (by omega)
  · skip
    have c14 := mt (fa_le _ _).mpr c14
    intro v18 ev18
    have f19 := ti_shr x5 x7 (by omega)
    have hv18 := congrArg Int32.toInt ev18
    have f21 := ti_andr v18 1 (by omega)
    have f22 := ti_andl v18 1 (by omega)
    refine And.intro (fun c20 => ?_) (fun c20 => ?_)
    · skip
      have c20 := (fa_eq _ _).mp c20
      have f23 := tp_r x3
      have f24 := tp_r x6
      exact ts_X1_countRows_92 tr_standings tr_foot mk_many mk_at h_tr_standings h_mk_many hpost hK10 hKn x2 x3 x4 x5 x6 x7 0 mk_rows (by omega) (by omega) (by omega) (by omega) (by omega) (by omega) (by omega)
    · skip
      have c20 := mt (fa_eq _ _).mpr c20
      have f26 : Int32.toInt (mk_many - 1) = Int32.toInt mk_many - Int32.toInt (1 : Int32) := ta_sub _ _ (by omega)
      refine And.intro (fun c25 => ?_) (fun c25 => ?_)
      · skip
        have c25 := mt (fa_eq _ _).mpr c25
        intro v27 ev27
        have f28 : Int32.toInt (x4 + 1) = Int32.toInt x4 + Int32.toInt (1 : Int32) := ta_add _ _ (by omega)
        rw [← ev27] at f28
        intro v29 ev29
        have f30 : Int32.toInt (v27 * 8) = Int32.toInt v27 * 8 := ta_mulc _ _ (by decide) (by omega)
        rw [← ev29] at f30
        intro v31 ev31
        have f32 : Int32.toInt (v29 + x7) = Int32.toInt v29 + Int32.toInt x7 := ta_add _ _ (by omega)
        rw [← ev31] at f32
        refine And.intro (t_in (by omega)) ?_
        intro v33 ev33
        have hv33 := congrArg Int32.toInt ev33
        have f35 := tp_r x3
        have f36 := tp_r x6
        have f37 := tp_r v33
        exact ts_X1_countRows_90 tr_standings tr_foot mk_many mk_at h_tr_standings h_mk_many hpost hK10 hKn x2 x3 x4 x5 x6 x7 v33 mk_rows (by omega) (by omega) (by omega) (by omega) (by omega) (by omega) (by omega)
      · skip
        have c25 := (fa_eq _ _).mp c25
        have f38 := tp_r x3
        have f39 := tp_r x6
        exact ts_X1_countRows_90 tr_standings tr_foot mk_many mk_at h_tr_standings h_mk_many hpost hK10 hKn x2 x3 x4 x5 x6 x7 1 mk_rows (by omega) (by omega) (by omega) (by omega) (by omega) (by omega) (by omega)
set_option maxHeartbeats 8000000 in
set_option maxRecDepth 200000 in
theorem tb_X1_countRows_37 {post : Int32 → (Nat → Int32) → Prop} {K10 : Int32 → Int32 → Int32 → (Nat → Int32) → Prop} {n10 : Int} (tr_standings : Int32) (tr_foot : Nat → Int32) (mk_many : Int32) (mk_at : Nat → Int32) (h_tr_standings : 0 ≤ Int32.toInt tr_standings ∧ Int32.toInt tr_standings ≤ 8) (h_mk_many : 0 ≤ Int32.toInt mk_many ∧ Int32.toInt mk_many ≤ 6) (hpost : ∀ (r : Int32) (mk_rows' : Nat → Int32), post r mk_rows') (hK10 : ∀ (x2 : Int32) (x3 : Int32) (x4 : Int32) (mk_rows : Nat → Int32), (0 ≤ Int32.toInt x2 ∧ Int32.toInt x2 ≤ 99) → (-1 ≤ Int32.toInt x4 ∧ Int32.toInt x4 ≤ 5) → (Int32.toInt x4 ≤ Int32.toInt mk_many - 1) → (Int32.toInt x4 + 1 < n10) → K10 x2 x3 x4 mk_rows) : ∀ (n : Nat) (x2 : Int32) (x3 : Int32) (x4 : Int32) (x5 : Int32) (x6 : Int32) (x7 : Int32) (mk_rows : Nat → Int32), (0 ≤ Int32.toInt x2 ∧ Int32.toInt x2 ≤ 99) → (0 ≤ Int32.toInt x4 ∧ Int32.toInt x4 ≤ 5) → (0 ≤ Int32.toInt x5 ∧ Int32.toInt x5 ≤ 255) → (0 ≤ Int32.toInt x7 ∧ Int32.toInt x7 ≤ 8) → (Int32.toInt x4 ≤ Int32.toInt mk_many - 1) → (Int32.toInt x4 + 1 ≤ n10) → (8 - Int32.toInt x7 < (n : Int)) → wb_X1_countRows_37 post K10 tr_standings tr_foot mk_many mk_at n x2 x3 x4 x5 x6 x7 mk_rows := by
  intro n
  induction n with
  | zero =>
    intro x2 x3 x4 x5 x6 x7 mk_rows h_x2 h_x4 h_x5 h_x7 hx0 hn10 hm
    exfalso; omega
  | succ n ih =>
    intro x2 x3 x4 x5 x6 x7 mk_rows h_x2 h_x4 h_x5 h_x7 hx0 hn10 hm
    exact ts_X1_countRows_37 tr_standings tr_foot mk_many mk_at h_tr_standings h_mk_many hpost hK10 ih x2 x3 x4 x5 x6 x7 mk_rows h_x2 h_x4 h_x5 h_x7 hx0 hn10 (by omega)
set_option maxHeartbeats 8000000 in
set_option maxRecDepth 200000 in
theorem ts_X1_countRows_10 {post : Int32 → (Nat → Int32) → Prop} {next : Int32 → Int32 → Int32 → (Nat → Int32) → Prop} {n10 : Int} (tr_standings : Int32) (tr_foot : Nat → Int32) (mk_many : Int32) (mk_at : Nat → Int32) (h_tr_standings : 0 ≤ Int32.toInt tr_standings ∧ Int32.toInt tr_standings ≤ 8) (h_mk_many : 0 ≤ Int32.toInt mk_many ∧ Int32.toInt mk_many ≤ 6) (hpost : ∀ (r : Int32) (mk_rows' : Nat → Int32), post r mk_rows') (hKn : ∀ (x2 : Int32) (x3 : Int32) (x4 : Int32) (mk_rows : Nat → Int32), (0 ≤ Int32.toInt x2 ∧ Int32.toInt x2 ≤ 99) → (-1 ≤ Int32.toInt x4 ∧ Int32.toInt x4 ≤ 5) → (Int32.toInt x4 ≤ Int32.toInt mk_many - 1) → (Int32.toInt x4 + 1 < n10) → next x2 x3 x4 mk_rows) (x2 : Int32) (x3 : Int32) (x4 : Int32) (mk_rows : Nat → Int32) (h_x2 : 0 ≤ Int32.toInt x2 ∧ Int32.toInt x2 ≤ 99) (h_x4 : -1 ≤ Int32.toInt x4 ∧ Int32.toInt x4 ≤ 5) (hx0 : Int32.toInt x4 ≤ Int32.toInt mk_many - 1) (hn10 : Int32.toInt x4 + 1 ≤ n10) : ws_X1_countRows_10 post next tr_standings tr_foot mk_many mk_at x2 x3 x4 mk_rows := by
  have l0 : Int32.toInt (0 : Int32) = 0 := (by decide)
  refine And.intro (fun c40 => ?_) (fun c40 => ?_)
  · skip
    have c40 := (fa_lt _ _).mp c40
    exact hpost _ _ 
  · skip
    have c40 := mt (fa_lt _ _).mpr c40
    refine And.intro (t_in (by omega)) ?_
    intro v41 ev41
    have hv41 := congrArg Int32.toInt ev41
    refine t_X3_standingsAt (by omega) (by omega) (fun r43 h_r43 => ?_)
    have f44 := tp_r x3
    exact ⟨10, tb_X1_countRows_37 tr_standings tr_foot mk_many mk_at h_tr_standings h_mk_many hpost hKn _ x2 0 x4 r43 x3 0 mk_rows (by omega) (by omega) (by omega) (by omega) (by omega) (by omega) (by omega)⟩
set_option maxHeartbeats 8000000 in
set_option maxRecDepth 200000 in
theorem tb_X1_countRows_10 {post : Int32 → (Nat → Int32) → Prop} (tr_standings : Int32) (tr_foot : Nat → Int32) (mk_many : Int32) (mk_at : Nat → Int32) (h_tr_standings : 0 ≤ Int32.toInt tr_standings ∧ Int32.toInt tr_standings ≤ 8) (h_mk_many : 0 ≤ Int32.toInt mk_many ∧ Int32.toInt mk_many ≤ 6) (hpost : ∀ (r : Int32) (mk_rows' : Nat → Int32), post r mk_rows') : ∀ (n : Nat) (x2 : Int32) (x3 : Int32) (x4 : Int32) (mk_rows : Nat → Int32), (0 ≤ Int32.toInt x2 ∧ Int32.toInt x2 ≤ 99) → (-1 ≤ Int32.toInt x4 ∧ Int32.toInt x4 ≤ 5) → (Int32.toInt x4 ≤ Int32.toInt mk_many - 1) → (Int32.toInt x4 + 1 < (n : Int)) → wb_X1_countRows_10 post tr_standings tr_foot mk_many mk_at n x2 x3 x4 mk_rows := by
  intro n
  induction n with
  | zero =>
    intro x2 x3 x4 mk_rows h_x2 h_x4 hx0 hm
    exfalso; omega
  | succ n ih =>
    intro x2 x3 x4 mk_rows h_x2 h_x4 hx0 hm
    exact ts_X1_countRows_10 tr_standings tr_foot mk_many mk_at h_tr_standings h_mk_many hpost ih x2 x3 x4 mk_rows h_x2 h_x4 hx0 (by omega)
set_option maxHeartbeats 8000000 in
set_option maxRecDepth 200000 in
theorem t_X1_countRows {post : Int32 → (Nat → Int32) → Prop} {p1 : Int32} {tr_standings : Int32} {tr_foot : Nat → Int32} {mk_many : Int32} {mk_at : Nat → Int32} {mk_rows : Nat → Int32} (h_p1 : 0 ≤ Int32.toInt p1 ∧ Int32.toInt p1 ≤ 99) (h_tr_standings : 0 ≤ Int32.toInt tr_standings ∧ Int32.toInt tr_standings ≤ 8) (h_mk_many : 0 ≤ Int32.toInt mk_many ∧ Int32.toInt mk_many ≤ 6) (hpost : ∀ (r : Int32) (mk_rows' : Nat → Int32), post r mk_rows') : wp_X1_countRows post p1 tr_standings tr_foot mk_many mk_at mk_rows := by
  have l0 : Int32.toInt (0 : Int32) = 0 := (by decide)
  have l1 : Int32.toInt (1 : Int32) = 1 := (by decide)
  intro v45 ev45
  have f46 : Int32.toInt (mk_many - 1) = Int32.toInt mk_many - Int32.toInt (1 : Int32) := ta_sub _ _ (by omega)
  rw [← ev45] at f46
  exact ⟨8, tb_X1_countRows_10 tr_standings tr_foot mk_many mk_at h_tr_standings h_mk_many hpost _ p1 0 v45 mk_rows (by omega) (by omega) (by omega) (by omega)⟩
set_option maxHeartbeats 8000000 in
set_option maxRecDepth 200000 in
theorem ts_X1_firstFor_29 {post : Int32 → Prop} {K2 : Int32 → Int32 → Int32 → Prop} {n2 : Int} (mk_rows : Nat → Int32) (hpost : ∀ (r : Int32) , (-1 ≤ Int32.toInt r ∧ Int32.toInt r ≤ 7) → post r) (hK2 : ∀ (x1 : Int32) (x2 : Int32) (x3 : Int32), (0 ≤ Int32.toInt x1 ∧ Int32.toInt x1 ≤ 5) → (-1 ≤ Int32.toInt x2 ∧ Int32.toInt x2 ≤ 7) → (0 ≤ Int32.toInt x3 ∧ Int32.toInt x3 ≤ 8) → (8 - Int32.toInt x3 < n2) → K2 x1 x2 x3) (x1 : Int32) (x2 : Int32) (x3 : Int32) (h_x1 : 0 ≤ Int32.toInt x1 ∧ Int32.toInt x1 ≤ 5) (h_x2 : -1 ≤ Int32.toInt x2 ∧ Int32.toInt x2 ≤ 7) (h_x3 : 0 ≤ Int32.toInt x3 ∧ Int32.toInt x3 ≤ 7) (hn2 : 8 - Int32.toInt x3 ≤ n2) : ws_X1_firstFor_29 post K2 mk_rows x1 x2 x3 := by
  have l0 : Int32.toInt (1 : Int32) = 1 := (by decide)
  intro v1 ev1
  have f2 : Int32.toInt (x3 + 1) = Int32.toInt x3 + Int32.toInt (1 : Int32) := ta_add _ _ (by omega)
  rw [← ev1] at f2
  exact hK2 x1 x2 v1 (by omega) (by omega) (by omega) (by omega)
set_option maxHeartbeats 8000000 in
set_option maxRecDepth 200000 in
theorem ts_X1_firstFor_2 {post : Int32 → Prop} {next : Int32 → Int32 → Int32 → Prop} {n2 : Int} (mk_rows : Nat → Int32) (hpost : ∀ (r : Int32) , (-1 ≤ Int32.toInt r ∧ Int32.toInt r ≤ 7) → post r) (hKn : ∀ (x1 : Int32) (x2 : Int32) (x3 : Int32), (0 ≤ Int32.toInt x1 ∧ Int32.toInt x1 ≤ 5) → (-1 ≤ Int32.toInt x2 ∧ Int32.toInt x2 ≤ 7) → (0 ≤ Int32.toInt x3 ∧ Int32.toInt x3 ≤ 8) → (8 - Int32.toInt x3 < n2) → next x1 x2 x3) (x1 : Int32) (x2 : Int32) (x3 : Int32) (h_x1 : 0 ≤ Int32.toInt x1 ∧ Int32.toInt x1 ≤ 5) (h_x2 : -1 ≤ Int32.toInt x2 ∧ Int32.toInt x2 ≤ 7) (h_x3 : 0 ≤ Int32.toInt x3 ∧ Int32.toInt x3 ≤ 8) (hn2 : 8 - Int32.toInt x3 ≤ n2) : ws_X1_firstFor_2 post next mk_rows x1 x2 x3 := by
  have l0 : Int32.toInt ((-1) : Int32) = -1 := (by decide)
  have l1 : Int32.toInt (0 : Int32) = 0 := (by decide)
  have l2 : Int32.toInt (8 : Int32) = 8 := (by decide)
  refine And.intro (fun c3 => ?_) (fun c3 => ?_)
  · skip
    have c3 := (fa_le _ _).mp c3
    exact hpost _ (by omega)
  · skip
    have c3 := mt (fa_le _ _).mpr c3
    refine And.intro (fun c4 => ?_) (fun c4 => ?_)
    · skip
      have c4 := (fa_eq _ _).mp c4
      exact ts_X1_firstFor_29 mk_rows hpost hKn x1 x2 x3 (by omega) (by omega) (by omega) (by omega)
    · skip
      have c4 := mt (fa_eq _ _).mpr c4
      intro v5 ev5
      have f6 : Int32.toInt (x1 * 8) = Int32.toInt x1 * 8 := ta_mulc _ _ (by decide) (by omega)
      rw [← ev5] at f6
      intro v7 ev7
      have f8 : Int32.toInt (v5 + x3) = Int32.toInt v5 + Int32.toInt x3 := ta_add _ _ (by omega)
      rw [← ev7] at f8
      refine And.intro (t_in (by omega)) ?_
      refine And.intro (fun c9 => ?_) (fun c9 => ?_)
      · skip
        have c9 := (fa_le _ _).mp c9
        exact ts_X1_firstFor_29 mk_rows hpost hKn x1 x2 x3 (by omega) (by omega) (by omega) (by omega)
      · skip
        have c9 := mt (fa_le _ _).mpr c9
        exact hpost _ (by omega)
set_option maxHeartbeats 8000000 in
set_option maxRecDepth 200000 in
theorem tb_X1_firstFor_2 {post : Int32 → Prop} (mk_rows : Nat → Int32) (hpost : ∀ (r : Int32) , (-1 ≤ Int32.toInt r ∧ Int32.toInt r ≤ 7) → post r) : ∀ (n : Nat) (x1 : Int32) (x2 : Int32) (x3 : Int32), (0 ≤ Int32.toInt x1 ∧ Int32.toInt x1 ≤ 5) → (-1 ≤ Int32.toInt x2 ∧ Int32.toInt x2 ≤ 7) → (0 ≤ Int32.toInt x3 ∧ Int32.toInt x3 ≤ 8) → (8 - Int32.toInt x3 < (n : Int)) → wb_X1_firstFor_2 post mk_rows n x1 x2 x3 := by
  intro n
  induction n with
  | zero =>
    intro x1 x2 x3 h_x1 h_x2 h_x3 hm
    exfalso; omega
  | succ n ih =>
    intro x1 x2 x3 h_x1 h_x2 h_x3 hm
    exact ts_X1_firstFor_2 mk_rows hpost ih x1 x2 x3 h_x1 h_x2 h_x3 (by omega)
set_option maxHeartbeats 8000000 in
set_option maxRecDepth 200000 in
theorem t_X1_firstFor {post : Int32 → Prop} {p0 : Int32} {p1 : Int32} {mk_rows : Nat → Int32} (h_p0 : 0 ≤ Int32.toInt p0 ∧ Int32.toInt p0 ≤ 5) (h_p1 : -1 ≤ Int32.toInt p1 ∧ Int32.toInt p1 ≤ 7) (hpost : ∀ (r : Int32) , (-1 ≤ Int32.toInt r ∧ Int32.toInt r ≤ 7) → post r) : wp_X1_firstFor post p0 p1 mk_rows := by
  have l0 : Int32.toInt (0 : Int32) = 0 := (by decide)
  exact ⟨10, tb_X1_firstFor_2 mk_rows hpost _ p0 p1 0 (by omega) (by omega) (by omega) (by omega)⟩
set_option maxHeartbeats 8000000 in
set_option maxRecDepth 200000 in
theorem ts_X9_tellLeastMarks_16 {post : Int32 → (Nat → Int32) → Prop} {next : Int32 → Int32 → Int32 → (Nat → Int32) → Prop} {n16 : Int} (mk_many : Int32) (mk_rows : Nat → Int32) (h_mk_many : 0 ≤ Int32.toInt mk_many ∧ Int32.toInt mk_many ≤ 6) (hpost : ∀ (ro_size' : Int32) (ro_numbers' : Nat → Int32), (0 ≤ Int32.toInt ro_size' ∧ Int32.toInt ro_size' ≤ 16) → post ro_size' ro_numbers') (hKn : ∀ (x2 : Int32) (x3 : Int32) (ro_size : Int32) (ro_numbers : Nat → Int32), (-1 ≤ Int32.toInt x2 ∧ Int32.toInt x2 ≤ 7) → (0 ≤ Int32.toInt x3 ∧ Int32.toInt x3 ≤ 6) → (0 ≤ Int32.toInt ro_size ∧ Int32.toInt ro_size ≤ 16) → (6 - Int32.toInt x3 < n16) → next x2 x3 ro_size ro_numbers) (x2 : Int32) (x3 : Int32) (ro_size : Int32) (ro_numbers : Nat → Int32) (h_x2 : -1 ≤ Int32.toInt x2 ∧ Int32.toInt x2 ≤ 7) (h_x3 : 0 ≤ Int32.toInt x3 ∧ Int32.toInt x3 ≤ 6) (h_ro_size : 0 ≤ Int32.toInt ro_size ∧ Int32.toInt ro_size ≤ 16) (hn16 : 6 - Int32.toInt x3 ≤ n16) : ws_X9_tellLeastMarks_16 post next mk_many mk_rows x2 x3 ro_size ro_numbers := by
  have l0 : Int32.toInt (1 : Int32) = 1 := (by decide)
  have l1 : Int32.toInt (16 : Int32) = 16 := (by decide)
  refine And.intro (fun c1 => ?_) (fun c1 => ?_)
  · skip
    have c1 := (fa_le _ _).mp c1
    exact hpost _ _ (by omega)
  · skip
    have c1 := mt (fa_le _ _).mpr c1
    refine t_X1_firstFor (by omega) (by omega) (fun r2 h_r2 => ?_)
    refine And.intro (fun c3 => ?_) (fun c3 => ?_)
    · skip
      have c3 := (fa_le _ _).mp c3
      intro v4 ev4
      have f5 : Int32.toInt (x3 + 1) = Int32.toInt x3 + Int32.toInt (1 : Int32) := ta_add _ _ (by omega)
      rw [← ev4] at f5
      exact hKn r2 v4 ro_size ro_numbers (by omega) (by omega) (by omega) (by omega)
    · skip
      have c3 := mt (fa_le _ _).mpr c3
      refine And.intro (t_in (by omega)) ?_
      intro v6 ev6
      have f7 : Int32.toInt (ro_size + 1) = Int32.toInt ro_size + Int32.toInt (1 : Int32) := ta_add _ _ (by omega)
      rw [← ev6] at f7
      intro v8 ev8
      have f9 : Int32.toInt (x3 + 1) = Int32.toInt x3 + Int32.toInt (1 : Int32) := ta_add _ _ (by omega)
      rw [← ev8] at f9
      exact hKn r2 v8 v6 (upd ro_numbers ro_size.toNatClampNeg r2) (by omega) (by omega) (by omega) (by omega)
set_option maxHeartbeats 8000000 in
set_option maxRecDepth 200000 in
theorem tb_X9_tellLeastMarks_16 {post : Int32 → (Nat → Int32) → Prop} (mk_many : Int32) (mk_rows : Nat → Int32) (h_mk_many : 0 ≤ Int32.toInt mk_many ∧ Int32.toInt mk_many ≤ 6) (hpost : ∀ (ro_size' : Int32) (ro_numbers' : Nat → Int32), (0 ≤ Int32.toInt ro_size' ∧ Int32.toInt ro_size' ≤ 16) → post ro_size' ro_numbers') : ∀ (n : Nat) (x2 : Int32) (x3 : Int32) (ro_size : Int32) (ro_numbers : Nat → Int32), (-1 ≤ Int32.toInt x2 ∧ Int32.toInt x2 ≤ 7) → (0 ≤ Int32.toInt x3 ∧ Int32.toInt x3 ≤ 6) → (0 ≤ Int32.toInt ro_size ∧ Int32.toInt ro_size ≤ 16) → (6 - Int32.toInt x3 < (n : Int)) → wb_X9_tellLeastMarks_16 post mk_many mk_rows n x2 x3 ro_size ro_numbers := by
  intro n
  induction n with
  | zero =>
    intro x2 x3 ro_size ro_numbers h_x2 h_x3 h_ro_size hm
    exfalso; omega
  | succ n ih =>
    intro x2 x3 ro_size ro_numbers h_x2 h_x3 h_ro_size hm
    exact ts_X9_tellLeastMarks_16 mk_many mk_rows h_mk_many hpost ih x2 x3 ro_size ro_numbers h_x2 h_x3 h_ro_size (by omega)
set_option maxHeartbeats 8000000 in
set_option maxRecDepth 200000 in
theorem t_X9_tellLeastMarks {post : Int32 → (Nat → Int32) → Prop} {p0 : Int32} {ro_size : Int32} {ro_numbers : Nat → Int32} {mk_many : Int32} {mk_rows : Nat → Int32} (h_ro_size : 0 ≤ Int32.toInt ro_size ∧ Int32.toInt ro_size ≤ 16) (h_mk_many : 0 ≤ Int32.toInt mk_many ∧ Int32.toInt mk_many ≤ 6) (hpost : ∀ (ro_size' : Int32) (ro_numbers' : Nat → Int32), (0 ≤ Int32.toInt ro_size' ∧ Int32.toInt ro_size' ≤ 16) → post ro_size' ro_numbers') : wp_X9_tellLeastMarks post p0 ro_size ro_numbers mk_many mk_rows := by
  have l0 : Int32.toInt ((-1) : Int32) = -1 := (by decide)
  have l1 : Int32.toInt (0 : Int32) = 0 := (by decide)
  have f11 := tp_r p0
  refine And.intro (fun c10 => ?_) (fun c10 => ?_)
  · skip
    have c10 := mt (fa_eq _ _).mpr c10
    exact ⟨8, tb_X9_tellLeastMarks_16 mk_many mk_rows h_mk_many hpost _ (-1) 0 0 ro_numbers (by omega) (by omega) (by omega) (by omega)⟩
  · skip
    have c10 := (fa_eq _ _).mp c10
    exact hpost _ _ (by omega)
set_option maxHeartbeats 8000000 in
set_option maxRecDepth 200000 in
theorem ts_X9_grass_65 {post : Int32 → Int32 → Int32 → Int32 → Int32 → (Nat → Int32) → Int32 → (Nat → Int32) → (Nat → Int32) → Prop} (tx_signs : Nat → Int32) (tr_standings : Int32) (tr_foot : Nat → Int32) (h_tx_signs : ∀ k : Nat, 0 ≤ Int32.toInt (tx_signs k) ∧ Int32.toInt (tx_signs k) ≤ 65535) (h_tr_standings : 0 ≤ Int32.toInt tr_standings ∧ Int32.toInt tr_standings ≤ 8) (hpost : ∀ (r : Int32) (tx_length' : Int32) (tx_place' : Int32) (tx_stop' : Int32) (ro_size' : Int32) (ro_numbers' : Nat → Int32) (mk_many' : Int32) (mk_at' : Nat → Int32) (mk_rows' : Nat → Int32), (0 ≤ Int32.toInt tx_length' ∧ Int32.toInt tx_length' ≤ 0) → (0 ≤ Int32.toInt tx_place' ∧ Int32.toInt tx_place' ≤ 80) → (0 ≤ Int32.toInt tx_stop' ∧ Int32.toInt tx_stop' ≤ 80) → (0 ≤ Int32.toInt ro_size' ∧ Int32.toInt ro_size' ≤ 16) → (0 ≤ Int32.toInt mk_many' ∧ Int32.toInt mk_many' ≤ 6) → post r tx_length' tx_place' tx_stop' ro_size' ro_numbers' mk_many' mk_at' mk_rows') (x2 : Int32) (tx_length : Int32) (tx_place : Int32) (tx_stop : Int32) (ro_size : Int32) (ro_numbers : Nat → Int32) (mk_many : Int32) (mk_at : Nat → Int32) (mk_rows : Nat → Int32) (h_tx_length : 0 ≤ Int32.toInt tx_length ∧ Int32.toInt tx_length ≤ 80) (h_tx_place : 0 ≤ Int32.toInt tx_place ∧ Int32.toInt tx_place ≤ 80) (h_tx_stop : 0 ≤ Int32.toInt tx_stop ∧ Int32.toInt tx_stop ≤ 80) (h_ro_size : 0 ≤ Int32.toInt ro_size ∧ Int32.toInt ro_size ≤ 16) (h_mk_many : 0 ≤ Int32.toInt mk_many ∧ Int32.toInt mk_many ≤ 6) : ws_X9_grass_65 post tx_signs tr_standings tr_foot x2 tx_length tx_place tx_stop ro_size ro_numbers mk_many mk_at mk_rows := by
  have l0 : Int32.toInt (0 : Int32) = 0 := (by decide)
  exact hpost _ _ _ _ _ _ _ _ _ (by omega) (by omega) (by omega) (by omega) (by omega)
set_option maxHeartbeats 8000000 in
set_option maxRecDepth 200000 in
theorem t_X9_grass {post : Int32 → Int32 → Int32 → Int32 → Int32 → (Nat → Int32) → Int32 → (Nat → Int32) → (Nat → Int32) → Prop} {p0 : Int32} {tx_length : Int32} {tx_place : Int32} {tx_stop : Int32} {tx_signs : Nat → Int32} {tr_standings : Int32} {tr_foot : Nat → Int32} {ro_size : Int32} {ro_numbers : Nat → Int32} {mk_many : Int32} {mk_at : Nat → Int32} {mk_rows : Nat → Int32} (h_tx_length : 0 ≤ Int32.toInt tx_length ∧ Int32.toInt tx_length ≤ 80) (h_tx_place : 0 ≤ Int32.toInt tx_place ∧ Int32.toInt tx_place ≤ 80) (h_tx_stop : 0 ≤ Int32.toInt tx_stop ∧ Int32.toInt tx_stop ≤ 80) (h_tx_signs : ∀ k : Nat, 0 ≤ Int32.toInt (tx_signs k) ∧ Int32.toInt (tx_signs k) ≤ 65535) (h_tr_standings : 0 ≤ Int32.toInt tr_standings ∧ Int32.toInt tr_standings ≤ 8) (h_ro_size : 0 ≤ Int32.toInt ro_size ∧ Int32.toInt ro_size ≤ 16) (h_mk_many : 0 ≤ Int32.toInt mk_many ∧ Int32.toInt mk_many ≤ 6) (hpost : ∀ (r : Int32) (tx_length' : Int32) (tx_place' : Int32) (tx_stop' : Int32) (ro_size' : Int32) (ro_numbers' : Nat → Int32) (mk_many' : Int32) (mk_at' : Nat → Int32) (mk_rows' : Nat → Int32), (0 ≤ Int32.toInt tx_length' ∧ Int32.toInt tx_length' ≤ 0) → (0 ≤ Int32.toInt tx_place' ∧ Int32.toInt tx_place' ≤ 80) → (0 ≤ Int32.toInt tx_stop' ∧ Int32.toInt tx_stop' ≤ 80) → (0 ≤ Int32.toInt ro_size' ∧ Int32.toInt ro_size' ≤ 16) → (0 ≤ Int32.toInt mk_many' ∧ Int32.toInt mk_many' ≤ 6) → post r tx_length' tx_place' tx_stop' ro_size' ro_numbers' mk_many' mk_at' mk_rows') : wp_X9_grass post p0 tx_length tx_place tx_stop tx_signs tr_standings tr_foot ro_size ro_numbers mk_many mk_at mk_rows := by
  have l0 : Int32.toInt ((-1) : Int32) = -1 := (by decide)
  have l1 : Int32.toInt ((-100) : Int32) = -100 := (by decide)
  have l2 : Int32.toInt (0 : Int32) = 0 := (by decide)
  have l3 : Int32.toInt (80 : Int32) = 80 := (by decide)
  have l4 : Int32.toInt (99 : Int32) = 99 := (by decide)
  have f2 := tp_r p0
  refine And.intro (fun c1 => ?_) (fun c1 => ?_)
  · skip
    have c1 := (fa_lt _ _).mp c1
    exact ts_X9_grass_65 tx_signs tr_standings tr_foot h_tx_signs h_tr_standings hpost (-100) tx_length tx_place tx_stop ro_size ro_numbers mk_many mk_at mk_rows (by omega) (by omega) (by omega) (by omega) (by omega)
  · skip
    have c1 := mt (fa_lt _ _).mpr c1
    refine And.intro (fun c3 => ?_) (fun c3 => ?_)
    · skip
      have c3 := (fa_lt _ _).mp c3
      exact ts_X9_grass_65 tx_signs tr_standings tr_foot h_tx_signs h_tr_standings hpost (-100) tx_length tx_place tx_stop ro_size ro_numbers mk_many mk_at mk_rows (by omega) (by omega) (by omega) (by omega) (by omega)
    · skip
      have c3 := mt (fa_lt _ _).mpr c3
      intro v4 ev4
      have f5 := ti_min tx_length (80 : Int32)
      have hv4 := congrArg Int32.toInt ev4
      refine t_X1_readAll (by omega) (by omega) (by omega) (fun k => by have q9 := h_tx_signs k; omega) (by omega) (fun r9 tx_place_6 mk_many_7 mk_at_8 h_r9 h_tx_place_6 h_mk_many_7 => ?_)
      refine And.intro (fun c10 => ?_) (fun c10 => ?_)
      · skip
        have c10 := (fa_eq _ _).mp c10
        have f11 : Int32.toInt ((-1) - tx_place_6) = Int32.toInt ((-1) : Int32) - Int32.toInt tx_place_6 := ta_sub _ _ (by omega)
        obtain ⟨w12, ew12⟩ : ∃ w9 : Int32, w9 = (-1) - tx_place_6 := ⟨_, rfl⟩
        rw [← ew12] at f11
        have key9 := ts_X9_grass_65 tx_signs tr_standings tr_foot h_tx_signs h_tr_standings hpost w12 tx_length tx_place_6 v4 ro_size ro_numbers mk_many_7 mk_at_8 mk_rows (by omega) (by omega) (by omega) (by omega) (by omega)
        subst ew12
        exact key9
      · skip
        have c10 := mt (fa_eq _ _).mpr c10
        refine t_X1_countRows (by omega) (by omega) (by omega) (fun r14 mk_rows_13 => ?_)
        refine t_X9_tellLeastMarks (by omega) (by omega) (fun ro_size_15 ro_numbers_16 h_ro_size_15 => ?_)
        have f17 := tp_r r14
        exact ts_X9_grass_65 tx_signs tr_standings tr_foot h_tx_signs h_tr_standings hpost r14 tx_length tx_place_6 v4 ro_size_15 ro_numbers_16 mk_many_7 mk_at_8 mk_rows_13 (by omega) (by omega) (by omega) (by omega) (by omega)
set_option maxHeartbeats 8000000 in
set_option maxRecDepth 200000 in
theorem ts_X5_isFitting_34 {post : Int32 → Prop} {K2 : Int32 → Int32 → Int32 → Prop} {n2 : Int} (pl_near : Nat → Int32) (tr_standings : Int32) (h_pl_near : ∀ k : Nat, 0 ≤ Int32.toInt (pl_near k) ∧ Int32.toInt (pl_near k) ≤ 65535) (h_tr_standings : 0 ≤ Int32.toInt tr_standings ∧ Int32.toInt tr_standings ≤ 8) (hpost : ∀ (r : Int32) , (0 ≤ Int32.toInt r ∧ Int32.toInt r ≤ 1) → post r) (hK2 : ∀ (x1 : Int32) (x2 : Int32) (x3 : Int32), (0 ≤ Int32.toInt x1 ∧ Int32.toInt x1 ≤ 255) → (0 ≤ Int32.toInt x2 ∧ Int32.toInt x2 ≤ 65535) → (0 ≤ Int32.toInt x3 ∧ Int32.toInt x3 ≤ 8) → (8 - Int32.toInt x3 < n2) → K2 x1 x2 x3) (x1 : Int32) (x2 : Int32) (x3 : Int32) (h_x1 : 0 ≤ Int32.toInt x1 ∧ Int32.toInt x1 ≤ 255) (h_x2 : 0 ≤ Int32.toInt x2 ∧ Int32.toInt x2 ≤ 65535) (h_x3 : 0 ≤ Int32.toInt x3 ∧ Int32.toInt x3 ≤ 7) (hn2 : 8 - Int32.toInt x3 ≤ n2) : ws_X5_isFitting_34 post K2 pl_near tr_standings x1 x2 x3 := by
  have l0 : Int32.toInt (1 : Int32) = 1 := (by decide)
  intro v1 ev1
  have f2 : Int32.toInt (x3 + 1) = Int32.toInt x3 + Int32.toInt (1 : Int32) := ta_add _ _ (by omega)
  rw [← ev1] at f2
  exact hK2 x1 x2 v1 (by omega) (by omega) (by omega) (by omega)
set_option maxHeartbeats 8000000 in
set_option maxRecDepth 200000 in
theorem ts_X5_isFitting_2 {post : Int32 → Prop} {next : Int32 → Int32 → Int32 → Prop} {n2 : Int} (pl_near : Nat → Int32) (tr_standings : Int32) (h_pl_near : ∀ k : Nat, 0 ≤ Int32.toInt (pl_near k) ∧ Int32.toInt (pl_near k) ≤ 65535) (h_tr_standings : 0 ≤ Int32.toInt tr_standings ∧ Int32.toInt tr_standings ≤ 8) (hpost : ∀ (r : Int32) , (0 ≤ Int32.toInt r ∧ Int32.toInt r ≤ 1) → post r) (hKn : ∀ (x1 : Int32) (x2 : Int32) (x3 : Int32), (0 ≤ Int32.toInt x1 ∧ Int32.toInt x1 ≤ 255) → (0 ≤ Int32.toInt x2 ∧ Int32.toInt x2 ≤ 65535) → (0 ≤ Int32.toInt x3 ∧ Int32.toInt x3 ≤ 8) → (8 - Int32.toInt x3 < n2) → next x1 x2 x3) (x1 : Int32) (x2 : Int32) (x3 : Int32) (h_x1 : 0 ≤ Int32.toInt x1 ∧ Int32.toInt x1 ≤ 255) (h_x2 : 0 ≤ Int32.toInt x2 ∧ Int32.toInt x2 ≤ 65535) (h_x3 : 0 ≤ Int32.toInt x3 ∧ Int32.toInt x3 ≤ 8) (hn2 : 8 - Int32.toInt x3 ≤ n2) : ws_X5_isFitting_2 post next pl_near tr_standings x1 x2 x3 := by
  have l0 : Int32.toInt (0 : Int32) = 0 := (by decide)
  have l1 : Int32.toInt (1 : Int32) = 1 := (by decide)
  refine And.intro (fun c3 => ?_) (fun c3 => ?_)
  · skip
    have c3 := (fa_le _ _).mp c3
    refine t_X5_reachedBy (by omega) (fun k => by have q9 := h_pl_near k; omega) (by omega) (fun r4 h_r4 => ?_)
    have f7 := ti_andl x2 (r4 ^^^ (-1)) (by omega)
    refine And.intro (fun c5 => ?_) (fun c5 => ?_)
    · skip
      have c5 := mt (fa_eq _ _).mpr c5
      exact hpost _ (by omega)
    · skip
      have c5Z := c5
      have c5 := (fa_eq _ _).mp c5
      have s8 := ti_subset x2 r4 (c5Z) (by omega)
      exact hpost _ (by omega)
  · skip
    have c3 := mt (fa_le _ _).mpr c3
    intro v9 ev9
    have f10 := ti_shr x1 x3 (by omega)
    have hv9 := congrArg Int32.toInt ev9
    have f12 := ti_andr v9 1 (by omega)
    have f13 := ti_andl v9 1 (by omega)
    refine And.intro (fun c11 => ?_) (fun c11 => ?_)
    · skip
      have c11 := (fa_eq _ _).mp c11
      exact ts_X5_isFitting_34 pl_near tr_standings h_pl_near h_tr_standings hpost hKn x1 x2 x3 (by omega) (by omega) (by omega) (by omega)
    · skip
      have c11 := mt (fa_eq _ _).mpr c11
      refine And.intro (t_in (by omega)) ?_
      intro v14 ev14
      have f15 := h_pl_near x3.toNatClampNeg
      have hv14 := congrArg Int32.toInt ev14
      have f17 := ti_andr v14 x2 (by omega)
      have f18 := ti_andl v14 x2 (by omega)
      refine And.intro (fun c16 => ?_) (fun c16 => ?_)
      · skip
        have c16 := mt (fa_eq _ _).mpr c16
        exact ts_X5_isFitting_34 pl_near tr_standings h_pl_near h_tr_standings hpost hKn x1 x2 x3 (by omega) (by omega) (by omega) (by omega)
      · skip
        have c16 := (fa_eq _ _).mp c16
        exact hpost _ (by omega)
set_option maxHeartbeats 8000000 in
set_option maxRecDepth 200000 in
theorem tb_X5_isFitting_2 {post : Int32 → Prop} (pl_near : Nat → Int32) (tr_standings : Int32) (h_pl_near : ∀ k : Nat, 0 ≤ Int32.toInt (pl_near k) ∧ Int32.toInt (pl_near k) ≤ 65535) (h_tr_standings : 0 ≤ Int32.toInt tr_standings ∧ Int32.toInt tr_standings ≤ 8) (hpost : ∀ (r : Int32) , (0 ≤ Int32.toInt r ∧ Int32.toInt r ≤ 1) → post r) : ∀ (n : Nat) (x1 : Int32) (x2 : Int32) (x3 : Int32), (0 ≤ Int32.toInt x1 ∧ Int32.toInt x1 ≤ 255) → (0 ≤ Int32.toInt x2 ∧ Int32.toInt x2 ≤ 65535) → (0 ≤ Int32.toInt x3 ∧ Int32.toInt x3 ≤ 8) → (8 - Int32.toInt x3 < (n : Int)) → wb_X5_isFitting_2 post pl_near tr_standings n x1 x2 x3 := by
  intro n
  induction n with
  | zero =>
    intro x1 x2 x3 h_x1 h_x2 h_x3 hm
    exfalso; omega
  | succ n ih =>
    intro x1 x2 x3 h_x1 h_x2 h_x3 hm
    exact ts_X5_isFitting_2 pl_near tr_standings h_pl_near h_tr_standings hpost ih x1 x2 x3 h_x1 h_x2 h_x3 (by omega)
set_option maxHeartbeats 8000000 in
set_option maxRecDepth 200000 in
theorem t_X5_isFitting {post : Int32 → Prop} {p0 : Int32} {p1 : Int32} {pl_near : Nat → Int32} {tr_standings : Int32} (h_p0 : 0 ≤ Int32.toInt p0 ∧ Int32.toInt p0 ≤ 255) (h_p1 : 0 ≤ Int32.toInt p1 ∧ Int32.toInt p1 ≤ 65535) (h_pl_near : ∀ k : Nat, 0 ≤ Int32.toInt (pl_near k) ∧ Int32.toInt (pl_near k) ≤ 65535) (h_tr_standings : 0 ≤ Int32.toInt tr_standings ∧ Int32.toInt tr_standings ≤ 8) (hpost : ∀ (r : Int32) , (0 ≤ Int32.toInt r ∧ Int32.toInt r ≤ 1) → post r) : wp_X5_isFitting post p0 p1 pl_near tr_standings := by
  have l0 : Int32.toInt (0 : Int32) = 0 := (by decide)
  exact ⟨10, tb_X5_isFitting_2 pl_near tr_standings h_pl_near h_tr_standings hpost _ p0 p1 0 (by omega) (by omega) (by omega) (by omega)⟩
set_option maxHeartbeats 8000000 in
set_option maxRecDepth 200000 in
theorem ts_X9_fits_104 {post : Int32 → Int32 → (Nat → Int32) → Int32 → (Nat → Int32) → Prop} {K33 : Int32 → Int32 → Int32 → Int32 → Int32 → Int32 → (Nat → Int32) → Int32 → (Nat → Int32) → Prop} {n33 : Int} (tr_fruits : Int32) (tr_standings : Int32) (tr_x : Nat → Int32) (tr_height : Nat → Int32) (tr_ripe : Nat → Int32) (tr_foot : Nat → Int32) (tr_fork : Nat → Int32) (tr_settings : Nat → Int32) (no_apron : Int32) (no_basket : Int32) (no_ground : Int32) (no_helper : Int32) (no_today : Int32) (h_tr_fruits : 0 ≤ Int32.toInt tr_fruits ∧ Int32.toInt tr_fruits ≤ 16) (h_tr_standings : 0 ≤ Int32.toInt tr_standings ∧ Int32.toInt tr_standings ≤ 8) (h_no_today : 0 ≤ Int32.toInt no_today ∧ Int32.toInt no_today ≤ 9) (hpost : ∀ (r : Int32) (pl_wanted' : Int32) (pl_near' : Nat → Int32) (ro_size' : Int32) (ro_numbers' : Nat → Int32), (0 ≤ Int32.toInt pl_wanted' ∧ Int32.toInt pl_wanted' ≤ 65535) → (∀ k : Nat, 0 ≤ Int32.toInt (pl_near' k) ∧ Int32.toInt (pl_near' k) ≤ 65535) → (0 ≤ Int32.toInt ro_size' ∧ Int32.toInt ro_size' ≤ 16) → post r pl_wanted' pl_near' ro_size' ro_numbers') (hK33 : ∀ (x1 : Int32) (x2 : Int32) (x3 : Int32) (x4 : Int32) (x5 : Int32) (pl_wanted : Int32) (pl_near : Nat → Int32) (ro_size : Int32) (ro_numbers : Nat → Int32), (0 ≤ Int32.toInt x1 ∧ Int32.toInt x1 ≤ 65535) → (-1 ≤ Int32.toInt x3 ∧ Int32.toInt x3 ≤ 255) → (-1 ≤ Int32.toInt x4 ∧ Int32.toInt x4 ≤ 255) → (0 ≤ Int32.toInt x5 ∧ Int32.toInt x5 ≤ 256) → (0 ≤ Int32.toInt pl_wanted ∧ Int32.toInt pl_wanted ≤ 65535) → (∀ k : Nat, 0 ≤ Int32.toInt (pl_near k) ∧ Int32.toInt (pl_near k) ≤ 65535) → (0 ≤ Int32.toInt ro_size ∧ Int32.toInt ro_size ≤ 16) → (256 - Int32.toInt x5 < n33) → K33 x1 x2 x3 x4 x5 pl_wanted pl_near ro_size ro_numbers) (x1 : Int32) (x2 : Int32) (x3 : Int32) (x4 : Int32) (x5 : Int32) (pl_wanted : Int32) (pl_near : Nat → Int32) (ro_size : Int32) (ro_numbers : Nat → Int32) (h_x1 : 0 ≤ Int32.toInt x1 ∧ Int32.toInt x1 ≤ 65535) (h_x3 : -1 ≤ Int32.toInt x3 ∧ Int32.toInt x3 ≤ 255) (h_x4 : -1 ≤ Int32.toInt x4 ∧ Int32.toInt x4 ≤ 255) (h_x5 : 0 ≤ Int32.toInt x5 ∧ Int32.toInt x5 ≤ 255) (h_pl_wanted : 0 ≤ Int32.toInt pl_wanted ∧ Int32.toInt pl_wanted ≤ 65535) (h_pl_near : ∀ k : Nat, 0 ≤ Int32.toInt (pl_near k) ∧ Int32.toInt (pl_near k) ≤ 65535) (h_ro_size : 0 ≤ Int32.toInt ro_size ∧ Int32.toInt ro_size ≤ 16) (hn33 : 256 - Int32.toInt x5 ≤ n33) : ws_X9_fits_104 post K33 tr_fruits tr_standings tr_x tr_height tr_ripe tr_foot tr_fork tr_settings no_apron no_basket no_ground no_helper no_today x1 x2 x3 x4 x5 pl_wanted pl_near ro_size ro_numbers := by
  have l0 : Int32.toInt (1 : Int32) = 1 := (by decide)
  intro v1 ev1
  have f2 : Int32.toInt (x5 + 1) = Int32.toInt x5 + Int32.toInt (1 : Int32) := ta_add _ _ (by omega)
  rw [← ev1] at f2
  have f3 := tp_r x2
  exact hK33 x1 x2 x3 x4 v1 pl_wanted pl_near ro_size ro_numbers (by omega) (by omega) (by omega) (by omega) (by omega) (fun k => by have q9 := h_pl_near k; omega) (by omega) (by omega)
set_option maxHeartbeats 8000000 in
set_option maxRecDepth 200000 in
theorem ts_X9_fits_100 {post : Int32 → Int32 → (Nat → Int32) → Int32 → (Nat → Int32) → Prop} {K33 : Int32 → Int32 → Int32 → Int32 → Int32 → Int32 → (Nat → Int32) → Int32 → (Nat → Int32) → Prop} {n33 : Int} (tr_fruits : Int32) (tr_standings : Int32) (tr_x : Nat → Int32) (tr_height : Nat → Int32) (tr_ripe : Nat → Int32) (tr_foot : Nat → Int32) (tr_fork : Nat → Int32) (tr_settings : Nat → Int32) (no_apron : Int32) (no_basket : Int32) (no_ground : Int32) (no_helper : Int32) (no_today : Int32) (h_tr_fruits : 0 ≤ Int32.toInt tr_fruits ∧ Int32.toInt tr_fruits ≤ 16) (h_tr_standings : 0 ≤ Int32.toInt tr_standings ∧ Int32.toInt tr_standings ≤ 8) (h_no_today : 0 ≤ Int32.toInt no_today ∧ Int32.toInt no_today ≤ 9) (hpost : ∀ (r : Int32) (pl_wanted' : Int32) (pl_near' : Nat → Int32) (ro_size' : Int32) (ro_numbers' : Nat → Int32), (0 ≤ Int32.toInt pl_wanted' ∧ Int32.toInt pl_wanted' ≤ 65535) → (∀ k : Nat, 0 ≤ Int32.toInt (pl_near' k) ∧ Int32.toInt (pl_near' k) ≤ 65535) → (0 ≤ Int32.toInt ro_size' ∧ Int32.toInt ro_size' ≤ 16) → post r pl_wanted' pl_near' ro_size' ro_numbers') (hK33 : ∀ (x1 : Int32) (x2 : Int32) (x3 : Int32) (x4 : Int32) (x5 : Int32) (pl_wanted : Int32) (pl_near : Nat → Int32) (ro_size : Int32) (ro_numbers : Nat → Int32), (0 ≤ Int32.toInt x1 ∧ Int32.toInt x1 ≤ 65535) → (-1 ≤ Int32.toInt x3 ∧ Int32.toInt x3 ≤ 255) → (-1 ≤ Int32.toInt x4 ∧ Int32.toInt x4 ≤ 255) → (0 ≤ Int32.toInt x5 ∧ Int32.toInt x5 ≤ 256) → (0 ≤ Int32.toInt pl_wanted ∧ Int32.toInt pl_wanted ≤ 65535) → (∀ k : Nat, 0 ≤ Int32.toInt (pl_near k) ∧ Int32.toInt (pl_near k) ≤ 65535) → (0 ≤ Int32.toInt ro_size ∧ Int32.toInt ro_size ≤ 16) → (256 - Int32.toInt x5 < n33) → K33 x1 x2 x3 x4 x5 pl_wanted pl_near ro_size ro_numbers) (x1 : Int32) (x2 : Int32) (x3 : Int32) (x5 : Int32) (pl_wanted : Int32) (pl_near : Nat → Int32) (ro_size : Int32) (ro_numbers : Nat → Int32) (h_x1 : 0 ≤ Int32.toInt x1 ∧ Int32.toInt x1 ≤ 65535) (h_x3 : 0 ≤ Int32.toInt x3 ∧ Int32.toInt x3 ≤ 255) (h_x5 : 0 ≤ Int32.toInt x5 ∧ Int32.toInt x5 ≤ 255) (h_pl_wanted : 0 ≤ Int32.toInt pl_wanted ∧ Int32.toInt pl_wanted ≤ 65535) (h_pl_near : ∀ k : Nat, 0 ≤ Int32.toInt (pl_near k) ∧ Int32.toInt (pl_near k) ≤ 65535) (h_ro_size : 0 ≤ Int32.toInt ro_size ∧ Int32.toInt ro_size ≤ 16) (hn33 : 256 - Int32.toInt x5 ≤ n33) : ws_X9_fits_100 post K33 tr_fruits tr_standings tr_x tr_height tr_ripe tr_foot tr_fork tr_settings no_apron no_basket no_ground no_helper no_today x1 x2 x3 x5 pl_wanted pl_near ro_size ro_numbers := by
  have f4 := tp_r x2
  exact ts_X9_fits_104 tr_fruits tr_standings tr_x tr_height tr_ripe tr_foot tr_fork tr_settings no_apron no_basket no_ground no_helper no_today h_tr_fruits h_tr_standings h_no_today hpost hK33 x1 x2 x3 x5 x5 pl_wanted pl_near ro_size ro_numbers (by omega) (by omega) (by omega) (by omega) (by omega) (fun k => by have q9 := h_pl_near k; omega) (by omega) (by omega)
set_option maxHeartbeats 8000000 in
set_option maxRecDepth 200000 in
theorem ts_X9_fits_81 {post : Int32 → Int32 → (Nat → Int32) → Int32 → (Nat → Int32) → Prop} {K33 : Int32 → Int32 → Int32 → Int32 → Int32 → Int32 → (Nat → Int32) → Int32 → (Nat → Int32) → Prop} {n33 : Int} (tr_fruits : Int32) (tr_standings : Int32) (tr_x : Nat → Int32) (tr_height : Nat → Int32) (tr_ripe : Nat → Int32) (tr_foot : Nat → Int32) (tr_fork : Nat → Int32) (tr_settings : Nat → Int32) (no_apron : Int32) (no_basket : Int32) (no_ground : Int32) (no_helper : Int32) (no_today : Int32) (h_tr_fruits : 0 ≤ Int32.toInt tr_fruits ∧ Int32.toInt tr_fruits ≤ 16) (h_tr_standings : 0 ≤ Int32.toInt tr_standings ∧ Int32.toInt tr_standings ≤ 8) (h_no_today : 0 ≤ Int32.toInt no_today ∧ Int32.toInt no_today ≤ 9) (hpost : ∀ (r : Int32) (pl_wanted' : Int32) (pl_near' : Nat → Int32) (ro_size' : Int32) (ro_numbers' : Nat → Int32), (0 ≤ Int32.toInt pl_wanted' ∧ Int32.toInt pl_wanted' ≤ 65535) → (∀ k : Nat, 0 ≤ Int32.toInt (pl_near' k) ∧ Int32.toInt (pl_near' k) ≤ 65535) → (0 ≤ Int32.toInt ro_size' ∧ Int32.toInt ro_size' ≤ 16) → post r pl_wanted' pl_near' ro_size' ro_numbers') (hK33 : ∀ (x1 : Int32) (x2 : Int32) (x3 : Int32) (x4 : Int32) (x5 : Int32) (pl_wanted : Int32) (pl_near : Nat → Int32) (ro_size : Int32) (ro_numbers : Nat → Int32), (0 ≤ Int32.toInt x1 ∧ Int32.toInt x1 ≤ 65535) → (-1 ≤ Int32.toInt x3 ∧ Int32.toInt x3 ≤ 255) → (-1 ≤ Int32.toInt x4 ∧ Int32.toInt x4 ≤ 255) → (0 ≤ Int32.toInt x5 ∧ Int32.toInt x5 ≤ 256) → (0 ≤ Int32.toInt pl_wanted ∧ Int32.toInt pl_wanted ≤ 65535) → (∀ k : Nat, 0 ≤ Int32.toInt (pl_near k) ∧ Int32.toInt (pl_near k) ≤ 65535) → (0 ≤ Int32.toInt ro_size ∧ Int32.toInt ro_size ≤ 16) → (256 - Int32.toInt x5 < n33) → K33 x1 x2 x3 x4 x5 pl_wanted pl_near ro_size ro_numbers) (x1 : Int32) (x2 : Int32) (x3 : Int32) (x4 : Int32) (x5 : Int32) (pl_wanted : Int32) (pl_near : Nat → Int32) (ro_size : Int32) (ro_numbers : Nat → Int32) (h_x1 : 0 ≤ Int32.toInt x1 ∧ Int32.toInt x1 ≤ 65535) (h_x3 : 0 ≤ Int32.toInt x3 ∧ Int32.toInt x3 ≤ 255) (h_x4 : -1 ≤ Int32.toInt x4 ∧ Int32.toInt x4 ≤ 255) (h_x5 : 0 ≤ Int32.toInt x5 ∧ Int32.toInt x5 ≤ 255) (h_pl_wanted : 0 ≤ Int32.toInt pl_wanted ∧ Int32.toInt pl_wanted ≤ 65535) (h_pl_near : ∀ k : Nat, 0 ≤ Int32.toInt (pl_near k) ∧ Int32.toInt (pl_near k) ≤ 65535) (h_ro_size : 0 ≤ Int32.toInt ro_size ∧ Int32.toInt ro_size ≤ 16) (hn33 : 256 - Int32.toInt x5 ≤ n33) : ws_X9_fits_81 post K33 tr_fruits tr_standings tr_x tr_height tr_ripe tr_foot tr_fork tr_settings no_apron no_basket no_ground no_helper no_today x1 x2 x3 x4 x5 pl_wanted pl_near ro_size ro_numbers := by
  have l0 : Int32.toInt ((-1) : Int32) = -1 := (by decide)
  have l1 : Int32.toInt (1431655765 : Int32) = 1431655765 := (by decide)
  have l2 : Int32.toInt (252645135 : Int32) = 252645135 := (by decide)
  have l3 : Int32.toInt (63 : Int32) = 63 := (by decide)
  have l4 : Int32.toInt (858993459 : Int32) = 858993459 := (by decide)
  refine And.intro (fun c5 => ?_) (fun c5 => ?_)
  · skip
    have c5 := (fa_eq _ _).mp c5
    have f6 := tp_r x2
    exact ts_X9_fits_100 tr_fruits tr_standings tr_x tr_height tr_ripe tr_foot tr_fork tr_settings no_apron no_basket no_ground no_helper no_today h_tr_fruits h_tr_standings h_no_today hpost hK33 x1 x2 x3 x5 pl_wanted pl_near ro_size ro_numbers (by omega) (by omega) (by omega) (by omega) (fun k => by have q9 := h_pl_near k; omega) (by omega) (by omega)
  · skip
    have c5 := mt (fa_eq _ _).mpr c5
    intro v7 ev7
    intro v8 ev8
    have f10 := ti_andr v7 1431655765 (by omega)
    have f9 : Int32.toInt (x5 - (v7 &&& 1431655765)) = Int32.toInt x5 - Int32.toInt (v7 &&& 1431655765) := ta_sub _ _ (by omega)
    rw [← ev8] at f9
    intro v11 ev11
    have f12 := ti_andr v8 858993459 (by omega)
    have hv11 := congrArg Int32.toInt ev11
    intro v13 ev13
    intro v14 ev14
    have f16 := ti_andr v13 858993459 (by omega)
    have f15 : Int32.toInt (v11 + (v13 &&& 858993459)) = Int32.toInt v11 + Int32.toInt (v13 &&& 858993459) := ta_add _ _ (by omega)
    rw [← ev14] at f15
    intro v17 ev17
    have hv17 := congrArg Int32.toInt ev17
    intro v19 ev19
    have f20 := ti_andr v17 252645135 (by omega)
    have hv19 := congrArg Int32.toInt ev19
    intro v21 ev21
    have hv21 := congrArg Int32.toInt ev21
    intro v23 ev23
    have hv23 := congrArg Int32.toInt ev23
    intro v25 ev25
    intro v26 ev26
    have f28 := ti_andr v25 1431655765 (by omega)
    have f27 : Int32.toInt (x4 - (v25 &&& 1431655765)) = Int32.toInt x4 - Int32.toInt (v25 &&& 1431655765) := ta_sub _ _ (by omega)
    rw [← ev26] at f27
    intro v29 ev29
    have f30 := ti_andr v26 858993459 (by omega)
    have hv29 := congrArg Int32.toInt ev29
    intro v31 ev31
    intro v32 ev32
    have f34 := ti_andr v31 858993459 (by omega)
    have f33 : Int32.toInt (v29 + (v31 &&& 858993459)) = Int32.toInt v29 + Int32.toInt (v31 &&& 858993459) := ta_add _ _ (by omega)
    rw [← ev32] at f33
    intro v35 ev35
    have hv35 := congrArg Int32.toInt ev35
    intro v37 ev37
    have f38 := ti_andr v35 252645135 (by omega)
    have hv37 := congrArg Int32.toInt ev37
    intro v39 ev39
    have hv39 := congrArg Int32.toInt ev39
    intro v41 ev41
    have hv41 := congrArg Int32.toInt ev41
    have f44 := ti_andr v23 63 (by omega)
    have f45 := ti_andr v41 63 (by omega)
    refine And.intro (fun c43 => ?_) (fun c43 => ?_)
    · skip
      have c43 := (fa_le _ _).mp c43
      have f46 := tp_r x2
      exact ts_X9_fits_104 tr_fruits tr_standings tr_x tr_height tr_ripe tr_foot tr_fork tr_settings no_apron no_basket no_ground no_helper no_today h_tr_fruits h_tr_standings h_no_today hpost hK33 x1 x2 x3 x4 x5 pl_wanted pl_near ro_size ro_numbers (by omega) (by omega) (by omega) (by omega) (by omega) (fun k => by have q9 := h_pl_near k; omega) (by omega) (by omega)
    · skip
      have c43 := mt (fa_le _ _).mpr c43
      have f47 := tp_r x2
      exact ts_X9_fits_100 tr_fruits tr_standings tr_x tr_height tr_ripe tr_foot tr_fork tr_settings no_apron no_basket no_ground no_helper no_today h_tr_fruits h_tr_standings h_no_today hpost hK33 x1 x2 x3 x5 pl_wanted pl_near ro_size ro_numbers (by omega) (by omega) (by omega) (by omega) (fun k => by have q9 := h_pl_near k; omega) (by omega) (by omega)
set_option maxHeartbeats 8000000 in
set_option maxRecDepth 200000 in
theorem ts_X9_fits_78 {post : Int32 → Int32 → (Nat → Int32) → Int32 → (Nat → Int32) → Prop} {K33 : Int32 → Int32 → Int32 → Int32 → Int32 → Int32 → (Nat → Int32) → Int32 → (Nat → Int32) → Prop} {n33 : Int} (tr_fruits : Int32) (tr_standings : Int32) (tr_x : Nat → Int32) (tr_height : Nat → Int32) (tr_ripe : Nat → Int32) (tr_foot : Nat → Int32) (tr_fork : Nat → Int32) (tr_settings : Nat → Int32) (no_apron : Int32) (no_basket : Int32) (no_ground : Int32) (no_helper : Int32) (no_today : Int32) (h_tr_fruits : 0 ≤ Int32.toInt tr_fruits ∧ Int32.toInt tr_fruits ≤ 16) (h_tr_standings : 0 ≤ Int32.toInt tr_standings ∧ Int32.toInt tr_standings ≤ 8) (h_no_today : 0 ≤ Int32.toInt no_today ∧ Int32.toInt no_today ≤ 9) (hpost : ∀ (r : Int32) (pl_wanted' : Int32) (pl_near' : Nat → Int32) (ro_size' : Int32) (ro_numbers' : Nat → Int32), (0 ≤ Int32.toInt pl_wanted' ∧ Int32.toInt pl_wanted' ≤ 65535) → (∀ k : Nat, 0 ≤ Int32.toInt (pl_near' k) ∧ Int32.toInt (pl_near' k) ≤ 65535) → (0 ≤ Int32.toInt ro_size' ∧ Int32.toInt ro_size' ≤ 16) → post r pl_wanted' pl_near' ro_size' ro_numbers') (hK33 : ∀ (x1 : Int32) (x2 : Int32) (x3 : Int32) (x4 : Int32) (x5 : Int32) (pl_wanted : Int32) (pl_near : Nat → Int32) (ro_size : Int32) (ro_numbers : Nat → Int32), (0 ≤ Int32.toInt x1 ∧ Int32.toInt x1 ≤ 65535) → (-1 ≤ Int32.toInt x3 ∧ Int32.toInt x3 ≤ 255) → (-1 ≤ Int32.toInt x4 ∧ Int32.toInt x4 ≤ 255) → (0 ≤ Int32.toInt x5 ∧ Int32.toInt x5 ≤ 256) → (0 ≤ Int32.toInt pl_wanted ∧ Int32.toInt pl_wanted ≤ 65535) → (∀ k : Nat, 0 ≤ Int32.toInt (pl_near k) ∧ Int32.toInt (pl_near k) ≤ 65535) → (0 ≤ Int32.toInt ro_size ∧ Int32.toInt ro_size ≤ 16) → (256 - Int32.toInt x5 < n33) → K33 x1 x2 x3 x4 x5 pl_wanted pl_near ro_size ro_numbers) (x1 : Int32) (x2 : Int32) (x4 : Int32) (x5 : Int32) (pl_wanted : Int32) (pl_near : Nat → Int32) (ro_size : Int32) (ro_numbers : Nat → Int32) (h_x1 : 0 ≤ Int32.toInt x1 ∧ Int32.toInt x1 ≤ 65535) (h_x4 : -1 ≤ Int32.toInt x4 ∧ Int32.toInt x4 ≤ 255) (h_x5 : 0 ≤ Int32.toInt x5 ∧ Int32.toInt x5 ≤ 255) (h_pl_wanted : 0 ≤ Int32.toInt pl_wanted ∧ Int32.toInt pl_wanted ≤ 65535) (h_pl_near : ∀ k : Nat, 0 ≤ Int32.toInt (pl_near k) ∧ Int32.toInt (pl_near k) ≤ 65535) (h_ro_size : 0 ≤ Int32.toInt ro_size ∧ Int32.toInt ro_size ≤ 16) (hn33 : 256 - Int32.toInt x5 ≤ n33) : ws_X9_fits_78 post K33 tr_fruits tr_standings tr_x tr_height tr_ripe tr_foot tr_fork tr_settings no_apron no_basket no_ground no_helper no_today x1 x2 x4 x5 pl_wanted pl_near ro_size ro_numbers := by
  have f48 := tp_r x2
  exact ts_X9_fits_81 tr_fruits tr_standings tr_x tr_height tr_ripe tr_foot tr_fork tr_settings no_apron no_basket no_ground no_helper no_today h_tr_fruits h_tr_standings h_no_today hpost hK33 x1 x2 x5 x4 x5 pl_wanted pl_near ro_size ro_numbers (by omega) (by omega) (by omega) (by omega) (by omega) (fun k => by have q9 := h_pl_near k; omega) (by omega) (by omega)
set_option maxHeartbeats 8000000 in
set_option maxRecDepth 200000 in
theorem ts_X9_fits_33 {post : Int32 → Int32 → (Nat → Int32) → Int32 → (Nat → Int32) → Prop} {next : Int32 → Int32 → Int32 → Int32 → Int32 → Int32 → (Nat → Int32) → Int32 → (Nat → Int32) → Prop} {n33 : Int} (tr_fruits : Int32) (tr_standings : Int32) (tr_x : Nat → Int32) (tr_height : Nat → Int32) (tr_ripe : Nat → Int32) (tr_foot : Nat → Int32) (tr_fork : Nat → Int32) (tr_settings : Nat → Int32) (no_apron : Int32) (no_basket : Int32) (no_ground : Int32) (no_helper : Int32) (no_today : Int32) (h_tr_fruits : 0 ≤ Int32.toInt tr_fruits ∧ Int32.toInt tr_fruits ≤ 16) (h_tr_standings : 0 ≤ Int32.toInt tr_standings ∧ Int32.toInt tr_standings ≤ 8) (h_no_today : 0 ≤ Int32.toInt no_today ∧ Int32.toInt no_today ≤ 9) (hpost : ∀ (r : Int32) (pl_wanted' : Int32) (pl_near' : Nat → Int32) (ro_size' : Int32) (ro_numbers' : Nat → Int32), (0 ≤ Int32.toInt pl_wanted' ∧ Int32.toInt pl_wanted' ≤ 65535) → (∀ k : Nat, 0 ≤ Int32.toInt (pl_near' k) ∧ Int32.toInt (pl_near' k) ≤ 65535) → (0 ≤ Int32.toInt ro_size' ∧ Int32.toInt ro_size' ≤ 16) → post r pl_wanted' pl_near' ro_size' ro_numbers') (hKn : ∀ (x1 : Int32) (x2 : Int32) (x3 : Int32) (x4 : Int32) (x5 : Int32) (pl_wanted : Int32) (pl_near : Nat → Int32) (ro_size : Int32) (ro_numbers : Nat → Int32), (0 ≤ Int32.toInt x1 ∧ Int32.toInt x1 ≤ 65535) → (-1 ≤ Int32.toInt x3 ∧ Int32.toInt x3 ≤ 255) → (-1 ≤ Int32.toInt x4 ∧ Int32.toInt x4 ≤ 255) → (0 ≤ Int32.toInt x5 ∧ Int32.toInt x5 ≤ 256) → (0 ≤ Int32.toInt pl_wanted ∧ Int32.toInt pl_wanted ≤ 65535) → (∀ k : Nat, 0 ≤ Int32.toInt (pl_near k) ∧ Int32.toInt (pl_near k) ≤ 65535) → (0 ≤ Int32.toInt ro_size ∧ Int32.toInt ro_size ≤ 16) → (256 - Int32.toInt x5 < n33) → next x1 x2 x3 x4 x5 pl_wanted pl_near ro_size ro_numbers) (x1 : Int32) (x2 : Int32) (x3 : Int32) (x4 : Int32) (x5 : Int32) (pl_wanted : Int32) (pl_near : Nat → Int32) (ro_size : Int32) (ro_numbers : Nat → Int32) (h_x1 : 0 ≤ Int32.toInt x1 ∧ Int32.toInt x1 ≤ 65535) (h_x3 : -1 ≤ Int32.toInt x3 ∧ Int32.toInt x3 ≤ 255) (h_x4 : -1 ≤ Int32.toInt x4 ∧ Int32.toInt x4 ≤ 255) (h_x5 : 0 ≤ Int32.toInt x5 ∧ Int32.toInt x5 ≤ 256) (h_pl_wanted : 0 ≤ Int32.toInt pl_wanted ∧ Int32.toInt pl_wanted ≤ 65535) (h_pl_near : ∀ k : Nat, 0 ≤ Int32.toInt (pl_near k) ∧ Int32.toInt (pl_near k) ≤ 65535) (h_ro_size : 0 ≤ Int32.toInt ro_size ∧ Int32.toInt ro_size ≤ 16) (hn33 : 256 - Int32.toInt x5 ≤ n33) : ws_X9_fits_33 post next tr_fruits tr_standings tr_x tr_height tr_ripe tr_foot tr_fork tr_settings no_apron no_basket no_ground no_helper no_today x1 x2 x3 x4 x5 pl_wanted pl_near ro_size ro_numbers := by
  have l0 : Int32.toInt ((-1) : Int32) = -1 := (by decide)
  have l1 : Int32.toInt (0 : Int32) = 0 := (by decide)
  have l2 : Int32.toInt (1 : Int32) = 1 := (by decide)
  have l3 : Int32.toInt (1431655765 : Int32) = 1431655765 := (by decide)
  have l4 : Int32.toInt (16 : Int32) = 16 := (by decide)
  have l5 : Int32.toInt (252645135 : Int32) = 252645135 := (by decide)
  have l6 : Int32.toInt (63 : Int32) = 63 := (by decide)
  have l7 : Int32.toInt (858993459 : Int32) = 858993459 := (by decide)
  intro v49 ev49
  have f50 := ti_shl1 8 256 tr_standings (by decide) (by omega)
  have hv49 := congrArg Int32.toInt ev49
  have f52 : Int32.toInt (v49 - 1) = Int32.toInt v49 - Int32.toInt (1 : Int32) := ta_sub _ _ (by omega)
  refine And.intro (fun c51 => ?_) (fun c51 => ?_)
  · skip
    have c51 := (fa_lt _ _).mp c51
    refine And.intro (fun h9 => absurd h9 (by decide)) (fun _ => ?_)
    refine And.intro (t_in (by omega)) ?_
    intro v53 ev53
    have f54 : Int32.toInt (0 + 1) = Int32.toInt (0 : Int32) + Int32.toInt (1 : Int32) := ta_add _ _ (by omega)
    rw [← ev53] at f54
    refine And.intro (fun c55 => ?_) (fun c55 => ?_)
    · skip
      have c55 := (fa_le _ _).mp c55
      exfalso; omega
    · skip
      have c55 := mt (fa_le _ _).mpr c55
      refine And.intro (t_in (by omega)) ?_
      intro v56 ev56
      have f57 : Int32.toInt (v53 + 1) = Int32.toInt v53 + Int32.toInt (1 : Int32) := ta_add _ _ (by omega)
      rw [← ev56] at f57
      exact hpost _ _ _ _ _ (by omega) (fun k => by have q9 := h_pl_near k; omega) (by omega)
  · skip
    have c51 := mt (fa_lt _ _).mpr c51
    refine t_X5_isFitting (by omega) (by omega) (fun k => by have q9 := h_pl_near k; omega) (by omega) (fun r58 h_r58 => ?_)
    refine And.intro (fun c59 => ?_) (fun c59 => ?_)
    · skip
      have c59 := (fa_eq _ _).mp c59
      have f60 := tp_r x2
      exact ts_X9_fits_104 tr_fruits tr_standings tr_x tr_height tr_ripe tr_foot tr_fork tr_settings no_apron no_basket no_ground no_helper no_today h_tr_fruits h_tr_standings h_no_today hpost hKn x1 x2 x3 x4 x5 pl_wanted pl_near ro_size ro_numbers (by omega) (by omega) (by omega) (by omega) (by omega) (fun k => by have q9 := h_pl_near k; omega) (by omega) (by omega)
    · skip
      have c59 := mt (fa_eq _ _).mpr c59
      intro v61 ev61
      have hv61 := congrArg Int32.toInt ev61
      refine And.intro (fun c63 => ?_) (fun c63 => ?_)
      · skip
        have c63 := (fa_eq _ _).mp c63
        have f64 := tp_r v61
        exact ts_X9_fits_78 tr_fruits tr_standings tr_x tr_height tr_ripe tr_foot tr_fork tr_settings no_apron no_basket no_ground no_helper no_today h_tr_fruits h_tr_standings h_no_today hpost hKn x1 v61 x4 x5 pl_wanted pl_near ro_size ro_numbers (by omega) (by omega) (by omega) (by omega) (fun k => by have q9 := h_pl_near k; omega) (by omega) (by omega)
      · skip
        have c63 := mt (fa_eq _ _).mpr c63
        intro v65 ev65
        intro v66 ev66
        have f68 := ti_andr v65 1431655765 (by omega)
        have f67 : Int32.toInt (x5 - (v65 &&& 1431655765)) = Int32.toInt x5 - Int32.toInt (v65 &&& 1431655765) := ta_sub _ _ (by omega)
        rw [← ev66] at f67
        intro v69 ev69
        have f70 := ti_andr v66 858993459 (by omega)
        have hv69 := congrArg Int32.toInt ev69
        intro v71 ev71
        intro v72 ev72
        have f74 := ti_andr v71 858993459 (by omega)
        have f73 : Int32.toInt (v69 + (v71 &&& 858993459)) = Int32.toInt v69 + Int32.toInt (v71 &&& 858993459) := ta_add _ _ (by omega)
        rw [← ev72] at f73
        intro v75 ev75
        have hv75 := congrArg Int32.toInt ev75
        intro v77 ev77
        have f78 := ti_andr v75 252645135 (by omega)
        have hv77 := congrArg Int32.toInt ev77
        intro v79 ev79
        have hv79 := congrArg Int32.toInt ev79
        intro v81 ev81
        have hv81 := congrArg Int32.toInt ev81
        intro v83 ev83
        intro v84 ev84
        have f86 := ti_andr v83 1431655765 (by omega)
        have f85 : Int32.toInt (x3 - (v83 &&& 1431655765)) = Int32.toInt x3 - Int32.toInt (v83 &&& 1431655765) := ta_sub _ _ (by omega)
        rw [← ev84] at f85
        intro v87 ev87
        have f88 := ti_andr v84 858993459 (by omega)
        have hv87 := congrArg Int32.toInt ev87
        intro v89 ev89
        intro v90 ev90
        have f92 := ti_andr v89 858993459 (by omega)
        have f91 : Int32.toInt (v87 + (v89 &&& 858993459)) = Int32.toInt v87 + Int32.toInt (v89 &&& 858993459) := ta_add _ _ (by omega)
        rw [← ev90] at f91
        intro v93 ev93
        have hv93 := congrArg Int32.toInt ev93
        intro v95 ev95
        have f96 := ti_andr v93 252645135 (by omega)
        have hv95 := congrArg Int32.toInt ev95
        intro v97 ev97
        have hv97 := congrArg Int32.toInt ev97
        intro v99 ev99
        have hv99 := congrArg Int32.toInt ev99
        have f102 := ti_andr v81 63 (by omega)
        have f103 := ti_andr v99 63 (by omega)
        refine And.intro (fun c101 => ?_) (fun c101 => ?_)
        · skip
          have c101 := (fa_le _ _).mp c101
          have f104 := tp_r v61
          exact ts_X9_fits_81 tr_fruits tr_standings tr_x tr_height tr_ripe tr_foot tr_fork tr_settings no_apron no_basket no_ground no_helper no_today h_tr_fruits h_tr_standings h_no_today hpost hKn x1 v61 x3 x4 x5 pl_wanted pl_near ro_size ro_numbers (by omega) (by omega) (by omega) (by omega) (by omega) (fun k => by have q9 := h_pl_near k; omega) (by omega) (by omega)
        · skip
          have c101 := mt (fa_le _ _).mpr c101
          have f105 := tp_r v61
          exact ts_X9_fits_78 tr_fruits tr_standings tr_x tr_height tr_ripe tr_foot tr_fork tr_settings no_apron no_basket no_ground no_helper no_today h_tr_fruits h_tr_standings h_no_today hpost hKn x1 v61 x4 x5 pl_wanted pl_near ro_size ro_numbers (by omega) (by omega) (by omega) (by omega) (fun k => by have q9 := h_pl_near k; omega) (by omega) (by omega)
set_option maxHeartbeats 8000000 in
set_option maxRecDepth 200000 in
theorem tb_X9_fits_33 {post : Int32 → Int32 → (Nat → Int32) → Int32 → (Nat → Int32) → Prop} (tr_fruits : Int32) (tr_standings : Int32) (tr_x : Nat → Int32) (tr_height : Nat → Int32) (tr_ripe : Nat → Int32) (tr_foot : Nat → Int32) (tr_fork : Nat → Int32) (tr_settings : Nat → Int32) (no_apron : Int32) (no_basket : Int32) (no_ground : Int32) (no_helper : Int32) (no_today : Int32) (h_tr_fruits : 0 ≤ Int32.toInt tr_fruits ∧ Int32.toInt tr_fruits ≤ 16) (h_tr_standings : 0 ≤ Int32.toInt tr_standings ∧ Int32.toInt tr_standings ≤ 8) (h_no_today : 0 ≤ Int32.toInt no_today ∧ Int32.toInt no_today ≤ 9) (hpost : ∀ (r : Int32) (pl_wanted' : Int32) (pl_near' : Nat → Int32) (ro_size' : Int32) (ro_numbers' : Nat → Int32), (0 ≤ Int32.toInt pl_wanted' ∧ Int32.toInt pl_wanted' ≤ 65535) → (∀ k : Nat, 0 ≤ Int32.toInt (pl_near' k) ∧ Int32.toInt (pl_near' k) ≤ 65535) → (0 ≤ Int32.toInt ro_size' ∧ Int32.toInt ro_size' ≤ 16) → post r pl_wanted' pl_near' ro_size' ro_numbers') : ∀ (n : Nat) (x1 : Int32) (x2 : Int32) (x3 : Int32) (x4 : Int32) (x5 : Int32) (pl_wanted : Int32) (pl_near : Nat → Int32) (ro_size : Int32) (ro_numbers : Nat → Int32), (0 ≤ Int32.toInt x1 ∧ Int32.toInt x1 ≤ 65535) → (-1 ≤ Int32.toInt x3 ∧ Int32.toInt x3 ≤ 255) → (-1 ≤ Int32.toInt x4 ∧ Int32.toInt x4 ≤ 255) → (0 ≤ Int32.toInt x5 ∧ Int32.toInt x5 ≤ 256) → (0 ≤ Int32.toInt pl_wanted ∧ Int32.toInt pl_wanted ≤ 65535) → (∀ k : Nat, 0 ≤ Int32.toInt (pl_near k) ∧ Int32.toInt (pl_near k) ≤ 65535) → (0 ≤ Int32.toInt ro_size ∧ Int32.toInt ro_size ≤ 16) → (256 - Int32.toInt x5 < (n : Int)) → wb_X9_fits_33 post tr_fruits tr_standings tr_x tr_height tr_ripe tr_foot tr_fork tr_settings no_apron no_basket no_ground no_helper no_today n x1 x2 x3 x4 x5 pl_wanted pl_near ro_size ro_numbers := by
  intro n
  induction n with
  | zero =>
    intro x1 x2 x3 x4 x5 pl_wanted pl_near ro_size ro_numbers h_x1 h_x3 h_x4 h_x5 h_pl_wanted h_pl_near h_ro_size hm
    exfalso; omega
  | succ n ih =>
    intro x1 x2 x3 x4 x5 pl_wanted pl_near ro_size ro_numbers h_x1 h_x3 h_x4 h_x5 h_pl_wanted h_pl_near h_ro_size hm
    exact ts_X9_fits_33 tr_fruits tr_standings tr_x tr_height tr_ripe tr_foot tr_fork tr_settings no_apron no_basket no_ground no_helper no_today h_tr_fruits h_tr_standings h_no_today hpost ih x1 x2 x3 x4 x5 pl_wanted pl_near ro_size ro_numbers h_x1 h_x3 h_x4 h_x5 h_pl_wanted h_pl_near h_ro_size (by omega)
set_option maxHeartbeats 8000000 in
set_option maxRecDepth 200000 in
theorem t_X9_fits {post : Int32 → Int32 → (Nat → Int32) → Int32 → (Nat → Int32) → Prop} {p0 : Int32} {pl_wanted : Int32} {pl_near : Nat → Int32} {tr_fruits : Int32} {tr_standings : Int32} {tr_x : Nat → Int32} {tr_height : Nat → Int32} {tr_ripe : Nat → Int32} {tr_foot : Nat → Int32} {tr_fork : Nat → Int32} {tr_settings : Nat → Int32} {no_apron : Int32} {no_basket : Int32} {no_ground : Int32} {no_helper : Int32} {no_today : Int32} {ro_size : Int32} {ro_numbers : Nat → Int32} (h_pl_wanted : 0 ≤ Int32.toInt pl_wanted ∧ Int32.toInt pl_wanted ≤ 65535) (h_pl_near : ∀ k : Nat, 0 ≤ Int32.toInt (pl_near k) ∧ Int32.toInt (pl_near k) ≤ 65535) (h_tr_fruits : 0 ≤ Int32.toInt tr_fruits ∧ Int32.toInt tr_fruits ≤ 16) (h_tr_standings : 0 ≤ Int32.toInt tr_standings ∧ Int32.toInt tr_standings ≤ 8) (h_no_today : 0 ≤ Int32.toInt no_today ∧ Int32.toInt no_today ≤ 9) (h_ro_size : 0 ≤ Int32.toInt ro_size ∧ Int32.toInt ro_size ≤ 16) (hpost : ∀ (r : Int32) (pl_wanted' : Int32) (pl_near' : Nat → Int32) (ro_size' : Int32) (ro_numbers' : Nat → Int32), (0 ≤ Int32.toInt pl_wanted' ∧ Int32.toInt pl_wanted' ≤ 65535) → (∀ k : Nat, 0 ≤ Int32.toInt (pl_near' k) ∧ Int32.toInt (pl_near' k) ≤ 65535) → (0 ≤ Int32.toInt ro_size' ∧ Int32.toInt ro_size' ≤ 16) → post r pl_wanted' pl_near' ro_size' ro_numbers') : wp_X9_fits post p0 pl_wanted pl_near tr_fruits tr_standings tr_x tr_height tr_ripe tr_foot tr_fork tr_settings no_apron no_basket no_ground no_helper no_today ro_size ro_numbers := by
  have l0 : Int32.toInt ((-1) : Int32) = -1 := (by decide)
  have l1 : Int32.toInt (0 : Int32) = 0 := (by decide)
  have l2 : Int32.toInt (1 : Int32) = 1 := (by decide)
  intro v106 ev106
  have f107 := ti_shl1 16 65536 tr_fruits (by decide) (by omega)
  have hv106 := congrArg Int32.toInt ev106
  refine And.intro (fun c108 => ?_) (fun c108 => ?_)
  · skip
    have c108Z := c108
    have c108 := (fa_eq _ _).mp c108
    have f110 : Int32.toInt (v106 - 1) = Int32.toInt v106 - Int32.toInt (1 : Int32) := ta_sub _ _ (by omega)
    have s111 := ti_subset p0 (v106 - 1) (c108Z) (by omega)
    refine t_X5_lookAs (by omega) (by omega) (fun k => by have q9 := h_pl_near k; omega) (by omega) (by omega) (fun pl_wanted_112 pl_near_113 h_pl_wanted_112 h_pl_near_113 => ?_)
    exact ⟨258, tb_X9_fits_33 tr_fruits tr_standings tr_x tr_height tr_ripe tr_foot tr_fork tr_settings no_apron no_basket no_ground no_helper no_today h_tr_fruits h_tr_standings h_no_today hpost _ p0 0 (-1) (-1) 0 pl_wanted_112 pl_near_113 ro_size ro_numbers (by omega) (by omega) (by omega) (by omega) (by omega) (fun k => by have q9 := h_pl_near_113 k; omega) (by omega) (by omega)⟩
  · skip
    have c108 := mt (fa_eq _ _).mpr c108
    exact hpost _ _ _ _ _ (by omega) (fun k => by have q9 := h_pl_near k; omega) (by omega)
set_option maxHeartbeats 8000000 in
set_option maxRecDepth 200000 in
theorem t_X9_leaned {post : Int32 → Prop} {p0 : Int32} {p1 : Int32} {tr_fruits : Int32} {tr_standings : Int32} {tr_x : Nat → Int32} {tr_height : Nat → Int32} {tr_foot : Nat → Int32} {tr_fork : Nat → Int32} {tr_settings : Nat → Int32} (h_tr_fruits : 0 ≤ Int32.toInt tr_fruits ∧ Int32.toInt tr_fruits ≤ 16) (h_tr_standings : 0 ≤ Int32.toInt tr_standings ∧ Int32.toInt tr_standings ≤ 8) (hpost : ∀ (r : Int32) , (-2 ≤ Int32.toInt r ∧ Int32.toInt r ≤ 30) → post r) : wp_X9_leaned post p0 p1 tr_fruits tr_standings tr_x tr_height tr_foot tr_fork tr_settings := by
  have l0 : Int32.toInt ((-1) : Int32) = -1 := (by decide)
  have l1 : Int32.toInt (0 : Int32) = 0 := (by decide)
  have f2 := tp_r p0
  refine And.intro (fun c1 => ?_) (fun c1 => ?_)
  · skip
    have c1 := (fa_lt _ _).mp c1
    refine And.intro (fun _ => ?_) (fun h9 => absurd h9 (by decide))
    exact hpost _ (by omega)
  · skip
    have c1 := mt (fa_lt _ _).mpr c1
    refine And.intro (fun c3 => ?_) (fun c3 => ?_)
    · skip
      have c3 := (fa_le _ _).mp c3
      refine And.intro (fun _ => ?_) (fun h9 => absurd h9 (by decide))
      exact hpost _ (by omega)
    · skip
      have c3 := mt (fa_le _ _).mpr c3
      refine And.intro (fun h9 => absurd h9 (by decide)) (fun _ => ?_)
      have f5 := tp_r p1
      refine And.intro (fun c4 => ?_) (fun c4 => ?_)
      · skip
        have c4 := (fa_lt _ _).mp c4
        refine And.intro (fun h9 => absurd h9 (by decide)) (fun _ => ?_)
        exact hpost _ (by omega)
      · skip
        have c4 := mt (fa_lt _ _).mpr c4
        refine And.intro (fun c6 => ?_) (fun c6 => ?_)
        · skip
          have c6 := (fa_le _ _).mp c6
          refine And.intro (fun h9 => absurd h9 (by decide)) (fun _ => ?_)
          exact hpost _ (by omega)
        · skip
          have c6 := mt (fa_le _ _).mpr c6
          refine And.intro (fun _ => ?_) (fun h9 => absurd h9 (by decide))
          refine t_X3_leanNeeded (by omega) (by omega) (fun r7 h_r7 => ?_)
          exact hpost _ (by omega)
set_option maxHeartbeats 8000000 in
set_option maxRecDepth 200000 in
theorem ts_X9_autumn_170 {post : Int32 → Int32 → (Nat → Int32) → Prop} {K47 : Int32 → Int32 → Int32 → Int32 → Int32 → Int32 → Int32 → Int32 → Int32 → (Nat → Int32) → Prop} {n47 : Int} (tr_fruits : Int32) (tr_worth : Nat → Int32) (tr_ripe : Nat → Int32) (no_apron : Int32) (no_basket : Int32) (no_ground : Int32) (no_bruised : Int32) (no_today : Int32) (h_tr_fruits : 0 ≤ Int32.toInt tr_fruits ∧ Int32.toInt tr_fruits ≤ 16) (h_no_today : 0 ≤ Int32.toInt no_today ∧ Int32.toInt no_today ≤ 9) (hpost : ∀ (r : Int32) (ro_size' : Int32) (ro_numbers' : Nat → Int32), (-1 ≤ Int32.toInt r ∧ Int32.toInt r ≤ 63) → (0 ≤ Int32.toInt ro_size' ∧ Int32.toInt ro_size' ≤ 16) → post r ro_size' ro_numbers') (hK47 : ∀ (x2 : Int32) (x3 : Int32) (x4 : Int32) (x5 : Int32) (x6 : Int32) (x7 : Int32) (x8 : Int32) (x9 : Int32) (ro_size : Int32) (ro_numbers : Nat → Int32), (1 ≤ Int32.toInt x2 ∧ Int32.toInt x2 ≤ 30) → (0 ≤ Int32.toInt x3 ∧ Int32.toInt x3 ≤ 10) → (0 ≤ Int32.toInt x5 ∧ Int32.toInt x5 ≤ 65535) → (0 ≤ Int32.toInt x6 ∧ Int32.toInt x6 ≤ 65535) → (0 ≤ Int32.toInt x7 ∧ Int32.toInt x7 ≤ 2147483647) → (-1 ≤ Int32.toInt x8 ∧ Int32.toInt x8 ≤ 30) → (1 ≤ Int32.toInt x9 ∧ Int32.toInt x9 ≤ 31) → (0 ≤ Int32.toInt ro_size ∧ Int32.toInt ro_size ≤ 16) → (31 - Int32.toInt x9 < n47) → K47 x2 x3 x4 x5 x6 x7 x8 x9 ro_size ro_numbers) (x2 : Int32) (x3 : Int32) (x4 : Int32) (x5 : Int32) (x6 : Int32) (x7 : Int32) (x8 : Int32) (x9 : Int32) (ro_size : Int32) (ro_numbers : Nat → Int32) (h_x2 : 1 ≤ Int32.toInt x2 ∧ Int32.toInt x2 ≤ 30) (h_x3 : 0 ≤ Int32.toInt x3 ∧ Int32.toInt x3 ≤ 10) (h_x5 : 0 ≤ Int32.toInt x5 ∧ Int32.toInt x5 ≤ 65535) (h_x6 : 0 ≤ Int32.toInt x6 ∧ Int32.toInt x6 ≤ 65535) (h_x7 : 0 ≤ Int32.toInt x7 ∧ Int32.toInt x7 ≤ 2147483647) (h_x8 : -1 ≤ Int32.toInt x8 ∧ Int32.toInt x8 ≤ 30) (h_x9 : 1 ≤ Int32.toInt x9 ∧ Int32.toInt x9 ≤ 30) (h_ro_size : 0 ≤ Int32.toInt ro_size ∧ Int32.toInt ro_size ≤ 16) (hn47 : 31 - Int32.toInt x9 ≤ n47) : ws_X9_autumn_170 post K47 tr_fruits tr_worth tr_ripe no_apron no_basket no_ground no_bruised no_today x2 x3 x4 x5 x6 x7 x8 x9 ro_size ro_numbers := by
  have l0 : Int32.toInt (1 : Int32) = 1 := (by decide)
  intro v1 ev1
  have f2 : Int32.toInt (x9 + 1) = Int32.toInt x9 + Int32.toInt (1 : Int32) := ta_add _ _ (by omega)
  rw [← ev1] at f2
  have f3 := tp_r x7
  have f4 := tp_r x4
  exact hK47 x2 x3 x4 x5 x6 x7 x8 v1 ro_size ro_numbers (by omega) (by omega) (by omega) (by omega) (by omega) (by omega) (by omega) (by omega) (by omega)
set_option maxHeartbeats 8000000 in
set_option maxRecDepth 200000 in
theorem ts_X9_autumn_149 {post : Int32 → Int32 → (Nat → Int32) → Prop} {K47 : Int32 → Int32 → Int32 → Int32 → Int32 → Int32 → Int32 → Int32 → Int32 → (Nat → Int32) → Prop} {K91 : Int32 → Int32 → Int32 → Int32 → Int32 → Int32 → Int32 → Int32 → Int32 → Int32 → Int32 → Int32 → (Nat → Int32) → Prop} {n47 : Int} {n91 : Int} (tr_fruits : Int32) (tr_worth : Nat → Int32) (tr_ripe : Nat → Int32) (no_apron : Int32) (no_basket : Int32) (no_ground : Int32) (no_bruised : Int32) (no_today : Int32) (h_tr_fruits : 0 ≤ Int32.toInt tr_fruits ∧ Int32.toInt tr_fruits ≤ 16) (h_no_today : 0 ≤ Int32.toInt no_today ∧ Int32.toInt no_today ≤ 9) (hpost : ∀ (r : Int32) (ro_size' : Int32) (ro_numbers' : Nat → Int32), (-1 ≤ Int32.toInt r ∧ Int32.toInt r ≤ 63) → (0 ≤ Int32.toInt ro_size' ∧ Int32.toInt ro_size' ≤ 16) → post r ro_size' ro_numbers') (hK47 : ∀ (x2 : Int32) (x3 : Int32) (x4 : Int32) (x5 : Int32) (x6 : Int32) (x7 : Int32) (x8 : Int32) (x9 : Int32) (ro_size : Int32) (ro_numbers : Nat → Int32), (1 ≤ Int32.toInt x2 ∧ Int32.toInt x2 ≤ 30) → (0 ≤ Int32.toInt x3 ∧ Int32.toInt x3 ≤ 10) → (0 ≤ Int32.toInt x5 ∧ Int32.toInt x5 ≤ 65535) → (0 ≤ Int32.toInt x6 ∧ Int32.toInt x6 ≤ 65535) → (0 ≤ Int32.toInt x7 ∧ Int32.toInt x7 ≤ 2147483647) → (-1 ≤ Int32.toInt x8 ∧ Int32.toInt x8 ≤ 30) → (1 ≤ Int32.toInt x9 ∧ Int32.toInt x9 ≤ 31) → (0 ≤ Int32.toInt ro_size ∧ Int32.toInt ro_size ≤ 16) → (31 - Int32.toInt x9 < n47) → K47 x2 x3 x4 x5 x6 x7 x8 x9 ro_size ro_numbers) (hK91 : ∀ (x2 : Int32) (x3 : Int32) (x4 : Int32) (x5 : Int32) (x6 : Int32) (x7 : Int32) (x8 : Int32) (x9 : Int32) (x10 : Int32) (x11 : Int32) (x12 : Int32) (ro_size : Int32) (ro_numbers : Nat → Int32), (1 ≤ Int32.toInt x2 ∧ Int32.toInt x2 ≤ 30) → (0 ≤ Int32.toInt x3 ∧ Int32.toInt x3 ≤ 10) → (0 ≤ Int32.toInt x5 ∧ Int32.toInt x5 ≤ 65535) → (0 ≤ Int32.toInt x6 ∧ Int32.toInt x6 ≤ 65535) → (0 ≤ Int32.toInt x7 ∧ Int32.toInt x7 ≤ 2147483647) → (-1 ≤ Int32.toInt x8 ∧ Int32.toInt x8 ≤ 30) → (1 ≤ Int32.toInt x9 ∧ Int32.toInt x9 ≤ 30) → (0 ≤ Int32.toInt x10 ∧ Int32.toInt x10 ≤ 65535) → (0 ≤ Int32.toInt x12 ∧ Int32.toInt x12 ≤ 16) → (0 ≤ Int32.toInt ro_size ∧ Int32.toInt ro_size ≤ 16) → (31 - Int32.toInt x9 ≤ n47) → (16 - Int32.toInt x12 < n91) → K91 x2 x3 x4 x5 x6 x7 x8 x9 x10 x11 x12 ro_size ro_numbers) (x2 : Int32) (x3 : Int32) (x4 : Int32) (x5 : Int32) (x6 : Int32) (x7 : Int32) (x8 : Int32) (x9 : Int32) (x10 : Int32) (x11 : Int32) (x12 : Int32) (ro_size : Int32) (ro_numbers : Nat → Int32) (h_x2 : 1 ≤ Int32.toInt x2 ∧ Int32.toInt x2 ≤ 30) (h_x3 : 0 ≤ Int32.toInt x3 ∧ Int32.toInt x3 ≤ 10) (h_x5 : 0 ≤ Int32.toInt x5 ∧ Int32.toInt x5 ≤ 65535) (h_x6 : 0 ≤ Int32.toInt x6 ∧ Int32.toInt x6 ≤ 65535) (h_x7 : 0 ≤ Int32.toInt x7 ∧ Int32.toInt x7 ≤ 2147483647) (h_x8 : -1 ≤ Int32.toInt x8 ∧ Int32.toInt x8 ≤ 30) (h_x9 : 1 ≤ Int32.toInt x9 ∧ Int32.toInt x9 ≤ 30) (h_x10 : 0 ≤ Int32.toInt x10 ∧ Int32.toInt x10 ≤ 65535) (h_x12 : 0 ≤ Int32.toInt x12 ∧ Int32.toInt x12 ≤ 15) (h_ro_size : 0 ≤ Int32.toInt ro_size ∧ Int32.toInt ro_size ≤ 16) (hn47 : 31 - Int32.toInt x9 ≤ n47) (hn91 : 16 - Int32.toInt x12 ≤ n91) : ws_X9_autumn_149 post K47 K91 tr_fruits tr_worth tr_ripe no_apron no_basket no_ground no_bruised no_today x2 x3 x4 x5 x6 x7 x8 x9 x10 x11 x12 ro_size ro_numbers := by
  have l0 : Int32.toInt (1 : Int32) = 1 := (by decide)
  intro v5 ev5
  have f6 : Int32.toInt (x12 + 1) = Int32.toInt x12 + Int32.toInt (1 : Int32) := ta_add _ _ (by omega)
  rw [← ev5] at f6
  have f7 := tp_r x7
  have f8 := tp_r x4
  have f9 := tp_r x11
  exact hK91 x2 x3 x4 x5 x6 x7 x8 x9 x10 x11 v5 ro_size ro_numbers (by omega) (by omega) (by omega) (by omega) (by omega) (by omega) (by omega) (by omega) (by omega) (by omega) (by omega) (by omega)
set_option maxHeartbeats 8000000 in
set_option maxRecDepth 200000 in
theorem ts_X9_autumn_91 {post : Int32 → Int32 → (Nat → Int32) → Prop} {K47 : Int32 → Int32 → Int32 → Int32 → Int32 → Int32 → Int32 → Int32 → Int32 → (Nat → Int32) → Prop} {next : Int32 → Int32 → Int32 → Int32 → Int32 → Int32 → Int32 → Int32 → Int32 → Int32 → Int32 → Int32 → (Nat → Int32) → Prop} {n91 : Int} {n47 : Int} (tr_fruits : Int32) (tr_worth : Nat → Int32) (tr_ripe : Nat → Int32) (no_apron : Int32) (no_basket : Int32) (no_ground : Int32) (no_bruised : Int32) (no_today : Int32) (h_tr_fruits : 0 ≤ Int32.toInt tr_fruits ∧ Int32.toInt tr_fruits ≤ 16) (h_no_today : 0 ≤ Int32.toInt no_today ∧ Int32.toInt no_today ≤ 9) (hpost : ∀ (r : Int32) (ro_size' : Int32) (ro_numbers' : Nat → Int32), (-1 ≤ Int32.toInt r ∧ Int32.toInt r ≤ 63) → (0 ≤ Int32.toInt ro_size' ∧ Int32.toInt ro_size' ≤ 16) → post r ro_size' ro_numbers') (hK47 : ∀ (x2 : Int32) (x3 : Int32) (x4 : Int32) (x5 : Int32) (x6 : Int32) (x7 : Int32) (x8 : Int32) (x9 : Int32) (ro_size : Int32) (ro_numbers : Nat → Int32), (1 ≤ Int32.toInt x2 ∧ Int32.toInt x2 ≤ 30) → (0 ≤ Int32.toInt x3 ∧ Int32.toInt x3 ≤ 10) → (0 ≤ Int32.toInt x5 ∧ Int32.toInt x5 ≤ 65535) → (0 ≤ Int32.toInt x6 ∧ Int32.toInt x6 ≤ 65535) → (0 ≤ Int32.toInt x7 ∧ Int32.toInt x7 ≤ 2147483647) → (-1 ≤ Int32.toInt x8 ∧ Int32.toInt x8 ≤ 30) → (1 ≤ Int32.toInt x9 ∧ Int32.toInt x9 ≤ 31) → (0 ≤ Int32.toInt ro_size ∧ Int32.toInt ro_size ≤ 16) → (31 - Int32.toInt x9 < n47) → K47 x2 x3 x4 x5 x6 x7 x8 x9 ro_size ro_numbers) (hKn : ∀ (x2 : Int32) (x3 : Int32) (x4 : Int32) (x5 : Int32) (x6 : Int32) (x7 : Int32) (x8 : Int32) (x9 : Int32) (x10 : Int32) (x11 : Int32) (x12 : Int32) (ro_size : Int32) (ro_numbers : Nat → Int32), (1 ≤ Int32.toInt x2 ∧ Int32.toInt x2 ≤ 30) → (0 ≤ Int32.toInt x3 ∧ Int32.toInt x3 ≤ 10) → (0 ≤ Int32.toInt x5 ∧ Int32.toInt x5 ≤ 65535) → (0 ≤ Int32.toInt x6 ∧ Int32.toInt x6 ≤ 65535) → (0 ≤ Int32.toInt x7 ∧ Int32.toInt x7 ≤ 2147483647) → (-1 ≤ Int32.toInt x8 ∧ Int32.toInt x8 ≤ 30) → (1 ≤ Int32.toInt x9 ∧ Int32.toInt x9 ≤ 30) → (0 ≤ Int32.toInt x10 ∧ Int32.toInt x10 ≤ 65535) → (0 ≤ Int32.toInt x12 ∧ Int32.toInt x12 ≤ 16) → (0 ≤ Int32.toInt ro_size ∧ Int32.toInt ro_size ≤ 16) → (31 - Int32.toInt x9 ≤ n47) → (16 - Int32.toInt x12 < n91) → next x2 x3 x4 x5 x6 x7 x8 x9 x10 x11 x12 ro_size ro_numbers) (x2 : Int32) (x3 : Int32) (x4 : Int32) (x5 : Int32) (x6 : Int32) (x7 : Int32) (x8 : Int32) (x9 : Int32) (x10 : Int32) (x11 : Int32) (x12 : Int32) (ro_size : Int32) (ro_numbers : Nat → Int32) (h_x2 : 1 ≤ Int32.toInt x2 ∧ Int32.toInt x2 ≤ 30) (h_x3 : 0 ≤ Int32.toInt x3 ∧ Int32.toInt x3 ≤ 10) (h_x5 : 0 ≤ Int32.toInt x5 ∧ Int32.toInt x5 ≤ 65535) (h_x6 : 0 ≤ Int32.toInt x6 ∧ Int32.toInt x6 ≤ 65535) (h_x7 : 0 ≤ Int32.toInt x7 ∧ Int32.toInt x7 ≤ 2147483647) (h_x8 : -1 ≤ Int32.toInt x8 ∧ Int32.toInt x8 ≤ 30) (h_x9 : 1 ≤ Int32.toInt x9 ∧ Int32.toInt x9 ≤ 30) (h_x10 : 0 ≤ Int32.toInt x10 ∧ Int32.toInt x10 ≤ 65535) (h_x12 : 0 ≤ Int32.toInt x12 ∧ Int32.toInt x12 ≤ 16) (h_ro_size : 0 ≤ Int32.toInt ro_size ∧ Int32.toInt ro_size ≤ 16) (hn47 : 31 - Int32.toInt x9 ≤ n47) (hn91 : 16 - Int32.toInt x12 ≤ n91) : ws_X9_autumn_91 post K47 next tr_fruits tr_worth tr_ripe no_apron no_basket no_ground no_bruised no_today x2 x3 x4 x5 x6 x7 x8 x9 x10 x11 x12 ro_size ro_numbers := by
  have l0 : Int32.toInt (0 : Int32) = 0 := (by decide)
  have l1 : Int32.toInt (1 : Int32) = 1 := (by decide)
  refine And.intro (fun c10 => ?_) (fun c10 => ?_)
  · skip
    have c10 := (fa_le _ _).mp c10
    have f12 := tp_r x11
    have f13 := tp_r x7
    refine And.intro (fun c11 => ?_) (fun c11 => ?_)
    · skip
      have c11 := (fa_le _ _).mp c11
      have f14 := tp_r x4
      exact ts_X9_autumn_170 tr_fruits tr_worth tr_ripe no_apron no_basket no_ground no_bruised no_today h_tr_fruits h_no_today hpost hK47 x2 x3 x4 x5 x6 x7 x8 x9 ro_size ro_numbers (by omega) (by omega) (by omega) (by omega) (by omega) (by omega) (by omega) (by omega) (by omega)
    · skip
      have c11 := mt (fa_le _ _).mpr c11
      have f15 := tp_r x4
      exact ts_X9_autumn_170 tr_fruits tr_worth tr_ripe no_apron no_basket no_ground no_bruised no_today h_tr_fruits h_no_today hpost hK47 x2 x3 x4 x5 x6 x11 x9 x9 ro_size ro_numbers (by omega) (by omega) (by omega) (by omega) (by omega) (by omega) (by omega) (by omega) (by omega)
  · skip
    have c10 := mt (fa_le _ _).mpr c10
    intro v16 ev16
    have f17 := ti_shr x10 x12 (by omega)
    have hv16 := congrArg Int32.toInt ev16
    have f19 := ti_andr v16 1 (by omega)
    have f20 := ti_andl v16 1 (by omega)
    refine And.intro (fun c18 => ?_) (fun c18 => ?_)
    · skip
      have c18 := (fa_eq _ _).mp c18
      have f21 := tp_r x7
      have f22 := tp_r x4
      have f23 := tp_r x11
      exact ts_X9_autumn_149 tr_fruits tr_worth tr_ripe no_apron no_basket no_ground no_bruised no_today h_tr_fruits h_no_today hpost hK47 hKn x2 x3 x4 x5 x6 x7 x8 x9 x10 x11 x12 ro_size ro_numbers (by omega) (by omega) (by omega) (by omega) (by omega) (by omega) (by omega) (by omega) (by omega) (by omega) (by omega) (by omega)
    · skip
      have c18 := mt (fa_eq _ _).mpr c18
      intro v24 ev24
      have hv24 := congrArg Int32.toInt ev24
      intro v26 ev26
      have hv26 := congrArg Int32.toInt ev26
      intro v28 ev28
      intro v29 ev29
      have f31 := tp_r v29
      refine And.intro (fun c30 => ?_) (fun c30 => ?_)
      · skip
        have c30 := (fa_le _ _).mp c30
        have f32 := tp_r x7
        have f33 := tp_r v26
        have f34 := tp_r x11
        exact ts_X9_autumn_149 tr_fruits tr_worth tr_ripe no_apron no_basket no_ground no_bruised no_today h_tr_fruits h_no_today hpost hK47 hKn x2 x3 v26 x5 x6 x7 x8 x9 x10 x11 x12 ro_size ro_numbers (by omega) (by omega) (by omega) (by omega) (by omega) (by omega) (by omega) (by omega) (by omega) (by omega) (by omega) (by omega)
      · skip
        have c30 := mt (fa_le _ _).mpr c30
        intro v35 ev35
        have f37 := ti_shl1 15 32768 x12 (by decide) (by omega)
        have f36 := ti_or 16 65536 x6 (1 <<< (x12 &&& 31)) (by decide) (by omega) (by omega)
        have hv35 := congrArg Int32.toInt ev35
        intro v38 ev38
        have hv38 := congrArg Int32.toInt ev38
        have f40 := tp_r x7
        have f41 := tp_r v26
        have f42 := tp_r v38
        exact ts_X9_autumn_149 tr_fruits tr_worth tr_ripe no_apron no_basket no_ground no_bruised no_today h_tr_fruits h_no_today hpost hK47 hKn x2 x3 v26 x5 v35 x7 x8 x9 x10 v38 x12 ro_size ro_numbers (by omega) (by omega) (by omega) (by omega) (by omega) (by omega) (by omega) (by omega) (by omega) (by omega) (by omega) (by omega)
set_option maxHeartbeats 8000000 in
set_option maxRecDepth 200000 in
theorem tb_X9_autumn_91 {post : Int32 → Int32 → (Nat → Int32) → Prop} {K47 : Int32 → Int32 → Int32 → Int32 → Int32 → Int32 → Int32 → Int32 → Int32 → (Nat → Int32) → Prop} {n47 : Int} (tr_fruits : Int32) (tr_worth : Nat → Int32) (tr_ripe : Nat → Int32) (no_apron : Int32) (no_basket : Int32) (no_ground : Int32) (no_bruised : Int32) (no_today : Int32) (h_tr_fruits : 0 ≤ Int32.toInt tr_fruits ∧ Int32.toInt tr_fruits ≤ 16) (h_no_today : 0 ≤ Int32.toInt no_today ∧ Int32.toInt no_today ≤ 9) (hpost : ∀ (r : Int32) (ro_size' : Int32) (ro_numbers' : Nat → Int32), (-1 ≤ Int32.toInt r ∧ Int32.toInt r ≤ 63) → (0 ≤ Int32.toInt ro_size' ∧ Int32.toInt ro_size' ≤ 16) → post r ro_size' ro_numbers') (hK47 : ∀ (x2 : Int32) (x3 : Int32) (x4 : Int32) (x5 : Int32) (x6 : Int32) (x7 : Int32) (x8 : Int32) (x9 : Int32) (ro_size : Int32) (ro_numbers : Nat → Int32), (1 ≤ Int32.toInt x2 ∧ Int32.toInt x2 ≤ 30) → (0 ≤ Int32.toInt x3 ∧ Int32.toInt x3 ≤ 10) → (0 ≤ Int32.toInt x5 ∧ Int32.toInt x5 ≤ 65535) → (0 ≤ Int32.toInt x6 ∧ Int32.toInt x6 ≤ 65535) → (0 ≤ Int32.toInt x7 ∧ Int32.toInt x7 ≤ 2147483647) → (-1 ≤ Int32.toInt x8 ∧ Int32.toInt x8 ≤ 30) → (1 ≤ Int32.toInt x9 ∧ Int32.toInt x9 ≤ 31) → (0 ≤ Int32.toInt ro_size ∧ Int32.toInt ro_size ≤ 16) → (31 - Int32.toInt x9 < n47) → K47 x2 x3 x4 x5 x6 x7 x8 x9 ro_size ro_numbers) : ∀ (n : Nat) (x2 : Int32) (x3 : Int32) (x4 : Int32) (x5 : Int32) (x6 : Int32) (x7 : Int32) (x8 : Int32) (x9 : Int32) (x10 : Int32) (x11 : Int32) (x12 : Int32) (ro_size : Int32) (ro_numbers : Nat → Int32), (1 ≤ Int32.toInt x2 ∧ Int32.toInt x2 ≤ 30) → (0 ≤ Int32.toInt x3 ∧ Int32.toInt x3 ≤ 10) → (0 ≤ Int32.toInt x5 ∧ Int32.toInt x5 ≤ 65535) → (0 ≤ Int32.toInt x6 ∧ Int32.toInt x6 ≤ 65535) → (0 ≤ Int32.toInt x7 ∧ Int32.toInt x7 ≤ 2147483647) → (-1 ≤ Int32.toInt x8 ∧ Int32.toInt x8 ≤ 30) → (1 ≤ Int32.toInt x9 ∧ Int32.toInt x9 ≤ 30) → (0 ≤ Int32.toInt x10 ∧ Int32.toInt x10 ≤ 65535) → (0 ≤ Int32.toInt x12 ∧ Int32.toInt x12 ≤ 16) → (0 ≤ Int32.toInt ro_size ∧ Int32.toInt ro_size ≤ 16) → (31 - Int32.toInt x9 ≤ n47) → (16 - Int32.toInt x12 < (n : Int)) → wb_X9_autumn_91 post K47 tr_fruits tr_worth tr_ripe no_apron no_basket no_ground no_bruised no_today n x2 x3 x4 x5 x6 x7 x8 x9 x10 x11 x12 ro_size ro_numbers := by
  intro n
  induction n with
  | zero =>
    intro x2 x3 x4 x5 x6 x7 x8 x9 x10 x11 x12 ro_size ro_numbers h_x2 h_x3 h_x5 h_x6 h_x7 h_x8 h_x9 h_x10 h_x12 h_ro_size hn47 hm
    exfalso; omega
  | succ n ih =>
    intro x2 x3 x4 x5 x6 x7 x8 x9 x10 x11 x12 ro_size ro_numbers h_x2 h_x3 h_x5 h_x6 h_x7 h_x8 h_x9 h_x10 h_x12 h_ro_size hn47 hm
    exact ts_X9_autumn_91 tr_fruits tr_worth tr_ripe no_apron no_basket no_ground no_bruised no_today h_tr_fruits h_no_today hpost hK47 ih x2 x3 x4 x5 x6 x7 x8 x9 x10 x11 x12 ro_size ro_numbers h_x2 h_x3 h_x5 h_x6 h_x7 h_x8 h_x9 h_x10 h_x12 h_ro_size hn47 (by omega)
set_option maxHeartbeats 8000000 in
set_option maxRecDepth 200000 in
theorem ts_X9_autumn_47 {post : Int32 → Int32 → (Nat → Int32) → Prop} {next : Int32 → Int32 → Int32 → Int32 → Int32 → Int32 → Int32 → Int32 → Int32 → (Nat → Int32) → Prop} {n47 : Int} (tr_fruits : Int32) (tr_worth : Nat → Int32) (tr_ripe : Nat → Int32) (no_apron : Int32) (no_basket : Int32) (no_ground : Int32) (no_bruised : Int32) (no_today : Int32) (h_tr_fruits : 0 ≤ Int32.toInt tr_fruits ∧ Int32.toInt tr_fruits ≤ 16) (h_no_today : 0 ≤ Int32.toInt no_today ∧ Int32.toInt no_today ≤ 9) (hpost : ∀ (r : Int32) (ro_size' : Int32) (ro_numbers' : Nat → Int32), (-1 ≤ Int32.toInt r ∧ Int32.toInt r ≤ 63) → (0 ≤ Int32.toInt ro_size' ∧ Int32.toInt ro_size' ≤ 16) → post r ro_size' ro_numbers') (hKn : ∀ (x2 : Int32) (x3 : Int32) (x4 : Int32) (x5 : Int32) (x6 : Int32) (x7 : Int32) (x8 : Int32) (x9 : Int32) (ro_size : Int32) (ro_numbers : Nat → Int32), (1 ≤ Int32.toInt x2 ∧ Int32.toInt x2 ≤ 30) → (0 ≤ Int32.toInt x3 ∧ Int32.toInt x3 ≤ 10) → (0 ≤ Int32.toInt x5 ∧ Int32.toInt x5 ≤ 65535) → (0 ≤ Int32.toInt x6 ∧ Int32.toInt x6 ≤ 65535) → (0 ≤ Int32.toInt x7 ∧ Int32.toInt x7 ≤ 2147483647) → (-1 ≤ Int32.toInt x8 ∧ Int32.toInt x8 ≤ 30) → (1 ≤ Int32.toInt x9 ∧ Int32.toInt x9 ≤ 31) → (0 ≤ Int32.toInt ro_size ∧ Int32.toInt ro_size ≤ 16) → (31 - Int32.toInt x9 < n47) → next x2 x3 x4 x5 x6 x7 x8 x9 ro_size ro_numbers) (x2 : Int32) (x3 : Int32) (x4 : Int32) (x5 : Int32) (x6 : Int32) (x7 : Int32) (x8 : Int32) (x9 : Int32) (ro_size : Int32) (ro_numbers : Nat → Int32) (h_x2 : 1 ≤ Int32.toInt x2 ∧ Int32.toInt x2 ≤ 30) (h_x3 : 0 ≤ Int32.toInt x3 ∧ Int32.toInt x3 ≤ 10) (h_x5 : 0 ≤ Int32.toInt x5 ∧ Int32.toInt x5 ≤ 65535) (h_x6 : 0 ≤ Int32.toInt x6 ∧ Int32.toInt x6 ≤ 65535) (h_x7 : 0 ≤ Int32.toInt x7 ∧ Int32.toInt x7 ≤ 2147483647) (h_x8 : -1 ≤ Int32.toInt x8 ∧ Int32.toInt x8 ≤ 30) (h_x9 : 1 ≤ Int32.toInt x9 ∧ Int32.toInt x9 ≤ 31) (h_ro_size : 0 ≤ Int32.toInt ro_size ∧ Int32.toInt ro_size ≤ 16) (hn47 : 31 - Int32.toInt x9 ≤ n47) : ws_X9_autumn_47 post next tr_fruits tr_worth tr_ripe no_apron no_basket no_ground no_bruised no_today x2 x3 x4 x5 x6 x7 x8 x9 ro_size ro_numbers := by
  have l0 : Int32.toInt (0 : Int32) = 0 := (by decide)
  have l1 : Int32.toInt (1 : Int32) = 1 := (by decide)
  have l2 : Int32.toInt (1431655765 : Int32) = 1431655765 := (by decide)
  have l3 : Int32.toInt (16 : Int32) = 16 := (by decide)
  have l4 : Int32.toInt (252645135 : Int32) = 252645135 := (by decide)
  have l5 : Int32.toInt (63 : Int32) = 63 := (by decide)
  have l6 : Int32.toInt (858993459 : Int32) = 858993459 := (by decide)
  have l7 : Int32.toInt (9 : Int32) = 9 := (by decide)
  refine And.intro (fun c43 => ?_) (fun c43 => ?_)
  · skip
    have c43 := (fa_lt _ _).mp c43
    refine t_X3_worthOf (by omega) (fun r44 => ?_)
    refine And.intro (fun h9 => absurd h9 (by decide)) (fun _ => ?_)
    refine And.intro (t_in (by omega)) ?_
    intro v45 ev45
    have f46 : Int32.toInt (0 + 1) = Int32.toInt (0 : Int32) + Int32.toInt (1 : Int32) := ta_add _ _ (by omega)
    rw [← ev45] at f46
    refine And.intro (fun c47 => ?_) (fun c47 => ?_)
    · skip
      have c47 := (fa_le _ _).mp c47
      exfalso; omega
    · skip
      have c47 := mt (fa_le _ _).mpr c47
      refine And.intro (t_in (by omega)) ?_
      intro v48 ev48
      have f49 : Int32.toInt (v45 + 1) = Int32.toInt v45 + Int32.toInt (1 : Int32) := ta_add _ _ (by omega)
      rw [← ev48] at f49
      refine And.intro (fun c50 => ?_) (fun c50 => ?_)
      · skip
        have c50 := (fa_le _ _).mp c50
        exfalso; omega
      · skip
        have c50 := mt (fa_le _ _).mpr c50
        refine And.intro (t_in (by omega)) ?_
        intro v51 ev51
        have f52 : Int32.toInt (v48 + 1) = Int32.toInt v48 + Int32.toInt (1 : Int32) := ta_add _ _ (by omega)
        rw [← ev51] at f52
        intro v53 ev53
        intro v54 ev54
        have f56 := ti_andr v53 1431655765 (by omega)
        have f55 : Int32.toInt (x6 - (v53 &&& 1431655765)) = Int32.toInt x6 - Int32.toInt (v53 &&& 1431655765) := ta_sub _ _ (by omega)
        rw [← ev54] at f55
        intro v57 ev57
        have f58 := ti_andr v54 858993459 (by omega)
        have hv57 := congrArg Int32.toInt ev57
        intro v59 ev59
        intro v60 ev60
        have f62 := ti_andr v59 858993459 (by omega)
        have f61 : Int32.toInt (v57 + (v59 &&& 858993459)) = Int32.toInt v57 + Int32.toInt (v59 &&& 858993459) := ta_add _ _ (by omega)
        rw [← ev60] at f61
        intro v63 ev63
        have hv63 := congrArg Int32.toInt ev63
        intro v65 ev65
        have f66 := ti_andr v63 252645135 (by omega)
        have hv65 := congrArg Int32.toInt ev65
        intro v67 ev67
        have hv67 := congrArg Int32.toInt ev67
        intro v69 ev69
        have hv69 := congrArg Int32.toInt ev69
        have f71 := ti_andr v69 63 (by omega)
        exact hpost _ _ _ (by omega) (by omega)
  · skip
    have c43 := mt (fa_lt _ _).mpr c43
    intro v72 ev72
    have f74 := ti_andl x5 (x6 ^^^ (-1)) (by omega)
    have hv72 := congrArg Int32.toInt ev72
    intro v75 ev75
    have f76 : Int32.toInt (no_today + x9) = Int32.toInt no_today + Int32.toInt x9 := ta_add _ _ (by omega)
    rw [← ev75] at f76
    intro v77 ev77
    have f78 := ti_min (9 : Int32) v75
    have hv77 := congrArg Int32.toInt ev77
    refine t_X3_ripeBy (by omega) (by omega) (fun r79 h_r79 => ?_)
    intro v80 ev80
    have f81 := ti_andr v72 r79 (by omega)
    have f82 := ti_andl v72 r79 (by omega)
    have hv80 := congrArg Int32.toInt ev80
    have f83 := tp_r x7
    have f84 := tp_r x4
    exact ⟨18, tb_X9_autumn_91 tr_fruits tr_worth tr_ripe no_apron no_basket no_ground no_bruised no_today h_tr_fruits h_no_today hpost hKn _ x2 x3 x4 x5 x6 x7 x8 x9 v80 0 0 ro_size ro_numbers (by omega) (by omega) (by omega) (by omega) (by omega) (by omega) (by omega) (by omega) (by omega) (by omega) (by omega) (by omega)⟩
set_option maxHeartbeats 8000000 in
set_option maxRecDepth 200000 in
theorem tb_X9_autumn_47 {post : Int32 → Int32 → (Nat → Int32) → Prop} (tr_fruits : Int32) (tr_worth : Nat → Int32) (tr_ripe : Nat → Int32) (no_apron : Int32) (no_basket : Int32) (no_ground : Int32) (no_bruised : Int32) (no_today : Int32) (h_tr_fruits : 0 ≤ Int32.toInt tr_fruits ∧ Int32.toInt tr_fruits ≤ 16) (h_no_today : 0 ≤ Int32.toInt no_today ∧ Int32.toInt no_today ≤ 9) (hpost : ∀ (r : Int32) (ro_size' : Int32) (ro_numbers' : Nat → Int32), (-1 ≤ Int32.toInt r ∧ Int32.toInt r ≤ 63) → (0 ≤ Int32.toInt ro_size' ∧ Int32.toInt ro_size' ≤ 16) → post r ro_size' ro_numbers') : ∀ (n : Nat) (x2 : Int32) (x3 : Int32) (x4 : Int32) (x5 : Int32) (x6 : Int32) (x7 : Int32) (x8 : Int32) (x9 : Int32) (ro_size : Int32) (ro_numbers : Nat → Int32), (1 ≤ Int32.toInt x2 ∧ Int32.toInt x2 ≤ 30) → (0 ≤ Int32.toInt x3 ∧ Int32.toInt x3 ≤ 10) → (0 ≤ Int32.toInt x5 ∧ Int32.toInt x5 ≤ 65535) → (0 ≤ Int32.toInt x6 ∧ Int32.toInt x6 ≤ 65535) → (0 ≤ Int32.toInt x7 ∧ Int32.toInt x7 ≤ 2147483647) → (-1 ≤ Int32.toInt x8 ∧ Int32.toInt x8 ≤ 30) → (1 ≤ Int32.toInt x9 ∧ Int32.toInt x9 ≤ 31) → (0 ≤ Int32.toInt ro_size ∧ Int32.toInt ro_size ≤ 16) → (31 - Int32.toInt x9 < (n : Int)) → wb_X9_autumn_47 post tr_fruits tr_worth tr_ripe no_apron no_basket no_ground no_bruised no_today n x2 x3 x4 x5 x6 x7 x8 x9 ro_size ro_numbers := by
  intro n
  induction n with
  | zero =>
    intro x2 x3 x4 x5 x6 x7 x8 x9 ro_size ro_numbers h_x2 h_x3 h_x5 h_x6 h_x7 h_x8 h_x9 h_ro_size hm
    exfalso; omega
  | succ n ih =>
    intro x2 x3 x4 x5 x6 x7 x8 x9 ro_size ro_numbers h_x2 h_x3 h_x5 h_x6 h_x7 h_x8 h_x9 h_ro_size hm
    exact ts_X9_autumn_47 tr_fruits tr_worth tr_ripe no_apron no_basket no_ground no_bruised no_today h_tr_fruits h_no_today hpost ih x2 x3 x4 x5 x6 x7 x8 x9 ro_size ro_numbers h_x2 h_x3 h_x5 h_x6 h_x7 h_x8 h_x9 h_ro_size (by omega)
set_option maxHeartbeats 8000000 in
set_option maxRecDepth 200000 in
theorem t_X9_autumn {post : Int32 → Int32 → (Nat → Int32) → Prop} {p0 : Int32} {p1 : Int32} {p2 : Int32} {tr_fruits : Int32} {tr_worth : Nat → Int32} {tr_ripe : Nat → Int32} {no_apron : Int32} {no_basket : Int32} {no_ground : Int32} {no_bruised : Int32} {no_today : Int32} {ro_size : Int32} {ro_numbers : Nat → Int32} (h_tr_fruits : 0 ≤ Int32.toInt tr_fruits ∧ Int32.toInt tr_fruits ≤ 16) (h_no_today : 0 ≤ Int32.toInt no_today ∧ Int32.toInt no_today ≤ 9) (h_ro_size : 0 ≤ Int32.toInt ro_size ∧ Int32.toInt ro_size ≤ 16) (hpost : ∀ (r : Int32) (ro_size' : Int32) (ro_numbers' : Nat → Int32), (-1 ≤ Int32.toInt r ∧ Int32.toInt r ≤ 63) → (0 ≤ Int32.toInt ro_size' ∧ Int32.toInt ro_size' ≤ 16) → post r ro_size' ro_numbers') : wp_X9_autumn post p0 p1 p2 tr_fruits tr_worth tr_ripe no_apron no_basket no_ground no_bruised no_today ro_size ro_numbers := by
  have l0 : Int32.toInt ((-1) : Int32) = -1 := (by decide)
  have l1 : Int32.toInt (0 : Int32) = 0 := (by decide)
  have l2 : Int32.toInt (1 : Int32) = 1 := (by decide)
  have l3 : Int32.toInt (10 : Int32) = 10 := (by decide)
  have l4 : Int32.toInt (30 : Int32) = 30 := (by decide)
  have f86 := tp_r p1
  refine And.intro (fun c85 => ?_) (fun c85 => ?_)
  · skip
    have c85 := (fa_lt _ _).mp c85
    exact hpost _ _ _ (by omega) (by omega)
  · skip
    have c85 := mt (fa_lt _ _).mpr c85
    refine And.intro (fun c87 => ?_) (fun c87 => ?_)
    · skip
      have c87 := (fa_lt _ _).mp c87
      exact hpost _ _ _ (by omega) (by omega)
    · skip
      have c87 := mt (fa_lt _ _).mpr c87
      have f89 := tp_r p2
      refine And.intro (fun c88 => ?_) (fun c88 => ?_)
      · skip
        have c88 := (fa_lt _ _).mp c88
        exact hpost _ _ _ (by omega) (by omega)
      · skip
        have c88 := mt (fa_lt _ _).mpr c88
        refine And.intro (fun c90 => ?_) (fun c90 => ?_)
        · skip
          have c90 := (fa_le _ _).mp c90
          intro v91 ev91
          have f92 := ti_shl1 16 65536 tr_fruits (by decide) (by omega)
          have hv91 := congrArg Int32.toInt ev91
          intro v93 ev93
          intro v94 ev94
          have f96 : Int32.toInt (v91 - 1) = Int32.toInt v91 - Int32.toInt (1 : Int32) := ta_sub _ _ (by omega)
          have f97 := ti_andl (v91 - 1) (v94 ^^^ (-1)) (by omega)
          have f98 := tp_r p0
          exact ⟨32, tb_X9_autumn_47 tr_fruits tr_worth tr_ripe no_apron no_basket no_ground no_bruised no_today h_tr_fruits h_no_today hpost _ p1 p2 p0 ((v91 - 1) &&& (v94 ^^^ (-1))) 0 0 (-1) 1 ro_size ro_numbers (by omega) (by omega) (by omega) (by omega) (by omega) (by omega) (by omega) (by omega) (by omega)⟩
        · skip
          have c90 := mt (fa_le _ _).mpr c90
          exact hpost _ _ _ (by omega) (by omega)
set_option maxHeartbeats 8000000 in
set_option maxRecDepth 200000 in
theorem t_X9_keep {post : Int32 → (Nat → Int32) → (Nat → Int32) → Prop} {p0 : Int32} {no_apron : Int32} {no_basket : Int32} {no_ground : Int32} {no_bruised : Int32} {no_ladder : Int32} {no_helper : Int32} {no_today : Int32} {no_clock : Int32} {pa_keptCells : Nat → Int32} {pa_isKept : Nat → Int32} (h_no_ladder : -1 ≤ Int32.toInt no_ladder ∧ Int32.toInt no_ladder ≤ 7) (h_no_today : 0 ≤ Int32.toInt no_today ∧ Int32.toInt no_today ≤ 9) (e0_pa_keptCells : ∀ k : Nat, k % 8 = 4 → -1 ≤ Int32.toInt (pa_keptCells k) ∧ Int32.toInt (pa_keptCells k) ≤ 7) (e1_pa_keptCells : ∀ k : Nat, k % 8 = 6 → 0 ≤ Int32.toInt (pa_keptCells k) ∧ Int32.toInt (pa_keptCells k) ≤ 9) (h_pa_isKept : ∀ k : Nat, 0 ≤ Int32.toInt (pa_isKept k) ∧ Int32.toInt (pa_isKept k) ≤ 1) (hpost : ∀ (r : Int32) (pa_keptCells' : Nat → Int32) (pa_isKept' : Nat → Int32), (0 ≤ Int32.toInt r ∧ Int32.toInt r ≤ 1) → (∀ k : Nat, k % 8 = 4 → -1 ≤ Int32.toInt (pa_keptCells' k) ∧ Int32.toInt (pa_keptCells' k) ≤ 7) → (∀ k : Nat, k % 8 = 6 → 0 ≤ Int32.toInt (pa_keptCells' k) ∧ Int32.toInt (pa_keptCells' k) ≤ 9) → (∀ k : Nat, 0 ≤ Int32.toInt (pa_isKept' k) ∧ Int32.toInt (pa_isKept' k) ≤ 1) → ((0 ≤ Int32.toInt p0 ∧ Int32.toInt p0 ≤ 1 ∧ Int32.toInt r = 1) ∨ ((Int32.toInt p0 < 0 ∨ 1 < Int32.toInt p0) ∧ Int32.toInt r = 0)) → post r pa_keptCells' pa_isKept') : wp_X9_keep post p0 no_apron no_basket no_ground no_bruised no_ladder no_helper no_today no_clock pa_keptCells pa_isKept := by
  have l0 : Int32.toInt (0 : Int32) = 0 := (by decide)
  have l1 : Int32.toInt (1 : Int32) = 1 := (by decide)
  have l2 : Int32.toInt (16 : Int32) = 16 := (by decide)
  have l3 : Int32.toInt (2 : Int32) = 2 := (by decide)
  have l4 : Int32.toInt (3 : Int32) = 3 := (by decide)
  have l5 : Int32.toInt (4 : Int32) = 4 := (by decide)
  have l6 : Int32.toInt (5 : Int32) = 5 := (by decide)
  have l7 : Int32.toInt (6 : Int32) = 6 := (by decide)
  have l8 : Int32.toInt (7 : Int32) = 7 := (by decide)
  have l9 : Int32.toInt (8 : Int32) = 8 := (by decide)
  have f2 := tp_r p0
  refine And.intro (fun c1 => ?_) (fun c1 => ?_)
  · skip
    have c1 := (fa_lt _ _).mp c1
    refine And.intro (t_bool (by omega)) ?_
    exact hpost _ _ _ (by omega) e0_pa_keptCells e1_pa_keptCells (fun k => by have q9 := h_pa_isKept k; omega) (by omega)
  · skip
    have c1 := mt (fa_lt _ _).mpr c1
    refine And.intro (fun c3 => ?_) (fun c3 => ?_)
    · skip
      have c3 := (fa_lt _ _).mp c3
      intro v4 ev4
      have f5 : Int32.toInt (p0 * 8) = Int32.toInt p0 * 8 := ta_mulc _ _ (by decide) (by omega)
      rw [← ev4] at f5
      refine And.intro (fun c6 => ?_) (fun c6 => ?_)
      · skip
        have c6 := (fa_lt _ _).mp c6
        exfalso; omega
      · skip
        have c6 := mt (fa_lt _ _).mpr c6
        have f8 : Int32.toInt (16 - 8) = Int32.toInt (16 : Int32) - Int32.toInt (8 : Int32) := ta_sub _ _ (by omega)
        refine And.intro (fun c7 => ?_) (fun c7 => ?_)
        · skip
          have c7 := (fa_le _ _).mp c7
          refine And.intro (t_in (by omega)) ?_
          have f10 := tp_r no_apron
          have e9 : ∀ k : Nat, k % 8 = 4 → -1 ≤ Int32.toInt ((upd pa_keptCells v4.toNatClampNeg no_apron) k) ∧ Int32.toInt ((upd pa_keptCells v4.toNatClampNeg no_apron) k) ≤ 7 := t_updc (C := fun k => k % 8 = 4) e0_pa_keptCells (fun hk => by have e9 : v4.toNatClampNeg = (Int32.toInt v4).toNat := rfl; have hk : v4.toNatClampNeg % 8 = 4 := hk; omega)
          have e11 : ∀ k : Nat, k % 8 = 6 → 0 ≤ Int32.toInt ((upd pa_keptCells v4.toNatClampNeg no_apron) k) ∧ Int32.toInt ((upd pa_keptCells v4.toNatClampNeg no_apron) k) ≤ 9 := t_updc (C := fun k => k % 8 = 6) e1_pa_keptCells (fun hk => by have e9 : v4.toNatClampNeg = (Int32.toInt v4).toNat := rfl; have hk : v4.toNatClampNeg % 8 = 6 := hk; omega)
          intro v12 ev12
          have f13 : Int32.toInt (v4 + 1) = Int32.toInt v4 + Int32.toInt (1 : Int32) := ta_add _ _ (by omega)
          rw [← ev12] at f13
          refine And.intro (t_in (by omega)) ?_
          have f15 := tp_r no_basket
          have e14 : ∀ k : Nat, k % 8 = 4 → -1 ≤ Int32.toInt ((upd (upd pa_keptCells v4.toNatClampNeg no_apron) v12.toNatClampNeg no_basket) k) ∧ Int32.toInt ((upd (upd pa_keptCells v4.toNatClampNeg no_apron) v12.toNatClampNeg no_basket) k) ≤ 7 := t_updc (C := fun k => k % 8 = 4) e9 (fun hk => by have e9 : v12.toNatClampNeg = (Int32.toInt v12).toNat := rfl; have hk : v12.toNatClampNeg % 8 = 4 := hk; omega)
          have e16 : ∀ k : Nat, k % 8 = 6 → 0 ≤ Int32.toInt ((upd (upd pa_keptCells v4.toNatClampNeg no_apron) v12.toNatClampNeg no_basket) k) ∧ Int32.toInt ((upd (upd pa_keptCells v4.toNatClampNeg no_apron) v12.toNatClampNeg no_basket) k) ≤ 9 := t_updc (C := fun k => k % 8 = 6) e11 (fun hk => by have e9 : v12.toNatClampNeg = (Int32.toInt v12).toNat := rfl; have hk : v12.toNatClampNeg % 8 = 6 := hk; omega)
          intro v17 ev17
          have f18 : Int32.toInt (v4 + 2) = Int32.toInt v4 + Int32.toInt (2 : Int32) := ta_add _ _ (by omega)
          rw [← ev17] at f18
          refine And.intro (t_in (by omega)) ?_
          have f20 := tp_r no_ground
          have e19 : ∀ k : Nat, k % 8 = 4 → -1 ≤ Int32.toInt ((upd (upd (upd pa_keptCells v4.toNatClampNeg no_apron) v12.toNatClampNeg no_basket) v17.toNatClampNeg no_ground) k) ∧ Int32.toInt ((upd (upd (upd pa_keptCells v4.toNatClampNeg no_apron) v12.toNatClampNeg no_basket) v17.toNatClampNeg no_ground) k) ≤ 7 := t_updc (C := fun k => k % 8 = 4) e14 (fun hk => by have e9 : v17.toNatClampNeg = (Int32.toInt v17).toNat := rfl; have hk : v17.toNatClampNeg % 8 = 4 := hk; omega)
          have e21 : ∀ k : Nat, k % 8 = 6 → 0 ≤ Int32.toInt ((upd (upd (upd pa_keptCells v4.toNatClampNeg no_apron) v12.toNatClampNeg no_basket) v17.toNatClampNeg no_ground) k) ∧ Int32.toInt ((upd (upd (upd pa_keptCells v4.toNatClampNeg no_apron) v12.toNatClampNeg no_basket) v17.toNatClampNeg no_ground) k) ≤ 9 := t_updc (C := fun k => k % 8 = 6) e16 (fun hk => by have e9 : v17.toNatClampNeg = (Int32.toInt v17).toNat := rfl; have hk : v17.toNatClampNeg % 8 = 6 := hk; omega)
          intro v22 ev22
          have f23 : Int32.toInt (v4 + 3) = Int32.toInt v4 + Int32.toInt (3 : Int32) := ta_add _ _ (by omega)
          rw [← ev22] at f23
          refine And.intro (t_in (by omega)) ?_
          have f25 := tp_r no_bruised
          have e24 : ∀ k : Nat, k % 8 = 4 → -1 ≤ Int32.toInt ((upd (upd (upd (upd pa_keptCells v4.toNatClampNeg no_apron) v12.toNatClampNeg no_basket) v17.toNatClampNeg no_ground) v22.toNatClampNeg no_bruised) k) ∧ Int32.toInt ((upd (upd (upd (upd pa_keptCells v4.toNatClampNeg no_apron) v12.toNatClampNeg no_basket) v17.toNatClampNeg no_ground) v22.toNatClampNeg no_bruised) k) ≤ 7 := t_updc (C := fun k => k % 8 = 4) e19 (fun hk => by have e9 : v22.toNatClampNeg = (Int32.toInt v22).toNat := rfl; have hk : v22.toNatClampNeg % 8 = 4 := hk; omega)
          have e26 : ∀ k : Nat, k % 8 = 6 → 0 ≤ Int32.toInt ((upd (upd (upd (upd pa_keptCells v4.toNatClampNeg no_apron) v12.toNatClampNeg no_basket) v17.toNatClampNeg no_ground) v22.toNatClampNeg no_bruised) k) ∧ Int32.toInt ((upd (upd (upd (upd pa_keptCells v4.toNatClampNeg no_apron) v12.toNatClampNeg no_basket) v17.toNatClampNeg no_ground) v22.toNatClampNeg no_bruised) k) ≤ 9 := t_updc (C := fun k => k % 8 = 6) e21 (fun hk => by have e9 : v22.toNatClampNeg = (Int32.toInt v22).toNat := rfl; have hk : v22.toNatClampNeg % 8 = 6 := hk; omega)
          intro v27 ev27
          have f28 : Int32.toInt (v4 + 4) = Int32.toInt v4 + Int32.toInt (4 : Int32) := ta_add _ _ (by omega)
          rw [← ev27] at f28
          refine And.intro (t_in (by omega)) ?_
          have e29 : ∀ k : Nat, k % 8 = 4 → -1 ≤ Int32.toInt ((upd (upd (upd (upd (upd pa_keptCells v4.toNatClampNeg no_apron) v12.toNatClampNeg no_basket) v17.toNatClampNeg no_ground) v22.toNatClampNeg no_bruised) v27.toNatClampNeg no_ladder) k) ∧ Int32.toInt ((upd (upd (upd (upd (upd pa_keptCells v4.toNatClampNeg no_apron) v12.toNatClampNeg no_basket) v17.toNatClampNeg no_ground) v22.toNatClampNeg no_bruised) v27.toNatClampNeg no_ladder) k) ≤ 7 := t_updc (C := fun k => k % 8 = 4) e24 (fun hk => by have e9 : v27.toNatClampNeg = (Int32.toInt v27).toNat := rfl; have hk : v27.toNatClampNeg % 8 = 4 := hk; omega)
          have e30 : ∀ k : Nat, k % 8 = 6 → 0 ≤ Int32.toInt ((upd (upd (upd (upd (upd pa_keptCells v4.toNatClampNeg no_apron) v12.toNatClampNeg no_basket) v17.toNatClampNeg no_ground) v22.toNatClampNeg no_bruised) v27.toNatClampNeg no_ladder) k) ∧ Int32.toInt ((upd (upd (upd (upd (upd pa_keptCells v4.toNatClampNeg no_apron) v12.toNatClampNeg no_basket) v17.toNatClampNeg no_ground) v22.toNatClampNeg no_bruised) v27.toNatClampNeg no_ladder) k) ≤ 9 := t_updc (C := fun k => k % 8 = 6) e26 (fun hk => by have e9 : v27.toNatClampNeg = (Int32.toInt v27).toNat := rfl; have hk : v27.toNatClampNeg % 8 = 6 := hk; omega)
          intro v31 ev31
          have f32 : Int32.toInt (v4 + 5) = Int32.toInt v4 + Int32.toInt (5 : Int32) := ta_add _ _ (by omega)
          rw [← ev31] at f32
          refine And.intro (t_in (by omega)) ?_
          have f34 := tp_r no_helper
          have e33 : ∀ k : Nat, k % 8 = 4 → -1 ≤ Int32.toInt ((upd (upd (upd (upd (upd (upd pa_keptCells v4.toNatClampNeg no_apron) v12.toNatClampNeg no_basket) v17.toNatClampNeg no_ground) v22.toNatClampNeg no_bruised) v27.toNatClampNeg no_ladder) v31.toNatClampNeg no_helper) k) ∧ Int32.toInt ((upd (upd (upd (upd (upd (upd pa_keptCells v4.toNatClampNeg no_apron) v12.toNatClampNeg no_basket) v17.toNatClampNeg no_ground) v22.toNatClampNeg no_bruised) v27.toNatClampNeg no_ladder) v31.toNatClampNeg no_helper) k) ≤ 7 := t_updc (C := fun k => k % 8 = 4) e29 (fun hk => by have e9 : v31.toNatClampNeg = (Int32.toInt v31).toNat := rfl; have hk : v31.toNatClampNeg % 8 = 4 := hk; omega)
          have e35 : ∀ k : Nat, k % 8 = 6 → 0 ≤ Int32.toInt ((upd (upd (upd (upd (upd (upd pa_keptCells v4.toNatClampNeg no_apron) v12.toNatClampNeg no_basket) v17.toNatClampNeg no_ground) v22.toNatClampNeg no_bruised) v27.toNatClampNeg no_ladder) v31.toNatClampNeg no_helper) k) ∧ Int32.toInt ((upd (upd (upd (upd (upd (upd pa_keptCells v4.toNatClampNeg no_apron) v12.toNatClampNeg no_basket) v17.toNatClampNeg no_ground) v22.toNatClampNeg no_bruised) v27.toNatClampNeg no_ladder) v31.toNatClampNeg no_helper) k) ≤ 9 := t_updc (C := fun k => k % 8 = 6) e30 (fun hk => by have e9 : v31.toNatClampNeg = (Int32.toInt v31).toNat := rfl; have hk : v31.toNatClampNeg % 8 = 6 := hk; omega)
          intro v36 ev36
          have f37 : Int32.toInt (v4 + 6) = Int32.toInt v4 + Int32.toInt (6 : Int32) := ta_add _ _ (by omega)
          rw [← ev36] at f37
          refine And.intro (t_in (by omega)) ?_
          have e38 : ∀ k : Nat, k % 8 = 4 → -1 ≤ Int32.toInt ((upd (upd (upd (upd (upd (upd (upd pa_keptCells v4.toNatClampNeg no_apron) v12.toNatClampNeg no_basket) v17.toNatClampNeg no_ground) v22.toNatClampNeg no_bruised) v27.toNatClampNeg no_ladder) v31.toNatClampNeg no_helper) v36.toNatClampNeg no_today) k) ∧ Int32.toInt ((upd (upd (upd (upd (upd (upd (upd pa_keptCells v4.toNatClampNeg no_apron) v12.toNatClampNeg no_basket) v17.toNatClampNeg no_ground) v22.toNatClampNeg no_bruised) v27.toNatClampNeg no_ladder) v31.toNatClampNeg no_helper) v36.toNatClampNeg no_today) k) ≤ 7 := t_updc (C := fun k => k % 8 = 4) e33 (fun hk => by have e9 : v36.toNatClampNeg = (Int32.toInt v36).toNat := rfl; have hk : v36.toNatClampNeg % 8 = 4 := hk; omega)
          have e39 : ∀ k : Nat, k % 8 = 6 → 0 ≤ Int32.toInt ((upd (upd (upd (upd (upd (upd (upd pa_keptCells v4.toNatClampNeg no_apron) v12.toNatClampNeg no_basket) v17.toNatClampNeg no_ground) v22.toNatClampNeg no_bruised) v27.toNatClampNeg no_ladder) v31.toNatClampNeg no_helper) v36.toNatClampNeg no_today) k) ∧ Int32.toInt ((upd (upd (upd (upd (upd (upd (upd pa_keptCells v4.toNatClampNeg no_apron) v12.toNatClampNeg no_basket) v17.toNatClampNeg no_ground) v22.toNatClampNeg no_bruised) v27.toNatClampNeg no_ladder) v31.toNatClampNeg no_helper) v36.toNatClampNeg no_today) k) ≤ 9 := t_updc (C := fun k => k % 8 = 6) e35 (fun hk => by have e9 : v36.toNatClampNeg = (Int32.toInt v36).toNat := rfl; have hk : v36.toNatClampNeg % 8 = 6 := hk; omega)
          intro v40 ev40
          have f41 : Int32.toInt (v4 + 7) = Int32.toInt v4 + Int32.toInt (7 : Int32) := ta_add _ _ (by omega)
          rw [← ev40] at f41
          refine And.intro (t_in (by omega)) ?_
          have f43 := tp_r no_clock
          have e42 : ∀ k : Nat, k % 8 = 4 → -1 ≤ Int32.toInt ((upd (upd (upd (upd (upd (upd (upd (upd pa_keptCells v4.toNatClampNeg no_apron) v12.toNatClampNeg no_basket) v17.toNatClampNeg no_ground) v22.toNatClampNeg no_bruised) v27.toNatClampNeg no_ladder) v31.toNatClampNeg no_helper) v36.toNatClampNeg no_today) v40.toNatClampNeg no_clock) k) ∧ Int32.toInt ((upd (upd (upd (upd (upd (upd (upd (upd pa_keptCells v4.toNatClampNeg no_apron) v12.toNatClampNeg no_basket) v17.toNatClampNeg no_ground) v22.toNatClampNeg no_bruised) v27.toNatClampNeg no_ladder) v31.toNatClampNeg no_helper) v36.toNatClampNeg no_today) v40.toNatClampNeg no_clock) k) ≤ 7 := t_updc (C := fun k => k % 8 = 4) e38 (fun hk => by have e9 : v40.toNatClampNeg = (Int32.toInt v40).toNat := rfl; have hk : v40.toNatClampNeg % 8 = 4 := hk; omega)
          have e44 : ∀ k : Nat, k % 8 = 6 → 0 ≤ Int32.toInt ((upd (upd (upd (upd (upd (upd (upd (upd pa_keptCells v4.toNatClampNeg no_apron) v12.toNatClampNeg no_basket) v17.toNatClampNeg no_ground) v22.toNatClampNeg no_bruised) v27.toNatClampNeg no_ladder) v31.toNatClampNeg no_helper) v36.toNatClampNeg no_today) v40.toNatClampNeg no_clock) k) ∧ Int32.toInt ((upd (upd (upd (upd (upd (upd (upd (upd pa_keptCells v4.toNatClampNeg no_apron) v12.toNatClampNeg no_basket) v17.toNatClampNeg no_ground) v22.toNatClampNeg no_bruised) v27.toNatClampNeg no_ladder) v31.toNatClampNeg no_helper) v36.toNatClampNeg no_today) v40.toNatClampNeg no_clock) k) ≤ 9 := t_updc (C := fun k => k % 8 = 6) e39 (fun hk => by have e9 : v40.toNatClampNeg = (Int32.toInt v40).toNat := rfl; have hk : v40.toNatClampNeg % 8 = 6 := hk; omega)
          refine And.intro (t_in (by omega)) ?_
          have qa45 := ti_nar_boolean 1
          have a45 : ∀ k : Nat, 0 ≤ Int32.toInt ((upd pa_isKept p0.toNatClampNeg (vp_nar .boolean 1)) k) ∧ Int32.toInt ((upd pa_isKept p0.toNatClampNeg (vp_nar .boolean 1)) k) ≤ 1 := t_upd (fun k => by have q9 := h_pa_isKept k; omega) (by omega)
          refine And.intro (t_bool (by omega)) ?_
          exact hpost _ _ _ (by omega) e42 e44 (fun k => by have q9 := a45 k; omega) (by omega)
        · skip
          have c7 := mt (fa_le _ _).mpr c7
          exfalso; omega
    · skip
      have c3 := mt (fa_lt _ _).mpr c3
      refine And.intro (t_bool (by omega)) ?_
      exact hpost _ _ _ (by omega) e0_pa_keptCells e1_pa_keptCells (fun k => by have q9 := h_pa_isKept k; omega) (by omega)
