set_option maxHeartbeats 8000000 in
set_option maxRecDepth 200000 in
theorem ts_X3_standingsAt_37 {post : Int32 → Prop} {K5 : Int32 → Int32 → Int32 → Int32 → Prop} {n5 : Int} (bD : Int32) (nJ : Nat → Int32) (h_tr_standings : 0 ≤ Int32.toInt bD ∧ Int32.toInt bD ≤ 8) (hpost : ∀ (r : Int32) , (0 ≤ Int32.toInt r ∧ Int32.toInt r ≤ 255) → post r) (hK5 : ∀ (x1 : Int32) (x2 : Int32) (x3 : Int32) (x4 : Int32), (0 ≤ Int32.toInt x2 ∧ Int32.toInt x2 ≤ 99) → (0 ≤ Int32.toInt x3 ∧ Int32.toInt x3 ≤ 255) → (0 ≤ Int32.toInt x4 ∧ Int32.toInt x4 ≤ 8) → (8 - Int32.toInt x4 < n5) → K5 x1 x2 x3 x4) (x1 x2 x3 x4 : Int32) (h_x2 : 0 ≤ Int32.toInt x2 ∧ Int32.toInt x2 ≤ 99) (h_x3 : 0 ≤ Int32.toInt x3 ∧ Int32.toInt x3 ≤ 255) (h_x4 : 0 ≤ Int32.toInt x4 ∧ Int32.toInt x4 ≤ 7) (hn5 : 8 - Int32.toInt x4 ≤ n5) : ws_X3_standingsAt_37 post K5 bD nJ x1 x2 x3 x4 := by
  have l0 := li_1
  intro v1 ev1
  have f2 : Int32.toInt (x4 + 1) = Int32.toInt x4 + Int32.toInt (1 : Int32) := ta_add _ _ (by omega)
  rw [← ev1] at f2
  have f3 := tp_r x1
  exact hK5 x1 x2 x3 v1 h_x2 h_x3 (by omega) (by omega)
set_option maxHeartbeats 8000000 in
set_option maxRecDepth 200000 in
theorem ts_X3_standingsAt_5 {post : Int32 → Prop} {next : Int32 → Int32 → Int32 → Int32 → Prop} {n5 : Int} (bD : Int32) (nJ : Nat → Int32) (h_tr_standings : 0 ≤ Int32.toInt bD ∧ Int32.toInt bD ≤ 8) (hpost : ∀ (r : Int32) , (0 ≤ Int32.toInt r ∧ Int32.toInt r ≤ 255) → post r) (hKn : ∀ (x1 : Int32) (x2 : Int32) (x3 : Int32) (x4 : Int32), (0 ≤ Int32.toInt x2 ∧ Int32.toInt x2 ≤ 99) → (0 ≤ Int32.toInt x3 ∧ Int32.toInt x3 ≤ 255) → (0 ≤ Int32.toInt x4 ∧ Int32.toInt x4 ≤ 8) → (8 - Int32.toInt x4 < n5) → next x1 x2 x3 x4) (x1 x2 x3 x4 : Int32) (h_x2 : 0 ≤ Int32.toInt x2 ∧ Int32.toInt x2 ≤ 99) (h_x3 : 0 ≤ Int32.toInt x3 ∧ Int32.toInt x3 ≤ 255) (h_x4 : 0 ≤ Int32.toInt x4 ∧ Int32.toInt x4 ≤ 8) (hn5 : 8 - Int32.toInt x4 ≤ n5) : ws_X3_standingsAt_5 post next bD nJ x1 x2 x3 x4 := by
  refine And.intro (fun c4 => ?_) (fun c4 => ?_)
  · skip
    have c4 := (fa_le _ _).mp c4
    exact hpost _ h_x3
  · skip
    have c4 := mt (fa_le _ _).mpr c4
    refine And.intro (t_in (by omega)) ?_
    intro v5 ev5
    have hv5 := congrArg Int32.toInt ev5
    intro v7 ev7
    have hv7 := congrArg Int32.toInt ev7
    intro v9 ev9
    have hv9 := congrArg Int32.toInt ev9
    have f12 := tp_r v9
    refine And.intro (fun c11 => ?_) (fun c11 => ?_)
    · skip
      have c11 := (fa_lt _ _).mp c11
      have f13 := tp_r x1
      exact ts_X3_standingsAt_37 bD nJ h_tr_standings hpost hKn x1 x2 x3 x4 h_x2 h_x3 (by omega) hn5
    · skip
      have c11 := mt (fa_lt _ _).mpr c11
      intro v14 ev14
      have f16 := ti_shl1 7 128 x4 (by decide) (by omega)
      have f15 := ti_or 8 256 x3 (1 <<< (x4 &&& 31)) (by decide) (by omega) (by omega)
      have hv14 := congrArg Int32.toInt ev14
      have f17 := tp_r x1
      exact ts_X3_standingsAt_37 bD nJ h_tr_standings hpost hKn x1 x2 v14 x4 h_x2 (by omega) (by omega) hn5
set_option maxHeartbeats 8000000 in
set_option maxRecDepth 200000 in
theorem tb_X3_standingsAt_5 {post : Int32 → Prop} (bD : Int32) (nJ : Nat → Int32) (h_tr_standings : 0 ≤ Int32.toInt bD ∧ Int32.toInt bD ≤ 8) (hpost : ∀ (r : Int32) , (0 ≤ Int32.toInt r ∧ Int32.toInt r ≤ 255) → post r) : ∀ (n : Nat) (x1 x2 x3 x4 : Int32), (0 ≤ Int32.toInt x2 ∧ Int32.toInt x2 ≤ 99) → (0 ≤ Int32.toInt x3 ∧ Int32.toInt x3 ≤ 255) → (0 ≤ Int32.toInt x4 ∧ Int32.toInt x4 ≤ 8) → (8 - Int32.toInt x4 < (n : Int)) → wb_X3_standingsAt_5 post bD nJ n x1 x2 x3 x4 := by
  intro n
  induction n with
  | zero =>
    intro x1 x2 x3 x4 h_x2 h_x3 h_x4 hm
    exfalso; omega
  | succ n ih =>
    intro x1 x2 x3 x4 h_x2 h_x3 h_x4 hm
    exact ts_X3_standingsAt_5 bD nJ h_tr_standings hpost ih x1 x2 x3 x4 h_x2 h_x3 h_x4 (by omega)
set_option maxHeartbeats 8000000 in
set_option maxRecDepth 200000 in
theorem t_X3_standingsAt {post : Int32 → Prop} {p0 p1 bD : Int32} {nJ : Nat → Int32} (h_p1 : 0 ≤ Int32.toInt p1 ∧ Int32.toInt p1 ≤ 99) (h_tr_standings : 0 ≤ Int32.toInt bD ∧ Int32.toInt bD ≤ 8) (hpost : ∀ (r : Int32) , (0 ≤ Int32.toInt r ∧ Int32.toInt r ≤ 255) → post r) : wp_X3_standingsAt post p0 p1 bD nJ := by
  have l0 := li_0
  have f18 := tp_r p0
  exact ⟨10, tb_X3_standingsAt_5 bD nJ h_tr_standings hpost _ p0 p1 0 0 h_p1 (by omega) (by omega) (by omega)⟩
set_option maxHeartbeats 8000000 in
set_option maxRecDepth 200000 in
theorem t_X9_marks {post : Int32 → Prop} {p0 p1 bD : Int32} {nJ : Nat → Int32} (h_tr_standings : 0 ≤ Int32.toInt bD ∧ Int32.toInt bD ≤ 8) (hpost : ∀ (r : Int32) , (-1 ≤ Int32.toInt r ∧ Int32.toInt r ≤ 255) → post r) : wp_X9_marks post p0 p1 bD nJ := by
  have l0 := li_m1
  have l1 := li_0
  have l2 := li_99
  have f2 := tp_r p0
  refine And.intro (fun c1 => ?_) (fun c1 => ?_)
  · skip
    have c1 := (fa_lt _ _).mp c1
    exact hpost _ (by omega)
  · skip
    have c1 := mt (fa_lt _ _).mpr c1
    refine And.intro (fun c3 => ?_) (fun c3 => ?_)
    · skip
      have c3 := (fa_lt _ _).mp c3
      exact hpost _ (by omega)
    · skip
      have c3 := mt (fa_lt _ _).mpr c3
      have f5 := tp_r p1
      refine And.intro (fun c4 => ?_) (fun c4 => ?_)
      · skip
        have c4 := (fa_lt _ _).mp c4
        exact hpost _ (by omega)
      · skip
        have c4 := mt (fa_lt _ _).mpr c4
        refine And.intro (fun c6 => ?_) (fun c6 => ?_)
        · skip
          have c6 := (fa_le _ _).mp c6
          refine t_X3_standingsAt (by omega) h_tr_standings (fun r7 h_r7 => ?_)
          exact hpost _ (by omega)
        · skip
          have c6 := mt (fa_le _ _).mpr c6
          exact hpost _ (by omega)
set_option maxHeartbeats 8000000 in
set_option maxRecDepth 200000 in
theorem ts_X1_readAll_5 {post : Int32 → Int32 → Int32 → (Nat → Int32) → Prop} {next : Int32 → Int32 → (Nat → Int32) → Prop} {n5 : Int} (qI rY : Int32) (qM : Nat → Int32) (h_tx_length : 0 ≤ Int32.toInt qI ∧ Int32.toInt qI ≤ 80) (h_tx_stop : 0 ≤ Int32.toInt rY ∧ Int32.toInt rY ≤ 80) (h_tx_signs : ∀ k : Nat, 0 ≤ Int32.toInt (qM k) ∧ Int32.toInt (qM k) ≤ 65535) (hpost : ∀ (r : Int32) (tx_place' : Int32) (mk_many' : Int32) (mk_at' : Nat → Int32), (0 ≤ Int32.toInt r ∧ Int32.toInt r ≤ 1) → (0 ≤ Int32.toInt tx_place' ∧ Int32.toInt tx_place' ≤ 80) → (0 ≤ Int32.toInt mk_many' ∧ Int32.toInt mk_many' ≤ 6) → post r tx_place' mk_many' mk_at') (hKn : ∀ (qJ : Int32) (vJ : Int32) (xB : Nat → Int32), (0 ≤ Int32.toInt qJ ∧ Int32.toInt qJ ≤ 80) → (0 ≤ Int32.toInt vJ ∧ Int32.toInt vJ ≤ 6) → (6 - Int32.toInt vJ < n5) → next qJ vJ xB) (qJ vJ : Int32) (xB : Nat → Int32) (h_tx_place : 0 ≤ Int32.toInt qJ ∧ Int32.toInt qJ ≤ 80) (h_mk_many : 0 ≤ Int32.toInt vJ ∧ Int32.toInt vJ ≤ 6) (hn5 : 6 - Int32.toInt vJ ≤ n5) : ws_X1_readAll_5 post next qI rY qM qJ vJ xB := by
  have l0 := li_m1
  have l1 := li_0
  have l2 := li_1
  have l3 := li_2
  have l4 := li_44
  have l5 := li_6
  refine And.intro (fun c1 => ?_) (fun c1 => ?_)
  · skip
    have c1 := (fa_le _ _).mp c1
    exact hpost _ _ _ _ (by omega) h_tx_place h_mk_many
  · skip
    have c1 := mt (fa_le _ _).mpr c1
    refine t_X8_readNumber (by omega) h_tx_place h_tx_stop h_tx_signs (fun r3 xO h_tx_place_2 => ?_)
    have f5 := tp_r r3
    refine And.intro (fun c4 => ?_) (fun c4 => ?_)
    · skip
      have c4 := mt (fa_eq _ _).mpr c4
      refine And.intro (t_in (by omega)) ?_
      refine And.intro (fun c6 => ?_) (fun c6 => ?_)
      · skip
        have c6 := (fa_le _ _).mp c6
        refine And.intro (fun h9 => absurd h9 (by decide)) (fun _ => ?_)
        refine And.intro (fun h9 => absurd h9 (by decide)) (fun _ => ?_)
        intro v7 ev7
        have f8 : Int32.toInt (vJ + 1) = Int32.toInt vJ + Int32.toInt (1 : Int32) := ta_add _ _ (by omega)
        rw [← ev7] at f8
        refine And.intro (fun c9 => ?_) (fun c9 => ?_)
        · skip
          have c9 := mt (fa_eq _ _).mpr c9
          refine And.intro (t_bool (by omega)) ?_
          exact hpost _ _ _ _ (by omega) h_tx_place_2 (by omega)
        · skip
          have c9 := (fa_eq _ _).mp c9
          refine And.intro (t_bool (by omega)) ?_
          exact hpost _ _ _ _ (by omega) h_tx_place_2 (by omega)
      · skip
        have c6 := mt (fa_le _ _).mpr c6
        refine And.intro (t_in (by omega)) ?_
        intro v10 ev10
        have f11 := h_tx_signs xO.toNatClampNeg
        have hv10 := congrArg Int32.toInt ev10
        refine And.intro (fun c12 => ?_) (fun c12 => ?_)
        · skip
          have c12 := (fa_eq _ _).mp c12
          intro v13 ev13
          have f14 : Int32.toInt (xO + 1) = Int32.toInt xO + Int32.toInt (1 : Int32) := ta_add _ _ (by omega)
          rw [← ev13] at f14
          refine And.intro (fun _ => ?_) (fun h9 => absurd h9 (by decide))
          intro v15 ev15
          have f16 : Int32.toInt (vJ + 1) = Int32.toInt vJ + Int32.toInt (1 : Int32) := ta_add _ _ (by omega)
          rw [← ev15] at f16
          exact hKn v13 v15 (upd xB vJ.toNatClampNeg r3) (by omega) (by omega) (by omega)
        · skip
          have c12 := mt (fa_eq _ _).mpr c12
          refine And.intro (fun h9 => absurd h9 (by decide)) (fun _ => ?_)
          intro v17 ev17
          have f18 : Int32.toInt (vJ + 1) = Int32.toInt vJ + Int32.toInt (1 : Int32) := ta_add _ _ (by omega)
          rw [← ev17] at f18
          refine And.intro (fun c19 => ?_) (fun c19 => ?_)
          · skip
            have c19 := mt (fa_eq _ _).mpr c19
            refine And.intro (t_bool (by omega)) ?_
            exact hpost _ _ _ _ (by omega) h_tx_place_2 (by omega)
          · skip
            have c19 := (fa_eq _ _).mp c19
            refine And.intro (t_bool (by omega)) ?_
            exact hpost _ _ _ _ (by omega) h_tx_place_2 (by omega)
    · skip
      have c4 := (fa_eq _ _).mp c4
      exact hpost _ _ _ _ (by omega) h_tx_place_2 h_mk_many
set_option maxHeartbeats 8000000 in
set_option maxRecDepth 200000 in
theorem tb_X1_readAll_5 {post : Int32 → Int32 → Int32 → (Nat → Int32) → Prop} (qI rY : Int32) (qM : Nat → Int32) (h_tx_length : 0 ≤ Int32.toInt qI ∧ Int32.toInt qI ≤ 80) (h_tx_stop : 0 ≤ Int32.toInt rY ∧ Int32.toInt rY ≤ 80) (h_tx_signs : ∀ k : Nat, 0 ≤ Int32.toInt (qM k) ∧ Int32.toInt (qM k) ≤ 65535) (hpost : ∀ (r : Int32) (tx_place' : Int32) (mk_many' : Int32) (mk_at' : Nat → Int32), (0 ≤ Int32.toInt r ∧ Int32.toInt r ≤ 1) → (0 ≤ Int32.toInt tx_place' ∧ Int32.toInt tx_place' ≤ 80) → (0 ≤ Int32.toInt mk_many' ∧ Int32.toInt mk_many' ≤ 6) → post r tx_place' mk_many' mk_at') : ∀ (n : Nat) (qJ vJ : Int32) (xB : Nat → Int32), (0 ≤ Int32.toInt qJ ∧ Int32.toInt qJ ≤ 80) → (0 ≤ Int32.toInt vJ ∧ Int32.toInt vJ ≤ 6) → (6 - Int32.toInt vJ < (n : Int)) → wb_X1_readAll_5 post qI rY qM n qJ vJ xB := by
  intro n
  induction n with
  | zero =>
    intro qJ vJ xB h_tx_place h_mk_many hm
    exfalso; omega
  | succ n ih =>
    intro qJ vJ xB h_tx_place h_mk_many hm
    exact ts_X1_readAll_5 qI rY qM h_tx_length h_tx_stop h_tx_signs hpost ih qJ vJ xB h_tx_place h_mk_many (by omega)
set_option maxHeartbeats 8000000 in
set_option maxRecDepth 200000 in
theorem t_X1_readAll {post : Int32 → Int32 → Int32 → (Nat → Int32) → Prop} {qI qJ rY : Int32} {qM : Nat → Int32} {vJ : Int32} {xB : Nat → Int32} (h_tx_length : 0 ≤ Int32.toInt qI ∧ Int32.toInt qI ≤ 80) (h_tx_place : 0 ≤ Int32.toInt qJ ∧ Int32.toInt qJ ≤ 0) (h_tx_stop : 0 ≤ Int32.toInt rY ∧ Int32.toInt rY ≤ 80) (h_tx_signs : ∀ k : Nat, 0 ≤ Int32.toInt (qM k) ∧ Int32.toInt (qM k) ≤ 65535) (h_mk_many : 0 ≤ Int32.toInt vJ ∧ Int32.toInt vJ ≤ 6) (hpost : ∀ (r : Int32) (tx_place' : Int32) (mk_many' : Int32) (mk_at' : Nat → Int32), (0 ≤ Int32.toInt r ∧ Int32.toInt r ≤ 1) → (0 ≤ Int32.toInt tx_place' ∧ Int32.toInt tx_place' ≤ 80) → (0 ≤ Int32.toInt mk_many' ∧ Int32.toInt mk_many' ≤ 6) → post r tx_place' mk_many' mk_at') : wp_X1_readAll post qI qJ rY qM vJ xB := by
  have l0 := li_0
  exact ⟨8, tb_X1_readAll_5 qI rY qM h_tx_length h_tx_stop h_tx_signs hpost _ qJ 0 xB (by omega) (by omega) (by omega)⟩
set_option maxHeartbeats 8000000 in
set_option maxRecDepth 200000 in
theorem ts_X1_countRows_92 {post : Int32 → (Nat → Int32) → Prop} {K10 : Int32 → Int32 → Int32 → (Nat → Int32) → Prop} {K37 : Int32 → Int32 → Int32 → Int32 → Int32 → Int32 → (Nat → Int32) → Prop} {n10 n37 : Int} (bD : Int32) (nJ : Nat → Int32) (vJ : Int32) (xB : Nat → Int32) (h_tr_standings : 0 ≤ Int32.toInt bD ∧ Int32.toInt bD ≤ 8) (h_mk_many : 0 ≤ Int32.toInt vJ ∧ Int32.toInt vJ ≤ 6) (hpost : ∀ (r : Int32) (mk_rows' : Nat → Int32), post r mk_rows') (hK10 : ∀ (x2 : Int32) (x3 : Int32) (x4 : Int32) (vR : Nat → Int32), (0 ≤ Int32.toInt x2 ∧ Int32.toInt x2 ≤ 99) → (-1 ≤ Int32.toInt x4 ∧ Int32.toInt x4 ≤ 5) → (Int32.toInt x4 ≤ Int32.toInt vJ - 1) → (Int32.toInt x4 + 1 < n10) → K10 x2 x3 x4 vR) (hK37 : ∀ (x2 : Int32) (x3 : Int32) (x4 : Int32) (x5 : Int32) (x6 : Int32) (x7 : Int32) (vR : Nat → Int32), (0 ≤ Int32.toInt x2 ∧ Int32.toInt x2 ≤ 99) → (0 ≤ Int32.toInt x4 ∧ Int32.toInt x4 ≤ 5) → (0 ≤ Int32.toInt x5 ∧ Int32.toInt x5 ≤ 255) → (0 ≤ Int32.toInt x7 ∧ Int32.toInt x7 ≤ 8) → (Int32.toInt x4 ≤ Int32.toInt vJ - 1) → (Int32.toInt x4 + 1 ≤ n10) → (8 - Int32.toInt x7 < n37) → K37 x2 x3 x4 x5 x6 x7 vR) (x2 x3 x4 x5 x6 x7 x8 : Int32) (vR : Nat → Int32) (h_x2 : 0 ≤ Int32.toInt x2 ∧ Int32.toInt x2 ≤ 99) (h_x4 : 0 ≤ Int32.toInt x4 ∧ Int32.toInt x4 ≤ 5) (h_x5 : 0 ≤ Int32.toInt x5 ∧ Int32.toInt x5 ≤ 255) (h_x7 : 0 ≤ Int32.toInt x7 ∧ Int32.toInt x7 ≤ 7) (hx0 : Int32.toInt x4 ≤ Int32.toInt vJ - 1) (hn10 : Int32.toInt x4 + 1 ≤ n10) (hn37 : 8 - Int32.toInt x7 ≤ n37) : ws_X1_countRows_92 post K10 K37 bD nJ vJ xB x2 x3 x4 x5 x6 x7 x8 vR := by
  have l0 := li_1
  have l1 := li_8
  intro v1 ev1
  have f2 : Int32.toInt (x4 * 8) = Int32.toInt x4 * 8 := ta_mulc _ _ (by decide) (by omega)
  rw [← ev1] at f2
  intro v3 ev3
  have f4 : Int32.toInt (v1 + x7) = Int32.toInt v1 + Int32.toInt x7 := ta_add _ _ (by omega)
  rw [← ev3] at f4
  refine And.intro (t_in (by omega)) ?_
  intro v5 ev5
  have hv5 := congrArg Int32.toInt ev5
  intro v7 ev7
  have f8 : Int32.toInt (x7 + 1) = Int32.toInt x7 + Int32.toInt (1 : Int32) := ta_add _ _ (by omega)
  rw [← ev7] at f8
  have f9 := tp_r v5
  have f10 := tp_r x6
  exact hK37 x2 v5 x4 x5 x6 v7 (upd vR v3.toNatClampNeg x8) h_x2 h_x4 h_x5 (by omega) hx0 hn10 (by omega)
set_option maxHeartbeats 8000000 in
set_option maxRecDepth 200000 in
theorem ts_X1_countRows_90 {post : Int32 → (Nat → Int32) → Prop} {K10 : Int32 → Int32 → Int32 → (Nat → Int32) → Prop} {K37 : Int32 → Int32 → Int32 → Int32 → Int32 → Int32 → (Nat → Int32) → Prop} {n10 n37 : Int} (bD : Int32) (nJ : Nat → Int32) (vJ : Int32) (xB : Nat → Int32) (h_tr_standings : 0 ≤ Int32.toInt bD ∧ Int32.toInt bD ≤ 8) (h_mk_many : 0 ≤ Int32.toInt vJ ∧ Int32.toInt vJ ≤ 6) (hpost : ∀ (r : Int32) (mk_rows' : Nat → Int32), post r mk_rows') (hK10 : ∀ (x2 : Int32) (x3 : Int32) (x4 : Int32) (vR : Nat → Int32), (0 ≤ Int32.toInt x2 ∧ Int32.toInt x2 ≤ 99) → (-1 ≤ Int32.toInt x4 ∧ Int32.toInt x4 ≤ 5) → (Int32.toInt x4 ≤ Int32.toInt vJ - 1) → (Int32.toInt x4 + 1 < n10) → K10 x2 x3 x4 vR) (hK37 : ∀ (x2 : Int32) (x3 : Int32) (x4 : Int32) (x5 : Int32) (x6 : Int32) (x7 : Int32) (vR : Nat → Int32), (0 ≤ Int32.toInt x2 ∧ Int32.toInt x2 ≤ 99) → (0 ≤ Int32.toInt x4 ∧ Int32.toInt x4 ≤ 5) → (0 ≤ Int32.toInt x5 ∧ Int32.toInt x5 ≤ 255) → (0 ≤ Int32.toInt x7 ∧ Int32.toInt x7 ≤ 8) → (Int32.toInt x4 ≤ Int32.toInt vJ - 1) → (Int32.toInt x4 + 1 ≤ n10) → (8 - Int32.toInt x7 < n37) → K37 x2 x3 x4 x5 x6 x7 vR) (x2 x3 x4 x5 x6 x7 k0 : Int32) (vR : Nat → Int32) (h_x2 : 0 ≤ Int32.toInt x2 ∧ Int32.toInt x2 ≤ 99) (h_x4 : 0 ≤ Int32.toInt x4 ∧ Int32.toInt x4 ≤ 5) (h_x5 : 0 ≤ Int32.toInt x5 ∧ Int32.toInt x5 ≤ 255) (h_x7 : 0 ≤ Int32.toInt x7 ∧ Int32.toInt x7 ≤ 7) (hx0 : Int32.toInt x4 ≤ Int32.toInt vJ - 1) (hn10 : Int32.toInt x4 + 1 ≤ n10) (hn37 : 8 - Int32.toInt x7 ≤ n37) : ws_X1_countRows_90 post K10 K37 bD nJ vJ xB x2 x3 x4 x5 x6 x7 k0 vR := by
  have f11 := tp_r x3
  have f12 := tp_r x6
  have f13 := tp_r k0
  exact ts_X1_countRows_92 bD nJ vJ xB h_tr_standings h_mk_many hpost hK10 hK37 x2 x3 x4 x5 x6 x7 k0 vR h_x2 h_x4 h_x5 h_x7 hx0 hn10 hn37
set_option maxHeartbeats 8000000 in
set_option maxRecDepth 200000 in
theorem ts_X1_countRows_37 {post : Int32 → (Nat → Int32) → Prop} {K10 : Int32 → Int32 → Int32 → (Nat → Int32) → Prop} {next : Int32 → Int32 → Int32 → Int32 → Int32 → Int32 → (Nat → Int32) → Prop} {n37 n10 : Int} (bD : Int32) (nJ : Nat → Int32) (vJ : Int32) (xB : Nat → Int32) (h_tr_standings : 0 ≤ Int32.toInt bD ∧ Int32.toInt bD ≤ 8) (h_mk_many : 0 ≤ Int32.toInt vJ ∧ Int32.toInt vJ ≤ 6) (hpost : ∀ (r : Int32) (mk_rows' : Nat → Int32), post r mk_rows') (hK10 : ∀ (x2 : Int32) (x3 : Int32) (x4 : Int32) (vR : Nat → Int32), (0 ≤ Int32.toInt x2 ∧ Int32.toInt x2 ≤ 99) → (-1 ≤ Int32.toInt x4 ∧ Int32.toInt x4 ≤ 5) → (Int32.toInt x4 ≤ Int32.toInt vJ - 1) → (Int32.toInt x4 + 1 < n10) → K10 x2 x3 x4 vR) (hKn : ∀ (x2 : Int32) (x3 : Int32) (x4 : Int32) (x5 : Int32) (x6 : Int32) (x7 : Int32) (vR : Nat → Int32), (0 ≤ Int32.toInt x2 ∧ Int32.toInt x2 ≤ 99) → (0 ≤ Int32.toInt x4 ∧ Int32.toInt x4 ≤ 5) → (0 ≤ Int32.toInt x5 ∧ Int32.toInt x5 ≤ 255) → (0 ≤ Int32.toInt x7 ∧ Int32.toInt x7 ≤ 8) → (Int32.toInt x4 ≤ Int32.toInt vJ - 1) → (Int32.toInt x4 + 1 ≤ n10) → (8 - Int32.toInt x7 < n37) → next x2 x3 x4 x5 x6 x7 vR) (x2 x3 x4 x5 x6 x7 : Int32) (vR : Nat → Int32) (h_x2 : 0 ≤ Int32.toInt x2 ∧ Int32.toInt x2 ≤ 99) (h_x4 : 0 ≤ Int32.toInt x4 ∧ Int32.toInt x4 ≤ 5) (h_x5 : 0 ≤ Int32.toInt x5 ∧ Int32.toInt x5 ≤ 255) (h_x7 : 0 ≤ Int32.toInt x7 ∧ Int32.toInt x7 ≤ 8) (hx0 : Int32.toInt x4 ≤ Int32.toInt vJ - 1) (hn10 : Int32.toInt x4 + 1 ≤ n10) (hn37 : 8 - Int32.toInt x7 ≤ n37) : ws_X1_countRows_37 post K10 next bD nJ vJ xB x2 x3 x4 x5 x6 x7 vR := by
  have l0 := li_m1
  have l1 := li_0
  have l2 := li_1
  have l3 := li_8
  refine And.intro (fun c14 => ?_) (fun c14 => ?_)
  · skip
    have c14 := (fa_le _ _).mp c14
    intro v15 ev15
    have f16 : Int32.toInt (x4 + (-1)) = Int32.toInt x4 + Int32.toInt ((-1) : Int32) := ta_add _ _ (by omega)
    rw [← ev15] at f16
    have f17 := tp_r x3
    exact hK10 x2 x3 v15 vR h_x2 (by omega) (by omega) (by omega)
  · skip
    have c14 := mt (fa_le _ _).mpr c14
    intro v18 ev18
    have f19 := ti_shr x5 x7 (by omega)
    have hv18 := congrArg Int32.toInt ev18
    have f21 := ti_andr v18 1 (by omega)
    have f22 := ti_andl v18 1 (by omega)
    refine And.intro (fun c20 => ?_) (fun c20 => ?_)
    · skip
      have c20 := (fa_eq _ _).mp c20
      have f23 := tp_r x3
      have f24 := tp_r x6
      exact ts_X1_countRows_92 bD nJ vJ xB h_tr_standings h_mk_many hpost hK10 hKn x2 x3 x4 x5 x6 x7 0 vR h_x2 h_x4 h_x5 (by omega) hx0 hn10 hn37
    · skip
      have c20 := mt (fa_eq _ _).mpr c20
      have f26 : Int32.toInt (vJ - 1) = Int32.toInt vJ - Int32.toInt (1 : Int32) := ta_sub _ _ (by omega)
      refine And.intro (fun c25 => ?_) (fun c25 => ?_)
      · skip
        have c25 := mt (fa_eq _ _).mpr c25
        intro v27 ev27
        have f28 : Int32.toInt (x4 + 1) = Int32.toInt x4 + Int32.toInt (1 : Int32) := ta_add _ _ (by omega)
        rw [← ev27] at f28
        intro v29 ev29
        have f30 : Int32.toInt (v27 * 8) = Int32.toInt v27 * 8 := ta_mulc _ _ (by decide) (by omega)
        rw [← ev29] at f30
        intro v31 ev31
        have f32 : Int32.toInt (v29 + x7) = Int32.toInt v29 + Int32.toInt x7 := ta_add _ _ (by omega)
        rw [← ev31] at f32
        refine And.intro (t_in (by omega)) ?_
        intro v33 ev33
        have hv33 := congrArg Int32.toInt ev33
        have f35 := tp_r x3
        have f36 := tp_r x6
        have f37 := tp_r v33
        exact ts_X1_countRows_90 bD nJ vJ xB h_tr_standings h_mk_many hpost hK10 hKn x2 x3 x4 x5 x6 x7 v33 vR h_x2 h_x4 h_x5 (by omega) hx0 hn10 hn37
      · skip
        have c25 := (fa_eq _ _).mp c25
        have f38 := tp_r x3
        have f39 := tp_r x6
        exact ts_X1_countRows_90 bD nJ vJ xB h_tr_standings h_mk_many hpost hK10 hKn x2 x3 x4 x5 x6 x7 1 vR h_x2 h_x4 h_x5 (by omega) hx0 hn10 hn37
set_option maxHeartbeats 8000000 in
set_option maxRecDepth 200000 in
theorem tb_X1_countRows_37 {post : Int32 → (Nat → Int32) → Prop} {K10 : Int32 → Int32 → Int32 → (Nat → Int32) → Prop} {n10 : Int} (bD : Int32) (nJ : Nat → Int32) (vJ : Int32) (xB : Nat → Int32) (h_tr_standings : 0 ≤ Int32.toInt bD ∧ Int32.toInt bD ≤ 8) (h_mk_many : 0 ≤ Int32.toInt vJ ∧ Int32.toInt vJ ≤ 6) (hpost : ∀ (r : Int32) (mk_rows' : Nat → Int32), post r mk_rows') (hK10 : ∀ (x2 : Int32) (x3 : Int32) (x4 : Int32) (vR : Nat → Int32), (0 ≤ Int32.toInt x2 ∧ Int32.toInt x2 ≤ 99) → (-1 ≤ Int32.toInt x4 ∧ Int32.toInt x4 ≤ 5) → (Int32.toInt x4 ≤ Int32.toInt vJ - 1) → (Int32.toInt x4 + 1 < n10) → K10 x2 x3 x4 vR) : ∀ (n : Nat) (x2 x3 x4 x5 x6 x7 : Int32) (vR : Nat → Int32), (0 ≤ Int32.toInt x2 ∧ Int32.toInt x2 ≤ 99) → (0 ≤ Int32.toInt x4 ∧ Int32.toInt x4 ≤ 5) → (0 ≤ Int32.toInt x5 ∧ Int32.toInt x5 ≤ 255) → (0 ≤ Int32.toInt x7 ∧ Int32.toInt x7 ≤ 8) → (Int32.toInt x4 ≤ Int32.toInt vJ - 1) → (Int32.toInt x4 + 1 ≤ n10) → (8 - Int32.toInt x7 < (n : Int)) → wb_X1_countRows_37 post K10 bD nJ vJ xB n x2 x3 x4 x5 x6 x7 vR := by
  intro n
  induction n with
  | zero =>
    intro x2 x3 x4 x5 x6 x7 vR h_x2 h_x4 h_x5 h_x7 hx0 hn10 hm
    exfalso; omega
  | succ n ih =>
    intro x2 x3 x4 x5 x6 x7 vR h_x2 h_x4 h_x5 h_x7 hx0 hn10 hm
    exact ts_X1_countRows_37 bD nJ vJ xB h_tr_standings h_mk_many hpost hK10 ih x2 x3 x4 x5 x6 x7 vR h_x2 h_x4 h_x5 h_x7 hx0 hn10 (by omega)
set_option maxHeartbeats 8000000 in
set_option maxRecDepth 200000 in
theorem ts_X1_countRows_10 {post : Int32 → (Nat → Int32) → Prop} {next : Int32 → Int32 → Int32 → (Nat → Int32) → Prop} {n10 : Int} (bD : Int32) (nJ : Nat → Int32) (vJ : Int32) (xB : Nat → Int32) (h_tr_standings : 0 ≤ Int32.toInt bD ∧ Int32.toInt bD ≤ 8) (h_mk_many : 0 ≤ Int32.toInt vJ ∧ Int32.toInt vJ ≤ 6) (hpost : ∀ (r : Int32) (mk_rows' : Nat → Int32), post r mk_rows') (hKn : ∀ (x2 : Int32) (x3 : Int32) (x4 : Int32) (vR : Nat → Int32), (0 ≤ Int32.toInt x2 ∧ Int32.toInt x2 ≤ 99) → (-1 ≤ Int32.toInt x4 ∧ Int32.toInt x4 ≤ 5) → (Int32.toInt x4 ≤ Int32.toInt vJ - 1) → (Int32.toInt x4 + 1 < n10) → next x2 x3 x4 vR) (x2 x3 x4 : Int32) (vR : Nat → Int32) (h_x2 : 0 ≤ Int32.toInt x2 ∧ Int32.toInt x2 ≤ 99) (h_x4 : -1 ≤ Int32.toInt x4 ∧ Int32.toInt x4 ≤ 5) (hx0 : Int32.toInt x4 ≤ Int32.toInt vJ - 1) (hn10 : Int32.toInt x4 + 1 ≤ n10) : ws_X1_countRows_10 post next bD nJ vJ xB x2 x3 x4 vR := by
  have l0 := li_0
  refine And.intro (fun c40 => ?_) (fun c40 => ?_)
  · skip
    have c40 := (fa_lt _ _).mp c40
    exact hpost _ _ 
  · skip
    have c40 := mt (fa_lt _ _).mpr c40
    refine And.intro (t_in (by omega)) ?_
    intro v41 ev41
    have hv41 := congrArg Int32.toInt ev41
    refine t_X3_standingsAt h_x2 h_tr_standings (fun r43 h_r43 => ?_)
    have f44 := tp_r x3
    exact ⟨10, tb_X1_countRows_37 bD nJ vJ xB h_tr_standings h_mk_many hpost hKn _ x2 0 x4 r43 x3 0 vR h_x2 (by omega) h_r43 (by omega) hx0 hn10 (by omega)⟩
set_option maxHeartbeats 8000000 in
set_option maxRecDepth 200000 in
theorem tb_X1_countRows_10 {post : Int32 → (Nat → Int32) → Prop} (bD : Int32) (nJ : Nat → Int32) (vJ : Int32) (xB : Nat → Int32) (h_tr_standings : 0 ≤ Int32.toInt bD ∧ Int32.toInt bD ≤ 8) (h_mk_many : 0 ≤ Int32.toInt vJ ∧ Int32.toInt vJ ≤ 6) (hpost : ∀ (r : Int32) (mk_rows' : Nat → Int32), post r mk_rows') : ∀ (n : Nat) (x2 x3 x4 : Int32) (vR : Nat → Int32), (0 ≤ Int32.toInt x2 ∧ Int32.toInt x2 ≤ 99) → (-1 ≤ Int32.toInt x4 ∧ Int32.toInt x4 ≤ 5) → (Int32.toInt x4 ≤ Int32.toInt vJ - 1) → (Int32.toInt x4 + 1 < (n : Int)) → wb_X1_countRows_10 post bD nJ vJ xB n x2 x3 x4 vR := by
  intro n
  induction n with
  | zero =>
    intro x2 x3 x4 vR h_x2 h_x4 hx0 hm
    exfalso; omega
  | succ n ih =>
    intro x2 x3 x4 vR h_x2 h_x4 hx0 hm
    exact ts_X1_countRows_10 bD nJ vJ xB h_tr_standings h_mk_many hpost ih x2 x3 x4 vR h_x2 h_x4 hx0 (by omega)
set_option maxHeartbeats 8000000 in
set_option maxRecDepth 200000 in
theorem t_X1_countRows {post : Int32 → (Nat → Int32) → Prop} {p1 bD : Int32} {nJ : Nat → Int32} {vJ : Int32} {xB vR : Nat → Int32} (h_p1 : 0 ≤ Int32.toInt p1 ∧ Int32.toInt p1 ≤ 99) (h_tr_standings : 0 ≤ Int32.toInt bD ∧ Int32.toInt bD ≤ 8) (h_mk_many : 0 ≤ Int32.toInt vJ ∧ Int32.toInt vJ ≤ 6) (hpost : ∀ (r : Int32) (mk_rows' : Nat → Int32), post r mk_rows') : wp_X1_countRows post p1 bD nJ vJ xB vR := by
  have l0 := li_0
  have l1 := li_1
  intro v45 ev45
  have f46 : Int32.toInt (vJ - 1) = Int32.toInt vJ - Int32.toInt (1 : Int32) := ta_sub _ _ (by omega)
  rw [← ev45] at f46
  exact ⟨8, tb_X1_countRows_10 bD nJ vJ xB h_tr_standings h_mk_many hpost _ p1 0 v45 vR h_p1 (by omega) (by omega) (by omega)⟩
set_option maxHeartbeats 8000000 in
set_option maxRecDepth 200000 in
theorem ts_X1_firstFor_29 {post : Int32 → Prop} {K2 : Int32 → Int32 → Int32 → Prop} {n2 : Int} (vR : Nat → Int32) (hpost : ∀ (r : Int32) , (-1 ≤ Int32.toInt r ∧ Int32.toInt r ≤ 7) → post r) (hK2 : ∀ (x1 : Int32) (x2 : Int32) (x3 : Int32), (0 ≤ Int32.toInt x1 ∧ Int32.toInt x1 ≤ 5) → (-1 ≤ Int32.toInt x2 ∧ Int32.toInt x2 ≤ 7) → (0 ≤ Int32.toInt x3 ∧ Int32.toInt x3 ≤ 8) → (8 - Int32.toInt x3 < n2) → K2 x1 x2 x3) (x1 x2 x3 : Int32) (h_x1 : 0 ≤ Int32.toInt x1 ∧ Int32.toInt x1 ≤ 5) (h_x2 : -1 ≤ Int32.toInt x2 ∧ Int32.toInt x2 ≤ 7) (h_x3 : 0 ≤ Int32.toInt x3 ∧ Int32.toInt x3 ≤ 7) (hn2 : 8 - Int32.toInt x3 ≤ n2) : ws_X1_firstFor_29 post K2 vR x1 x2 x3 := by
  have l0 := li_1
  intro v1 ev1
  have f2 : Int32.toInt (x3 + 1) = Int32.toInt x3 + Int32.toInt (1 : Int32) := ta_add _ _ (by omega)
  rw [← ev1] at f2
  exact hK2 x1 x2 v1 h_x1 h_x2 (by omega) (by omega)
set_option maxHeartbeats 8000000 in
set_option maxRecDepth 200000 in
theorem ts_X1_firstFor_2 {post : Int32 → Prop} {next : Int32 → Int32 → Int32 → Prop} {n2 : Int} (vR : Nat → Int32) (hpost : ∀ (r : Int32) , (-1 ≤ Int32.toInt r ∧ Int32.toInt r ≤ 7) → post r) (hKn : ∀ (x1 : Int32) (x2 : Int32) (x3 : Int32), (0 ≤ Int32.toInt x1 ∧ Int32.toInt x1 ≤ 5) → (-1 ≤ Int32.toInt x2 ∧ Int32.toInt x2 ≤ 7) → (0 ≤ Int32.toInt x3 ∧ Int32.toInt x3 ≤ 8) → (8 - Int32.toInt x3 < n2) → next x1 x2 x3) (x1 x2 x3 : Int32) (h_x1 : 0 ≤ Int32.toInt x1 ∧ Int32.toInt x1 ≤ 5) (h_x2 : -1 ≤ Int32.toInt x2 ∧ Int32.toInt x2 ≤ 7) (h_x3 : 0 ≤ Int32.toInt x3 ∧ Int32.toInt x3 ≤ 8) (hn2 : 8 - Int32.toInt x3 ≤ n2) : ws_X1_firstFor_2 post next vR x1 x2 x3 := by
  have l0 := li_m1
  have l1 := li_0
  have l2 := li_8
  refine And.intro (fun c3 => ?_) (fun c3 => ?_)
  · skip
    have c3 := (fa_le _ _).mp c3
    exact hpost _ (by omega)
  · skip
    have c3 := mt (fa_le _ _).mpr c3
    refine And.intro (fun c4 => ?_) (fun c4 => ?_)
    · skip
      have c4 := (fa_eq _ _).mp c4
      exact ts_X1_firstFor_29 vR hpost hKn x1 x2 x3 h_x1 h_x2 (by omega) hn2
    · skip
      have c4 := mt (fa_eq _ _).mpr c4
      intro v5 ev5
      have f6 : Int32.toInt (x1 * 8) = Int32.toInt x1 * 8 := ta_mulc _ _ (by decide) (by omega)
      rw [← ev5] at f6
      intro v7 ev7
      have f8 : Int32.toInt (v5 + x3) = Int32.toInt v5 + Int32.toInt x3 := ta_add _ _ (by omega)
      rw [← ev7] at f8
      refine And.intro (t_in (by omega)) ?_
      refine And.intro (fun c9 => ?_) (fun c9 => ?_)
      · skip
        have c9 := (fa_le _ _).mp c9
        exact ts_X1_firstFor_29 vR hpost hKn x1 x2 x3 h_x1 h_x2 (by omega) hn2
      · skip
        have c9 := mt (fa_le _ _).mpr c9
        exact hpost _ (by omega)
set_option maxHeartbeats 8000000 in
set_option maxRecDepth 200000 in
theorem tb_X1_firstFor_2 {post : Int32 → Prop} (vR : Nat → Int32) (hpost : ∀ (r : Int32) , (-1 ≤ Int32.toInt r ∧ Int32.toInt r ≤ 7) → post r) : ∀ (n : Nat) (x1 x2 x3 : Int32), (0 ≤ Int32.toInt x1 ∧ Int32.toInt x1 ≤ 5) → (-1 ≤ Int32.toInt x2 ∧ Int32.toInt x2 ≤ 7) → (0 ≤ Int32.toInt x3 ∧ Int32.toInt x3 ≤ 8) → (8 - Int32.toInt x3 < (n : Int)) → wb_X1_firstFor_2 post vR n x1 x2 x3 := by
  intro n
  induction n with
  | zero =>
    intro x1 x2 x3 h_x1 h_x2 h_x3 hm
    exfalso; omega
  | succ n ih =>
    intro x1 x2 x3 h_x1 h_x2 h_x3 hm
    exact ts_X1_firstFor_2 vR hpost ih x1 x2 x3 h_x1 h_x2 h_x3 (by omega)
set_option maxHeartbeats 8000000 in
set_option maxRecDepth 200000 in
theorem t_X1_firstFor {post : Int32 → Prop} {p0 p1 : Int32} {vR : Nat → Int32} (h_p0 : 0 ≤ Int32.toInt p0 ∧ Int32.toInt p0 ≤ 5) (h_p1 : -1 ≤ Int32.toInt p1 ∧ Int32.toInt p1 ≤ 7) (hpost : ∀ (r : Int32) , (-1 ≤ Int32.toInt r ∧ Int32.toInt r ≤ 7) → post r) : wp_X1_firstFor post p0 p1 vR := by
  have l0 := li_0
  exact ⟨10, tb_X1_firstFor_2 vR hpost _ p0 p1 0 h_p0 h_p1 (by omega) (by omega)⟩
set_option maxHeartbeats 8000000 in
set_option maxRecDepth 200000 in
theorem ts_X9_tellLeastMarks_16 {post : Int32 → (Nat → Int32) → Prop} {next : Int32 → Int32 → Int32 → (Nat → Int32) → Prop} {n16 : Int} (vJ : Int32) (vR : Nat → Int32) (h_mk_many : 0 ≤ Int32.toInt vJ ∧ Int32.toInt vJ ≤ 6) (hpost : ∀ (ro_size' : Int32) (ro_numbers' : Nat → Int32), (0 ≤ Int32.toInt ro_size' ∧ Int32.toInt ro_size' ≤ 16) → post ro_size' ro_numbers') (hKn : ∀ (x2 : Int32) (x3 : Int32) (qF : Int32) (jJ : Nat → Int32), (-1 ≤ Int32.toInt x2 ∧ Int32.toInt x2 ≤ 7) → (0 ≤ Int32.toInt x3 ∧ Int32.toInt x3 ≤ 6) → (0 ≤ Int32.toInt qF ∧ Int32.toInt qF ≤ 16) → (6 - Int32.toInt x3 < n16) → next x2 x3 qF jJ) (x2 x3 qF : Int32) (jJ : Nat → Int32) (h_x2 : -1 ≤ Int32.toInt x2 ∧ Int32.toInt x2 ≤ 7) (h_x3 : 0 ≤ Int32.toInt x3 ∧ Int32.toInt x3 ≤ 6) (h_ro_size : 0 ≤ Int32.toInt qF ∧ Int32.toInt qF ≤ 16) (hn16 : 6 - Int32.toInt x3 ≤ n16) : ws_X9_tellLeastMarks_16 post next vJ vR x2 x3 qF jJ := by
  have l0 := li_1
  have l1 := li_16
  refine And.intro (fun c1 => ?_) (fun c1 => ?_)
  · skip
    have c1 := (fa_le _ _).mp c1
    exact hpost _ _ h_ro_size
  · skip
    have c1 := mt (fa_le _ _).mpr c1
    refine t_X1_firstFor (by omega) h_x2 (fun r2 h_r2 => ?_)
    refine And.intro (fun c3 => ?_) (fun c3 => ?_)
    · skip
      have c3 := (fa_le _ _).mp c3
      intro v4 ev4
      have f5 : Int32.toInt (x3 + 1) = Int32.toInt x3 + Int32.toInt (1 : Int32) := ta_add _ _ (by omega)
      rw [← ev4] at f5
      exact hKn r2 v4 qF jJ h_r2 (by omega) h_ro_size (by omega)
    · skip
      have c3 := mt (fa_le _ _).mpr c3
      refine And.intro (t_in (by omega)) ?_
      intro v6 ev6
      have f7 : Int32.toInt (qF + 1) = Int32.toInt qF + Int32.toInt (1 : Int32) := ta_add _ _ (by omega)
      rw [← ev6] at f7
      intro v8 ev8
      have f9 : Int32.toInt (x3 + 1) = Int32.toInt x3 + Int32.toInt (1 : Int32) := ta_add _ _ (by omega)
      rw [← ev8] at f9
      exact hKn r2 v8 v6 (upd jJ qF.toNatClampNeg r2) h_r2 (by omega) (by omega) (by omega)
set_option maxHeartbeats 8000000 in
set_option maxRecDepth 200000 in
theorem tb_X9_tellLeastMarks_16 {post : Int32 → (Nat → Int32) → Prop} (vJ : Int32) (vR : Nat → Int32) (h_mk_many : 0 ≤ Int32.toInt vJ ∧ Int32.toInt vJ ≤ 6) (hpost : ∀ (ro_size' : Int32) (ro_numbers' : Nat → Int32), (0 ≤ Int32.toInt ro_size' ∧ Int32.toInt ro_size' ≤ 16) → post ro_size' ro_numbers') : ∀ (n : Nat) (x2 x3 qF : Int32) (jJ : Nat → Int32), (-1 ≤ Int32.toInt x2 ∧ Int32.toInt x2 ≤ 7) → (0 ≤ Int32.toInt x3 ∧ Int32.toInt x3 ≤ 6) → (0 ≤ Int32.toInt qF ∧ Int32.toInt qF ≤ 16) → (6 - Int32.toInt x3 < (n : Int)) → wb_X9_tellLeastMarks_16 post vJ vR n x2 x3 qF jJ := by
  intro n
  induction n with
  | zero =>
    intro x2 x3 qF jJ h_x2 h_x3 h_ro_size hm
    exfalso; omega
  | succ n ih =>
    intro x2 x3 qF jJ h_x2 h_x3 h_ro_size hm
    exact ts_X9_tellLeastMarks_16 vJ vR h_mk_many hpost ih x2 x3 qF jJ h_x2 h_x3 h_ro_size (by omega)
set_option maxHeartbeats 8000000 in
set_option maxRecDepth 200000 in
theorem t_X9_tellLeastMarks {post : Int32 → (Nat → Int32) → Prop} {p0 qF : Int32} {jJ : Nat → Int32} {vJ : Int32} {vR : Nat → Int32} (h_ro_size : 0 ≤ Int32.toInt qF ∧ Int32.toInt qF ≤ 16) (h_mk_many : 0 ≤ Int32.toInt vJ ∧ Int32.toInt vJ ≤ 6) (hpost : ∀ (ro_size' : Int32) (ro_numbers' : Nat → Int32), (0 ≤ Int32.toInt ro_size' ∧ Int32.toInt ro_size' ≤ 16) → post ro_size' ro_numbers') : wp_X9_tellLeastMarks post p0 qF jJ vJ vR := by
  have l0 := li_m1
  have l1 := li_0
  have f11 := tp_r p0
  refine And.intro (fun c10 => ?_) (fun c10 => ?_)
  · skip
    have c10 := mt (fa_eq _ _).mpr c10
    exact ⟨8, tb_X9_tellLeastMarks_16 vJ vR h_mk_many hpost _ (-1) 0 0 jJ (by omega) (by omega) (by omega) (by omega)⟩
  · skip
    have c10 := (fa_eq _ _).mp c10
    exact hpost _ _ (by omega)
set_option maxHeartbeats 8000000 in
set_option maxRecDepth 200000 in
theorem ts_X9_grass_65 {post : Int32 → Int32 → Int32 → Int32 → Int32 → (Nat → Int32) → Int32 → (Nat → Int32) → (Nat → Int32) → Prop} (qM : Nat → Int32) (bD : Int32) (nJ : Nat → Int32) (h_tx_signs : ∀ k : Nat, 0 ≤ Int32.toInt (qM k) ∧ Int32.toInt (qM k) ≤ 65535) (h_tr_standings : 0 ≤ Int32.toInt bD ∧ Int32.toInt bD ≤ 8) (hpost : ∀ (r : Int32) (tx_length' : Int32) (tx_place' : Int32) (tx_stop' : Int32) (ro_size' : Int32) (ro_numbers' : Nat → Int32) (mk_many' : Int32) (mk_at' : Nat → Int32) (mk_rows' : Nat → Int32), (0 ≤ Int32.toInt tx_length' ∧ Int32.toInt tx_length' ≤ 0) → (0 ≤ Int32.toInt tx_place' ∧ Int32.toInt tx_place' ≤ 80) → (0 ≤ Int32.toInt tx_stop' ∧ Int32.toInt tx_stop' ≤ 80) → (0 ≤ Int32.toInt ro_size' ∧ Int32.toInt ro_size' ≤ 16) → (0 ≤ Int32.toInt mk_many' ∧ Int32.toInt mk_many' ≤ 6) → post r tx_length' tx_place' tx_stop' ro_size' ro_numbers' mk_many' mk_at' mk_rows') (x2 qI qJ rY qF : Int32) (jJ : Nat → Int32) (vJ : Int32) (xB vR : Nat → Int32) (h_tx_length : 0 ≤ Int32.toInt qI ∧ Int32.toInt qI ≤ 80) (h_tx_place : 0 ≤ Int32.toInt qJ ∧ Int32.toInt qJ ≤ 80) (h_tx_stop : 0 ≤ Int32.toInt rY ∧ Int32.toInt rY ≤ 80) (h_ro_size : 0 ≤ Int32.toInt qF ∧ Int32.toInt qF ≤ 16) (h_mk_many : 0 ≤ Int32.toInt vJ ∧ Int32.toInt vJ ≤ 6) : ws_X9_grass_65 post qM bD nJ x2 qI qJ rY qF jJ vJ xB vR := by
  have l0 := li_0
  exact hpost _ _ _ _ _ _ _ _ _ (by omega) h_tx_place h_tx_stop h_ro_size h_mk_many
set_option maxHeartbeats 8000000 in
set_option maxRecDepth 200000 in
theorem t_X9_grass {post : Int32 → Int32 → Int32 → Int32 → Int32 → (Nat → Int32) → Int32 → (Nat → Int32) → (Nat → Int32) → Prop} {p0 qI qJ rY : Int32} {qM : Nat → Int32} {bD : Int32} {nJ : Nat → Int32} {qF : Int32} {jJ : Nat → Int32} {vJ : Int32} {xB vR : Nat → Int32} (h_tx_length : 0 ≤ Int32.toInt qI ∧ Int32.toInt qI ≤ 80) (h_tx_place : 0 ≤ Int32.toInt qJ ∧ Int32.toInt qJ ≤ 80) (h_tx_stop : 0 ≤ Int32.toInt rY ∧ Int32.toInt rY ≤ 80) (h_tx_signs : ∀ k : Nat, 0 ≤ Int32.toInt (qM k) ∧ Int32.toInt (qM k) ≤ 65535) (h_tr_standings : 0 ≤ Int32.toInt bD ∧ Int32.toInt bD ≤ 8) (h_ro_size : 0 ≤ Int32.toInt qF ∧ Int32.toInt qF ≤ 16) (h_mk_many : 0 ≤ Int32.toInt vJ ∧ Int32.toInt vJ ≤ 6) (hpost : ∀ (r : Int32) (tx_length' : Int32) (tx_place' : Int32) (tx_stop' : Int32) (ro_size' : Int32) (ro_numbers' : Nat → Int32) (mk_many' : Int32) (mk_at' : Nat → Int32) (mk_rows' : Nat → Int32), (0 ≤ Int32.toInt tx_length' ∧ Int32.toInt tx_length' ≤ 0) → (0 ≤ Int32.toInt tx_place' ∧ Int32.toInt tx_place' ≤ 80) → (0 ≤ Int32.toInt tx_stop' ∧ Int32.toInt tx_stop' ≤ 80) → (0 ≤ Int32.toInt ro_size' ∧ Int32.toInt ro_size' ≤ 16) → (0 ≤ Int32.toInt mk_many' ∧ Int32.toInt mk_many' ≤ 6) → post r tx_length' tx_place' tx_stop' ro_size' ro_numbers' mk_many' mk_at' mk_rows') : wp_X9_grass post p0 qI qJ rY qM bD nJ qF jJ vJ xB vR := by
  have l0 := li_m1
  have l1 := li_m100
  have l2 := li_0
  have l3 := li_80
  have l4 := li_99
  have f2 := tp_r p0
  refine And.intro (fun c1 => ?_) (fun c1 => ?_)
  · skip
    have c1 := (fa_lt _ _).mp c1
    exact ts_X9_grass_65 qM bD nJ h_tx_signs h_tr_standings hpost (-100) qI qJ rY qF jJ vJ xB vR h_tx_length h_tx_place h_tx_stop h_ro_size h_mk_many
  · skip
    have c1 := mt (fa_lt _ _).mpr c1
    refine And.intro (fun c3 => ?_) (fun c3 => ?_)
    · skip
      have c3 := (fa_lt _ _).mp c3
      exact ts_X9_grass_65 qM bD nJ h_tx_signs h_tr_standings hpost (-100) qI qJ rY qF jJ vJ xB vR h_tx_length h_tx_place h_tx_stop h_ro_size h_mk_many
    · skip
      have c3 := mt (fa_lt _ _).mpr c3
      intro v4 ev4
      have f5 := ti_min qI (80 : Int32)
      have hv4 := congrArg Int32.toInt ev4
      refine t_X1_readAll h_tx_length (by omega) (by omega) h_tx_signs h_mk_many (fun r9 yM mk_many_7 mk_at_8 h_r9 h_tx_place_6 h_mk_many_7 => ?_)
      refine And.intro (fun c10 => ?_) (fun c10 => ?_)
      · skip
        have c10 := (fa_eq _ _).mp c10
        have f11 : Int32.toInt ((-1) - yM) = Int32.toInt ((-1) : Int32) - Int32.toInt yM := ta_sub _ _ (by omega)
        obtain ⟨w12, ew12⟩ : ∃ w9 : Int32, w9 = (-1) - yM := ⟨_, rfl⟩
        rw [← ew12] at f11
        have key9 := ts_X9_grass_65 qM bD nJ h_tx_signs h_tr_standings hpost w12 qI yM v4 qF jJ mk_many_7 mk_at_8 vR h_tx_length h_tx_place_6 (by omega) h_ro_size h_mk_many_7
        subst ew12
        exact key9
      · skip
        have c10 := mt (fa_eq _ _).mpr c10
        refine t_X1_countRows (by omega) h_tr_standings h_mk_many_7 (fun r14 mk_rows_13 => ?_)
        refine t_X9_tellLeastMarks h_ro_size h_mk_many_7 (fun ro_size_15 ro_numbers_16 h_ro_size_15 => ?_)
        have f17 := tp_r r14
        exact ts_X9_grass_65 qM bD nJ h_tx_signs h_tr_standings hpost r14 qI yM v4 ro_size_15 ro_numbers_16 mk_many_7 mk_at_8 mk_rows_13 h_tx_length h_tx_place_6 (by omega) h_ro_size_15 h_mk_many_7
set_option maxHeartbeats 8000000 in
set_option maxRecDepth 200000 in
theorem ts_X5_isFitting_34 {post : Int32 → Prop} {K2 : Int32 → Int32 → Int32 → Prop} {n2 : Int} (rX : Nat → Int32) (bD : Int32) (h_pl_near : ∀ k : Nat, 0 ≤ Int32.toInt (rX k) ∧ Int32.toInt (rX k) ≤ 65535) (h_tr_standings : 0 ≤ Int32.toInt bD ∧ Int32.toInt bD ≤ 8) (hpost : ∀ (r : Int32) , (0 ≤ Int32.toInt r ∧ Int32.toInt r ≤ 1) → post r) (hK2 : ∀ (x1 : Int32) (x2 : Int32) (x3 : Int32), (0 ≤ Int32.toInt x1 ∧ Int32.toInt x1 ≤ 255) → (0 ≤ Int32.toInt x2 ∧ Int32.toInt x2 ≤ 65535) → (0 ≤ Int32.toInt x3 ∧ Int32.toInt x3 ≤ 8) → (8 - Int32.toInt x3 < n2) → K2 x1 x2 x3) (x1 x2 x3 : Int32) (h_x1 : 0 ≤ Int32.toInt x1 ∧ Int32.toInt x1 ≤ 255) (h_x2 : 0 ≤ Int32.toInt x2 ∧ Int32.toInt x2 ≤ 65535) (h_x3 : 0 ≤ Int32.toInt x3 ∧ Int32.toInt x3 ≤ 7) (hn2 : 8 - Int32.toInt x3 ≤ n2) : ws_X5_isFitting_34 post K2 rX bD x1 x2 x3 := by
  have l0 := li_1
  intro v1 ev1
  have f2 : Int32.toInt (x3 + 1) = Int32.toInt x3 + Int32.toInt (1 : Int32) := ta_add _ _ (by omega)
  rw [← ev1] at f2
  exact hK2 x1 x2 v1 h_x1 h_x2 (by omega) (by omega)
set_option maxHeartbeats 8000000 in
set_option maxRecDepth 200000 in
theorem ts_X5_isFitting_2 {post : Int32 → Prop} {next : Int32 → Int32 → Int32 → Prop} {n2 : Int} (rX : Nat → Int32) (bD : Int32) (h_pl_near : ∀ k : Nat, 0 ≤ Int32.toInt (rX k) ∧ Int32.toInt (rX k) ≤ 65535) (h_tr_standings : 0 ≤ Int32.toInt bD ∧ Int32.toInt bD ≤ 8) (hpost : ∀ (r : Int32) , (0 ≤ Int32.toInt r ∧ Int32.toInt r ≤ 1) → post r) (hKn : ∀ (x1 : Int32) (x2 : Int32) (x3 : Int32), (0 ≤ Int32.toInt x1 ∧ Int32.toInt x1 ≤ 255) → (0 ≤ Int32.toInt x2 ∧ Int32.toInt x2 ≤ 65535) → (0 ≤ Int32.toInt x3 ∧ Int32.toInt x3 ≤ 8) → (8 - Int32.toInt x3 < n2) → next x1 x2 x3) (x1 x2 x3 : Int32) (h_x1 : 0 ≤ Int32.toInt x1 ∧ Int32.toInt x1 ≤ 255) (h_x2 : 0 ≤ Int32.toInt x2 ∧ Int32.toInt x2 ≤ 65535) (h_x3 : 0 ≤ Int32.toInt x3 ∧ Int32.toInt x3 ≤ 8) (hn2 : 8 - Int32.toInt x3 ≤ n2) : ws_X5_isFitting_2 post next rX bD x1 x2 x3 := by
  have l0 := li_0
  have l1 := li_1
  refine And.intro (fun c3 => ?_) (fun c3 => ?_)
  · skip
    have c3 := (fa_le _ _).mp c3
    refine t_X5_reachedBy h_x1 h_pl_near h_tr_standings (fun r4 h_r4 => ?_)
    have f7 := ti_andl x2 (r4 ^^^ (-1)) (by omega)
    refine And.intro (fun c5 => ?_) (fun c5 => ?_)
    · skip
      have c5 := mt (fa_eq _ _).mpr c5
      exact hpost _ (by omega)
    · skip
      have c5Z := c5
      have c5 := (fa_eq _ _).mp c5
      have s8 := ti_subset x2 r4 (c5Z) (by omega)
      exact hpost _ (by omega)
  · skip
    have c3 := mt (fa_le _ _).mpr c3
    intro v9 ev9
    have f10 := ti_shr x1 x3 (by omega)
    have hv9 := congrArg Int32.toInt ev9
    have f12 := ti_andr v9 1 (by omega)
    have f13 := ti_andl v9 1 (by omega)
    refine And.intro (fun c11 => ?_) (fun c11 => ?_)
    · skip
      have c11 := (fa_eq _ _).mp c11
      exact ts_X5_isFitting_34 rX bD h_pl_near h_tr_standings hpost hKn x1 x2 x3 h_x1 h_x2 (by omega) hn2
    · skip
      have c11 := mt (fa_eq _ _).mpr c11
      refine And.intro (t_in (by omega)) ?_
      intro v14 ev14
      have f15 := h_pl_near x3.toNatClampNeg
      have hv14 := congrArg Int32.toInt ev14
      have f17 := ti_andr v14 x2 (by omega)
      have f18 := ti_andl v14 x2 (by omega)
      refine And.intro (fun c16 => ?_) (fun c16 => ?_)
      · skip
        have c16 := mt (fa_eq _ _).mpr c16
        exact ts_X5_isFitting_34 rX bD h_pl_near h_tr_standings hpost hKn x1 x2 x3 h_x1 h_x2 (by omega) hn2
      · skip
        have c16 := (fa_eq _ _).mp c16
        exact hpost _ (by omega)
set_option maxHeartbeats 8000000 in
set_option maxRecDepth 200000 in
theorem tb_X5_isFitting_2 {post : Int32 → Prop} (rX : Nat → Int32) (bD : Int32) (h_pl_near : ∀ k : Nat, 0 ≤ Int32.toInt (rX k) ∧ Int32.toInt (rX k) ≤ 65535) (h_tr_standings : 0 ≤ Int32.toInt bD ∧ Int32.toInt bD ≤ 8) (hpost : ∀ (r : Int32) , (0 ≤ Int32.toInt r ∧ Int32.toInt r ≤ 1) → post r) : ∀ (n : Nat) (x1 x2 x3 : Int32), (0 ≤ Int32.toInt x1 ∧ Int32.toInt x1 ≤ 255) → (0 ≤ Int32.toInt x2 ∧ Int32.toInt x2 ≤ 65535) → (0 ≤ Int32.toInt x3 ∧ Int32.toInt x3 ≤ 8) → (8 - Int32.toInt x3 < (n : Int)) → wb_X5_isFitting_2 post rX bD n x1 x2 x3 := by
  intro n
  induction n with
  | zero =>
    intro x1 x2 x3 h_x1 h_x2 h_x3 hm
    exfalso; omega
  | succ n ih =>
    intro x1 x2 x3 h_x1 h_x2 h_x3 hm
    exact ts_X5_isFitting_2 rX bD h_pl_near h_tr_standings hpost ih x1 x2 x3 h_x1 h_x2 h_x3 (by omega)
set_option maxHeartbeats 8000000 in
set_option maxRecDepth 200000 in
theorem t_X5_isFitting {post : Int32 → Prop} {p0 p1 : Int32} {rX : Nat → Int32} {bD : Int32} (h_p0 : 0 ≤ Int32.toInt p0 ∧ Int32.toInt p0 ≤ 255) (h_p1 : 0 ≤ Int32.toInt p1 ∧ Int32.toInt p1 ≤ 65535) (h_pl_near : ∀ k : Nat, 0 ≤ Int32.toInt (rX k) ∧ Int32.toInt (rX k) ≤ 65535) (h_tr_standings : 0 ≤ Int32.toInt bD ∧ Int32.toInt bD ≤ 8) (hpost : ∀ (r : Int32) , (0 ≤ Int32.toInt r ∧ Int32.toInt r ≤ 1) → post r) : wp_X5_isFitting post p0 p1 rX bD := by
  have l0 := li_0
  exact ⟨10, tb_X5_isFitting_2 rX bD h_pl_near h_tr_standings hpost _ p0 p1 0 h_p0 h_p1 (by omega) (by omega)⟩
set_option maxHeartbeats 8000000 in
set_option maxRecDepth 200000 in
theorem ts_X9_fits_104 {post : Int32 → Int32 → (Nat → Int32) → Int32 → (Nat → Int32) → Prop} {K33 : Int32 → Int32 → Int32 → Int32 → Int32 → Int32 → (Nat → Int32) → Int32 → (Nat → Int32) → Prop} {n33 : Int} (bZ bD : Int32) (wD gF qA nJ nY dQ : Nat → Int32) (jC eO eW fY jD : Int32) (h_tr_fruits : 0 ≤ Int32.toInt bZ ∧ Int32.toInt bZ ≤ 16) (h_tr_standings : 0 ≤ Int32.toInt bD ∧ Int32.toInt bD ≤ 8) (h_no_today : 0 ≤ Int32.toInt jD ∧ Int32.toInt jD ≤ 9) (hpost : ∀ (r : Int32) (pl_wanted' : Int32) (pl_near' : Nat → Int32) (ro_size' : Int32) (ro_numbers' : Nat → Int32), (0 ≤ Int32.toInt pl_wanted' ∧ Int32.toInt pl_wanted' ≤ 65535) → (∀ k : Nat, 0 ≤ Int32.toInt (pl_near' k) ∧ Int32.toInt (pl_near' k) ≤ 65535) → (0 ≤ Int32.toInt ro_size' ∧ Int32.toInt ro_size' ≤ 16) → post r pl_wanted' pl_near' ro_size' ro_numbers') (hK33 : ∀ (x1 : Int32) (x2 : Int32) (x3 : Int32) (x4 : Int32) (x5 : Int32) (oX : Int32) (rX : Nat → Int32) (qF : Int32) (jJ : Nat → Int32), (0 ≤ Int32.toInt x1 ∧ Int32.toInt x1 ≤ 65535) → (-1 ≤ Int32.toInt x3 ∧ Int32.toInt x3 ≤ 255) → (-1 ≤ Int32.toInt x4 ∧ Int32.toInt x4 ≤ 255) → (0 ≤ Int32.toInt x5 ∧ Int32.toInt x5 ≤ 256) → (0 ≤ Int32.toInt oX ∧ Int32.toInt oX ≤ 65535) → (∀ k : Nat, 0 ≤ Int32.toInt (rX k) ∧ Int32.toInt (rX k) ≤ 65535) → (0 ≤ Int32.toInt qF ∧ Int32.toInt qF ≤ 16) → (256 - Int32.toInt x5 < n33) → K33 x1 x2 x3 x4 x5 oX rX qF jJ) (x1 x2 x3 x4 x5 oX : Int32) (rX : Nat → Int32) (qF : Int32) (jJ : Nat → Int32) (h_x1 : 0 ≤ Int32.toInt x1 ∧ Int32.toInt x1 ≤ 65535) (h_x3 : -1 ≤ Int32.toInt x3 ∧ Int32.toInt x3 ≤ 255) (h_x4 : -1 ≤ Int32.toInt x4 ∧ Int32.toInt x4 ≤ 255) (h_x5 : 0 ≤ Int32.toInt x5 ∧ Int32.toInt x5 ≤ 255) (h_pl_wanted : 0 ≤ Int32.toInt oX ∧ Int32.toInt oX ≤ 65535) (h_pl_near : ∀ k : Nat, 0 ≤ Int32.toInt (rX k) ∧ Int32.toInt (rX k) ≤ 65535) (h_ro_size : 0 ≤ Int32.toInt qF ∧ Int32.toInt qF ≤ 16) (hn33 : 256 - Int32.toInt x5 ≤ n33) : ws_X9_fits_104 post K33 bZ bD wD gF qA nJ nY dQ jC eO eW fY jD x1 x2 x3 x4 x5 oX rX qF jJ := by
  have l0 := li_1
  intro v1 ev1
  have f2 : Int32.toInt (x5 + 1) = Int32.toInt x5 + Int32.toInt (1 : Int32) := ta_add _ _ (by omega)
  rw [← ev1] at f2
  have f3 := tp_r x2
  exact hK33 x1 x2 x3 x4 v1 oX rX qF jJ h_x1 h_x3 h_x4 (by omega) h_pl_wanted h_pl_near h_ro_size (by omega)
set_option maxHeartbeats 8000000 in
set_option maxRecDepth 200000 in
theorem ts_X9_fits_100 {post : Int32 → Int32 → (Nat → Int32) → Int32 → (Nat → Int32) → Prop} {K33 : Int32 → Int32 → Int32 → Int32 → Int32 → Int32 → (Nat → Int32) → Int32 → (Nat → Int32) → Prop} {n33 : Int} (bZ bD : Int32) (wD gF qA nJ nY dQ : Nat → Int32) (jC eO eW fY jD : Int32) (h_tr_fruits : 0 ≤ Int32.toInt bZ ∧ Int32.toInt bZ ≤ 16) (h_tr_standings : 0 ≤ Int32.toInt bD ∧ Int32.toInt bD ≤ 8) (h_no_today : 0 ≤ Int32.toInt jD ∧ Int32.toInt jD ≤ 9) (hpost : ∀ (r : Int32) (pl_wanted' : Int32) (pl_near' : Nat → Int32) (ro_size' : Int32) (ro_numbers' : Nat → Int32), (0 ≤ Int32.toInt pl_wanted' ∧ Int32.toInt pl_wanted' ≤ 65535) → (∀ k : Nat, 0 ≤ Int32.toInt (pl_near' k) ∧ Int32.toInt (pl_near' k) ≤ 65535) → (0 ≤ Int32.toInt ro_size' ∧ Int32.toInt ro_size' ≤ 16) → post r pl_wanted' pl_near' ro_size' ro_numbers') (hK33 : ∀ (x1 : Int32) (x2 : Int32) (x3 : Int32) (x4 : Int32) (x5 : Int32) (oX : Int32) (rX : Nat → Int32) (qF : Int32) (jJ : Nat → Int32), (0 ≤ Int32.toInt x1 ∧ Int32.toInt x1 ≤ 65535) → (-1 ≤ Int32.toInt x3 ∧ Int32.toInt x3 ≤ 255) → (-1 ≤ Int32.toInt x4 ∧ Int32.toInt x4 ≤ 255) → (0 ≤ Int32.toInt x5 ∧ Int32.toInt x5 ≤ 256) → (0 ≤ Int32.toInt oX ∧ Int32.toInt oX ≤ 65535) → (∀ k : Nat, 0 ≤ Int32.toInt (rX k) ∧ Int32.toInt (rX k) ≤ 65535) → (0 ≤ Int32.toInt qF ∧ Int32.toInt qF ≤ 16) → (256 - Int32.toInt x5 < n33) → K33 x1 x2 x3 x4 x5 oX rX qF jJ) (x1 x2 x3 x5 oX : Int32) (rX : Nat → Int32) (qF : Int32) (jJ : Nat → Int32) (h_x1 : 0 ≤ Int32.toInt x1 ∧ Int32.toInt x1 ≤ 65535) (h_x3 : 0 ≤ Int32.toInt x3 ∧ Int32.toInt x3 ≤ 255) (h_x5 : 0 ≤ Int32.toInt x5 ∧ Int32.toInt x5 ≤ 255) (h_pl_wanted : 0 ≤ Int32.toInt oX ∧ Int32.toInt oX ≤ 65535) (h_pl_near : ∀ k : Nat, 0 ≤ Int32.toInt (rX k) ∧ Int32.toInt (rX k) ≤ 65535) (h_ro_size : 0 ≤ Int32.toInt qF ∧ Int32.toInt qF ≤ 16) (hn33 : 256 - Int32.toInt x5 ≤ n33) : ws_X9_fits_100 post K33 bZ bD wD gF qA nJ nY dQ jC eO eW fY jD x1 x2 x3 x5 oX rX qF jJ := by
  have f4 := tp_r x2
  exact ts_X9_fits_104 bZ bD wD gF qA nJ nY dQ jC eO eW fY jD h_tr_fruits h_tr_standings h_no_today hpost hK33 x1 x2 x3 x5 x5 oX rX qF jJ h_x1 (by omega) (by omega) h_x5 h_pl_wanted h_pl_near h_ro_size hn33
set_option maxHeartbeats 8000000 in
set_option maxRecDepth 200000 in
theorem ts_X9_fits_81 {post : Int32 → Int32 → (Nat → Int32) → Int32 → (Nat → Int32) → Prop} {K33 : Int32 → Int32 → Int32 → Int32 → Int32 → Int32 → (Nat → Int32) → Int32 → (Nat → Int32) → Prop} {n33 : Int} (bZ bD : Int32) (wD gF qA nJ nY dQ : Nat → Int32) (jC eO eW fY jD : Int32) (h_tr_fruits : 0 ≤ Int32.toInt bZ ∧ Int32.toInt bZ ≤ 16) (h_tr_standings : 0 ≤ Int32.toInt bD ∧ Int32.toInt bD ≤ 8) (h_no_today : 0 ≤ Int32.toInt jD ∧ Int32.toInt jD ≤ 9) (hpost : ∀ (r : Int32) (pl_wanted' : Int32) (pl_near' : Nat → Int32) (ro_size' : Int32) (ro_numbers' : Nat → Int32), (0 ≤ Int32.toInt pl_wanted' ∧ Int32.toInt pl_wanted' ≤ 65535) → (∀ k : Nat, 0 ≤ Int32.toInt (pl_near' k) ∧ Int32.toInt (pl_near' k) ≤ 65535) → (0 ≤ Int32.toInt ro_size' ∧ Int32.toInt ro_size' ≤ 16) → post r pl_wanted' pl_near' ro_size' ro_numbers') (hK33 : ∀ (x1 : Int32) (x2 : Int32) (x3 : Int32) (x4 : Int32) (x5 : Int32) (oX : Int32) (rX : Nat → Int32) (qF : Int32) (jJ : Nat → Int32), (0 ≤ Int32.toInt x1 ∧ Int32.toInt x1 ≤ 65535) → (-1 ≤ Int32.toInt x3 ∧ Int32.toInt x3 ≤ 255) → (-1 ≤ Int32.toInt x4 ∧ Int32.toInt x4 ≤ 255) → (0 ≤ Int32.toInt x5 ∧ Int32.toInt x5 ≤ 256) → (0 ≤ Int32.toInt oX ∧ Int32.toInt oX ≤ 65535) → (∀ k : Nat, 0 ≤ Int32.toInt (rX k) ∧ Int32.toInt (rX k) ≤ 65535) → (0 ≤ Int32.toInt qF ∧ Int32.toInt qF ≤ 16) → (256 - Int32.toInt x5 < n33) → K33 x1 x2 x3 x4 x5 oX rX qF jJ) (x1 x2 x3 x4 x5 oX : Int32) (rX : Nat → Int32) (qF : Int32) (jJ : Nat → Int32) (h_x1 : 0 ≤ Int32.toInt x1 ∧ Int32.toInt x1 ≤ 65535) (h_x3 : 0 ≤ Int32.toInt x3 ∧ Int32.toInt x3 ≤ 255) (h_x4 : -1 ≤ Int32.toInt x4 ∧ Int32.toInt x4 ≤ 255) (h_x5 : 0 ≤ Int32.toInt x5 ∧ Int32.toInt x5 ≤ 255) (h_pl_wanted : 0 ≤ Int32.toInt oX ∧ Int32.toInt oX ≤ 65535) (h_pl_near : ∀ k : Nat, 0 ≤ Int32.toInt (rX k) ∧ Int32.toInt (rX k) ≤ 65535) (h_ro_size : 0 ≤ Int32.toInt qF ∧ Int32.toInt qF ≤ 16) (hn33 : 256 - Int32.toInt x5 ≤ n33) : ws_X9_fits_81 post K33 bZ bD wD gF qA nJ nY dQ jC eO eW fY jD x1 x2 x3 x4 x5 oX rX qF jJ := by
  have l0 := li_m1
  have l1 := li_1431655765
  have l2 := li_252645135
  have l3 := li_63
  have l4 := li_858993459
  refine And.intro (fun c5 => ?_) (fun c5 => ?_)
  · skip
    have c5 := (fa_eq _ _).mp c5
    have f6 := tp_r x2
    exact ts_X9_fits_100 bZ bD wD gF qA nJ nY dQ jC eO eW fY jD h_tr_fruits h_tr_standings h_no_today hpost hK33 x1 x2 x3 x5 oX rX qF jJ h_x1 h_x3 h_x5 h_pl_wanted h_pl_near h_ro_size hn33
  · skip
    have c5 := mt (fa_eq _ _).mpr c5
    intro v7 ev7
    intro v8 ev8
    have f10 := ti_andr v7 1431655765 (by omega)
    have f9 : Int32.toInt (x5 - (v7 &&& 1431655765)) = Int32.toInt x5 - Int32.toInt (v7 &&& 1431655765) := ta_sub _ _ (by omega)
    rw [← ev8] at f9
    intro v11 ev11
    have f12 := ti_andr v8 858993459 (by omega)
    have hv11 := congrArg Int32.toInt ev11
    intro v13 ev13
    intro v14 ev14
    have f16 := ti_andr v13 858993459 (by omega)
    have f15 : Int32.toInt (v11 + (v13 &&& 858993459)) = Int32.toInt v11 + Int32.toInt (v13 &&& 858993459) := ta_add _ _ (by omega)
    rw [← ev14] at f15
    intro v17 ev17
    have hv17 := congrArg Int32.toInt ev17
    intro v19 ev19
    have f20 := ti_andr v17 252645135 (by omega)
    have hv19 := congrArg Int32.toInt ev19
    intro v21 ev21
    have hv21 := congrArg Int32.toInt ev21
    intro v23 ev23
    have hv23 := congrArg Int32.toInt ev23
    intro v25 ev25
    intro v26 ev26
    have f28 := ti_andr v25 1431655765 (by omega)
    have f27 : Int32.toInt (x4 - (v25 &&& 1431655765)) = Int32.toInt x4 - Int32.toInt (v25 &&& 1431655765) := ta_sub _ _ (by omega)
    rw [← ev26] at f27
    intro v29 ev29
    have f30 := ti_andr v26 858993459 (by omega)
    have hv29 := congrArg Int32.toInt ev29
    intro v31 ev31
    intro v32 ev32
    have f34 := ti_andr v31 858993459 (by omega)
    have f33 : Int32.toInt (v29 + (v31 &&& 858993459)) = Int32.toInt v29 + Int32.toInt (v31 &&& 858993459) := ta_add _ _ (by omega)
    rw [← ev32] at f33
    intro v35 ev35
    have hv35 := congrArg Int32.toInt ev35
    intro v37 ev37
    have f38 := ti_andr v35 252645135 (by omega)
    have hv37 := congrArg Int32.toInt ev37
    intro v39 ev39
    have hv39 := congrArg Int32.toInt ev39
    intro v41 ev41
    have hv41 := congrArg Int32.toInt ev41
    have f44 := ti_andr v23 63 (by omega)
    have f45 := ti_andr v41 63 (by omega)
    refine And.intro (fun c43 => ?_) (fun c43 => ?_)
    · skip
      have c43 := (fa_le _ _).mp c43
      have f46 := tp_r x2
      exact ts_X9_fits_104 bZ bD wD gF qA nJ nY dQ jC eO eW fY jD h_tr_fruits h_tr_standings h_no_today hpost hK33 x1 x2 x3 x4 x5 oX rX qF jJ h_x1 (by omega) h_x4 h_x5 h_pl_wanted h_pl_near h_ro_size hn33
    · skip
      have c43 := mt (fa_le _ _).mpr c43
      have f47 := tp_r x2
      exact ts_X9_fits_100 bZ bD wD gF qA nJ nY dQ jC eO eW fY jD h_tr_fruits h_tr_standings h_no_today hpost hK33 x1 x2 x3 x5 oX rX qF jJ h_x1 h_x3 h_x5 h_pl_wanted h_pl_near h_ro_size hn33
set_option maxHeartbeats 8000000 in
set_option maxRecDepth 200000 in
theorem ts_X9_fits_78 {post : Int32 → Int32 → (Nat → Int32) → Int32 → (Nat → Int32) → Prop} {K33 : Int32 → Int32 → Int32 → Int32 → Int32 → Int32 → (Nat → Int32) → Int32 → (Nat → Int32) → Prop} {n33 : Int} (bZ bD : Int32) (wD gF qA nJ nY dQ : Nat → Int32) (jC eO eW fY jD : Int32) (h_tr_fruits : 0 ≤ Int32.toInt bZ ∧ Int32.toInt bZ ≤ 16) (h_tr_standings : 0 ≤ Int32.toInt bD ∧ Int32.toInt bD ≤ 8) (h_no_today : 0 ≤ Int32.toInt jD ∧ Int32.toInt jD ≤ 9) (hpost : ∀ (r : Int32) (pl_wanted' : Int32) (pl_near' : Nat → Int32) (ro_size' : Int32) (ro_numbers' : Nat → Int32), (0 ≤ Int32.toInt pl_wanted' ∧ Int32.toInt pl_wanted' ≤ 65535) → (∀ k : Nat, 0 ≤ Int32.toInt (pl_near' k) ∧ Int32.toInt (pl_near' k) ≤ 65535) → (0 ≤ Int32.toInt ro_size' ∧ Int32.toInt ro_size' ≤ 16) → post r pl_wanted' pl_near' ro_size' ro_numbers') (hK33 : ∀ (x1 : Int32) (x2 : Int32) (x3 : Int32) (x4 : Int32) (x5 : Int32) (oX : Int32) (rX : Nat → Int32) (qF : Int32) (jJ : Nat → Int32), (0 ≤ Int32.toInt x1 ∧ Int32.toInt x1 ≤ 65535) → (-1 ≤ Int32.toInt x3 ∧ Int32.toInt x3 ≤ 255) → (-1 ≤ Int32.toInt x4 ∧ Int32.toInt x4 ≤ 255) → (0 ≤ Int32.toInt x5 ∧ Int32.toInt x5 ≤ 256) → (0 ≤ Int32.toInt oX ∧ Int32.toInt oX ≤ 65535) → (∀ k : Nat, 0 ≤ Int32.toInt (rX k) ∧ Int32.toInt (rX k) ≤ 65535) → (0 ≤ Int32.toInt qF ∧ Int32.toInt qF ≤ 16) → (256 - Int32.toInt x5 < n33) → K33 x1 x2 x3 x4 x5 oX rX qF jJ) (x1 x2 x4 x5 oX : Int32) (rX : Nat → Int32) (qF : Int32) (jJ : Nat → Int32) (h_x1 : 0 ≤ Int32.toInt x1 ∧ Int32.toInt x1 ≤ 65535) (h_x4 : -1 ≤ Int32.toInt x4 ∧ Int32.toInt x4 ≤ 255) (h_x5 : 0 ≤ Int32.toInt x5 ∧ Int32.toInt x5 ≤ 255) (h_pl_wanted : 0 ≤ Int32.toInt oX ∧ Int32.toInt oX ≤ 65535) (h_pl_near : ∀ k : Nat, 0 ≤ Int32.toInt (rX k) ∧ Int32.toInt (rX k) ≤ 65535) (h_ro_size : 0 ≤ Int32.toInt qF ∧ Int32.toInt qF ≤ 16) (hn33 : 256 - Int32.toInt x5 ≤ n33) : ws_X9_fits_78 post K33 bZ bD wD gF qA nJ nY dQ jC eO eW fY jD x1 x2 x4 x5 oX rX qF jJ := by
  have f48 := tp_r x2
  exact ts_X9_fits_81 bZ bD wD gF qA nJ nY dQ jC eO eW fY jD h_tr_fruits h_tr_standings h_no_today hpost hK33 x1 x2 x5 x4 x5 oX rX qF jJ h_x1 h_x5 h_x4 h_x5 h_pl_wanted h_pl_near h_ro_size hn33
set_option maxHeartbeats 8000000 in
set_option maxRecDepth 200000 in
theorem ts_X9_fits_33 {post : Int32 → Int32 → (Nat → Int32) → Int32 → (Nat → Int32) → Prop} {next : Int32 → Int32 → Int32 → Int32 → Int32 → Int32 → (Nat → Int32) → Int32 → (Nat → Int32) → Prop} {n33 : Int} (bZ bD : Int32) (wD gF qA nJ nY dQ : Nat → Int32) (jC eO eW fY jD : Int32) (h_tr_fruits : 0 ≤ Int32.toInt bZ ∧ Int32.toInt bZ ≤ 16) (h_tr_standings : 0 ≤ Int32.toInt bD ∧ Int32.toInt bD ≤ 8) (h_no_today : 0 ≤ Int32.toInt jD ∧ Int32.toInt jD ≤ 9) (hpost : ∀ (r : Int32) (pl_wanted' : Int32) (pl_near' : Nat → Int32) (ro_size' : Int32) (ro_numbers' : Nat → Int32), (0 ≤ Int32.toInt pl_wanted' ∧ Int32.toInt pl_wanted' ≤ 65535) → (∀ k : Nat, 0 ≤ Int32.toInt (pl_near' k) ∧ Int32.toInt (pl_near' k) ≤ 65535) → (0 ≤ Int32.toInt ro_size' ∧ Int32.toInt ro_size' ≤ 16) → post r pl_wanted' pl_near' ro_size' ro_numbers') (hKn : ∀ (x1 : Int32) (x2 : Int32) (x3 : Int32) (x4 : Int32) (x5 : Int32) (oX : Int32) (rX : Nat → Int32) (qF : Int32) (jJ : Nat → Int32), (0 ≤ Int32.toInt x1 ∧ Int32.toInt x1 ≤ 65535) → (-1 ≤ Int32.toInt x3 ∧ Int32.toInt x3 ≤ 255) → (-1 ≤ Int32.toInt x4 ∧ Int32.toInt x4 ≤ 255) → (0 ≤ Int32.toInt x5 ∧ Int32.toInt x5 ≤ 256) → (0 ≤ Int32.toInt oX ∧ Int32.toInt oX ≤ 65535) → (∀ k : Nat, 0 ≤ Int32.toInt (rX k) ∧ Int32.toInt (rX k) ≤ 65535) → (0 ≤ Int32.toInt qF ∧ Int32.toInt qF ≤ 16) → (256 - Int32.toInt x5 < n33) → next x1 x2 x3 x4 x5 oX rX qF jJ) (x1 x2 x3 x4 x5 oX : Int32) (rX : Nat → Int32) (qF : Int32) (jJ : Nat → Int32) (h_x1 : 0 ≤ Int32.toInt x1 ∧ Int32.toInt x1 ≤ 65535) (h_x3 : -1 ≤ Int32.toInt x3 ∧ Int32.toInt x3 ≤ 255) (h_x4 : -1 ≤ Int32.toInt x4 ∧ Int32.toInt x4 ≤ 255) (h_x5 : 0 ≤ Int32.toInt x5 ∧ Int32.toInt x5 ≤ 256) (h_pl_wanted : 0 ≤ Int32.toInt oX ∧ Int32.toInt oX ≤ 65535) (h_pl_near : ∀ k : Nat, 0 ≤ Int32.toInt (rX k) ∧ Int32.toInt (rX k) ≤ 65535) (h_ro_size : 0 ≤ Int32.toInt qF ∧ Int32.toInt qF ≤ 16) (hn33 : 256 - Int32.toInt x5 ≤ n33) : ws_X9_fits_33 post next bZ bD wD gF qA nJ nY dQ jC eO eW fY jD x1 x2 x3 x4 x5 oX rX qF jJ := by
  have l0 := li_m1
  have l1 := li_0
  have l2 := li_1
  have l3 := li_1431655765
  have l4 := li_16
  have l5 := li_252645135
  have l6 := li_63
  have l7 := li_858993459
  intro v49 ev49
  have f50 := ti_shl1 8 256 bD (by decide) (by omega)
  have hv49 := congrArg Int32.toInt ev49
  have f52 : Int32.toInt (v49 - 1) = Int32.toInt v49 - Int32.toInt (1 : Int32) := ta_sub _ _ (by omega)
  refine And.intro (fun c51 => ?_) (fun c51 => ?_)
  · skip
    have c51 := (fa_lt _ _).mp c51
    refine And.intro (fun h9 => absurd h9 (by decide)) (fun _ => ?_)
    refine And.intro (t_in (by omega)) ?_
    intro v53 ev53
    have f54 : Int32.toInt (0 + 1) = Int32.toInt (0 : Int32) + Int32.toInt (1 : Int32) := ta_add _ _ (by omega)
    rw [← ev53] at f54
    refine And.intro (fun c55 => ?_) (fun c55 => ?_)
    · skip
      have c55 := (fa_le _ _).mp c55
      exfalso; omega
    · skip
      have c55 := mt (fa_le _ _).mpr c55
      refine And.intro (t_in (by omega)) ?_
      intro v56 ev56
      have f57 : Int32.toInt (v53 + 1) = Int32.toInt v53 + Int32.toInt (1 : Int32) := ta_add _ _ (by omega)
      rw [← ev56] at f57
      exact hpost _ _ _ _ _ h_pl_wanted h_pl_near (by omega)
  · skip
    have c51 := mt (fa_lt _ _).mpr c51
    refine t_X5_isFitting (by omega) h_x1 h_pl_near h_tr_standings (fun r58 h_r58 => ?_)
    refine And.intro (fun c59 => ?_) (fun c59 => ?_)
    · skip
      have c59 := (fa_eq _ _).mp c59
      have f60 := tp_r x2
      exact ts_X9_fits_104 bZ bD wD gF qA nJ nY dQ jC eO eW fY jD h_tr_fruits h_tr_standings h_no_today hpost hKn x1 x2 x3 x4 x5 oX rX qF jJ h_x1 h_x3 h_x4 (by omega) h_pl_wanted h_pl_near h_ro_size hn33
    · skip
      have c59 := mt (fa_eq _ _).mpr c59
      intro v61 ev61
      have hv61 := congrArg Int32.toInt ev61
      refine And.intro (fun c63 => ?_) (fun c63 => ?_)
      · skip
        have c63 := (fa_eq _ _).mp c63
        have f64 := tp_r v61
        exact ts_X9_fits_78 bZ bD wD gF qA nJ nY dQ jC eO eW fY jD h_tr_fruits h_tr_standings h_no_today hpost hKn x1 v61 x4 x5 oX rX qF jJ h_x1 h_x4 (by omega) h_pl_wanted h_pl_near h_ro_size hn33
      · skip
        have c63 := mt (fa_eq _ _).mpr c63
        intro v65 ev65
        intro v66 ev66
        have f68 := ti_andr v65 1431655765 (by omega)
        have f67 : Int32.toInt (x5 - (v65 &&& 1431655765)) = Int32.toInt x5 - Int32.toInt (v65 &&& 1431655765) := ta_sub _ _ (by omega)
        rw [← ev66] at f67
        intro v69 ev69
        have f70 := ti_andr v66 858993459 (by omega)
        have hv69 := congrArg Int32.toInt ev69
        intro v71 ev71
        intro v72 ev72
        have f74 := ti_andr v71 858993459 (by omega)
        have f73 : Int32.toInt (v69 + (v71 &&& 858993459)) = Int32.toInt v69 + Int32.toInt (v71 &&& 858993459) := ta_add _ _ (by omega)
        rw [← ev72] at f73
        intro v75 ev75
        have hv75 := congrArg Int32.toInt ev75
        intro v77 ev77
        have f78 := ti_andr v75 252645135 (by omega)
        have hv77 := congrArg Int32.toInt ev77
        intro v79 ev79
        have hv79 := congrArg Int32.toInt ev79
        intro v81 ev81
        have hv81 := congrArg Int32.toInt ev81
        intro v83 ev83
        intro v84 ev84
        have f86 := ti_andr v83 1431655765 (by omega)
        have f85 : Int32.toInt (x3 - (v83 &&& 1431655765)) = Int32.toInt x3 - Int32.toInt (v83 &&& 1431655765) := ta_sub _ _ (by omega)
        rw [← ev84] at f85
        intro v87 ev87
        have f88 := ti_andr v84 858993459 (by omega)
        have hv87 := congrArg Int32.toInt ev87
        intro v89 ev89
        intro v90 ev90
        have f92 := ti_andr v89 858993459 (by omega)
        have f91 : Int32.toInt (v87 + (v89 &&& 858993459)) = Int32.toInt v87 + Int32.toInt (v89 &&& 858993459) := ta_add _ _ (by omega)
        rw [← ev90] at f91
        intro v93 ev93
        have hv93 := congrArg Int32.toInt ev93
        intro v95 ev95
        have f96 := ti_andr v93 252645135 (by omega)
        have hv95 := congrArg Int32.toInt ev95
        intro v97 ev97
        have hv97 := congrArg Int32.toInt ev97
        intro v99 ev99
        have hv99 := congrArg Int32.toInt ev99
        have f102 := ti_andr v81 63 (by omega)
        have f103 := ti_andr v99 63 (by omega)
        refine And.intro (fun c101 => ?_) (fun c101 => ?_)
        · skip
          have c101 := (fa_le _ _).mp c101
          have f104 := tp_r v61
          exact ts_X9_fits_81 bZ bD wD gF qA nJ nY dQ jC eO eW fY jD h_tr_fruits h_tr_standings h_no_today hpost hKn x1 v61 x3 x4 x5 oX rX qF jJ h_x1 (by omega) h_x4 (by omega) h_pl_wanted h_pl_near h_ro_size hn33
        · skip
          have c101 := mt (fa_le _ _).mpr c101
          have f105 := tp_r v61
          exact ts_X9_fits_78 bZ bD wD gF qA nJ nY dQ jC eO eW fY jD h_tr_fruits h_tr_standings h_no_today hpost hKn x1 v61 x4 x5 oX rX qF jJ h_x1 h_x4 (by omega) h_pl_wanted h_pl_near h_ro_size hn33
set_option maxHeartbeats 8000000 in
set_option maxRecDepth 200000 in
theorem tb_X9_fits_33 {post : Int32 → Int32 → (Nat → Int32) → Int32 → (Nat → Int32) → Prop} (bZ bD : Int32) (wD gF qA nJ nY dQ : Nat → Int32) (jC eO eW fY jD : Int32) (h_tr_fruits : 0 ≤ Int32.toInt bZ ∧ Int32.toInt bZ ≤ 16) (h_tr_standings : 0 ≤ Int32.toInt bD ∧ Int32.toInt bD ≤ 8) (h_no_today : 0 ≤ Int32.toInt jD ∧ Int32.toInt jD ≤ 9) (hpost : ∀ (r : Int32) (pl_wanted' : Int32) (pl_near' : Nat → Int32) (ro_size' : Int32) (ro_numbers' : Nat → Int32), (0 ≤ Int32.toInt pl_wanted' ∧ Int32.toInt pl_wanted' ≤ 65535) → (∀ k : Nat, 0 ≤ Int32.toInt (pl_near' k) ∧ Int32.toInt (pl_near' k) ≤ 65535) → (0 ≤ Int32.toInt ro_size' ∧ Int32.toInt ro_size' ≤ 16) → post r pl_wanted' pl_near' ro_size' ro_numbers') : ∀ (n : Nat) (x1 x2 x3 x4 x5 oX : Int32) (rX : Nat → Int32) (qF : Int32) (jJ : Nat → Int32), (0 ≤ Int32.toInt x1 ∧ Int32.toInt x1 ≤ 65535) → (-1 ≤ Int32.toInt x3 ∧ Int32.toInt x3 ≤ 255) → (-1 ≤ Int32.toInt x4 ∧ Int32.toInt x4 ≤ 255) → (0 ≤ Int32.toInt x5 ∧ Int32.toInt x5 ≤ 256) → (0 ≤ Int32.toInt oX ∧ Int32.toInt oX ≤ 65535) → (∀ k : Nat, 0 ≤ Int32.toInt (rX k) ∧ Int32.toInt (rX k) ≤ 65535) → (0 ≤ Int32.toInt qF ∧ Int32.toInt qF ≤ 16) → (256 - Int32.toInt x5 < (n : Int)) → wb_X9_fits_33 post bZ bD wD gF qA nJ nY dQ jC eO eW fY jD n x1 x2 x3 x4 x5 oX rX qF jJ := by
  intro n
  induction n with
  | zero =>
    intro x1 x2 x3 x4 x5 oX rX qF jJ h_x1 h_x3 h_x4 h_x5 h_pl_wanted h_pl_near h_ro_size hm
    exfalso; omega
  | succ n ih =>
    intro x1 x2 x3 x4 x5 oX rX qF jJ h_x1 h_x3 h_x4 h_x5 h_pl_wanted h_pl_near h_ro_size hm
    exact ts_X9_fits_33 bZ bD wD gF qA nJ nY dQ jC eO eW fY jD h_tr_fruits h_tr_standings h_no_today hpost ih x1 x2 x3 x4 x5 oX rX qF jJ h_x1 h_x3 h_x4 h_x5 h_pl_wanted h_pl_near h_ro_size (by omega)
set_option maxHeartbeats 8000000 in
set_option maxRecDepth 200000 in
theorem t_X9_fits {post : Int32 → Int32 → (Nat → Int32) → Int32 → (Nat → Int32) → Prop} {p0 oX : Int32} {rX : Nat → Int32} {bZ bD : Int32} {wD gF qA nJ nY dQ : Nat → Int32} {jC eO eW fY jD qF : Int32} {jJ : Nat → Int32} (h_pl_wanted : 0 ≤ Int32.toInt oX ∧ Int32.toInt oX ≤ 65535) (h_pl_near : ∀ k : Nat, 0 ≤ Int32.toInt (rX k) ∧ Int32.toInt (rX k) ≤ 65535) (h_tr_fruits : 0 ≤ Int32.toInt bZ ∧ Int32.toInt bZ ≤ 16) (h_tr_standings : 0 ≤ Int32.toInt bD ∧ Int32.toInt bD ≤ 8) (h_no_today : 0 ≤ Int32.toInt jD ∧ Int32.toInt jD ≤ 9) (h_ro_size : 0 ≤ Int32.toInt qF ∧ Int32.toInt qF ≤ 16) (hpost : ∀ (r : Int32) (pl_wanted' : Int32) (pl_near' : Nat → Int32) (ro_size' : Int32) (ro_numbers' : Nat → Int32), (0 ≤ Int32.toInt pl_wanted' ∧ Int32.toInt pl_wanted' ≤ 65535) → (∀ k : Nat, 0 ≤ Int32.toInt (pl_near' k) ∧ Int32.toInt (pl_near' k) ≤ 65535) → (0 ≤ Int32.toInt ro_size' ∧ Int32.toInt ro_size' ≤ 16) → post r pl_wanted' pl_near' ro_size' ro_numbers') : wp_X9_fits post p0 oX rX bZ bD wD gF qA nJ nY dQ jC eO eW fY jD qF jJ := by
  have l0 := li_m1
  have l1 := li_0
  have l2 := li_1
  intro v106 ev106
  have f107 := ti_shl1 16 65536 bZ (by decide) (by omega)
  have hv106 := congrArg Int32.toInt ev106
  refine And.intro (fun c108 => ?_) (fun c108 => ?_)
  · skip
    have c108Z := c108
    have c108 := (fa_eq _ _).mp c108
    have f110 : Int32.toInt (v106 - 1) = Int32.toInt v106 - Int32.toInt (1 : Int32) := ta_sub _ _ (by omega)
    have s111 := ti_subset p0 (v106 - 1) (c108Z) (by omega)
    refine t_X5_lookAs h_no_today h_pl_wanted h_pl_near h_tr_fruits h_tr_standings (fun pl_wanted_112 pl_near_113 h_pl_wanted_112 h_pl_near_113 => ?_)
    exact ⟨258, tb_X9_fits_33 bZ bD wD gF qA nJ nY dQ jC eO eW fY jD h_tr_fruits h_tr_standings h_no_today hpost _ p0 0 (-1) (-1) 0 pl_wanted_112 pl_near_113 qF jJ (by omega) (by omega) (by omega) (by omega) h_pl_wanted_112 h_pl_near_113 h_ro_size (by omega)⟩
  · skip
    have c108 := mt (fa_eq _ _).mpr c108
    exact hpost _ _ _ _ _ h_pl_wanted h_pl_near h_ro_size
set_option maxHeartbeats 8000000 in
set_option maxRecDepth 200000 in
theorem t_X9_leaned {post : Int32 → Prop} {p0 p1 bZ bD : Int32} {wD gF nJ nY dQ : Nat → Int32} (h_tr_fruits : 0 ≤ Int32.toInt bZ ∧ Int32.toInt bZ ≤ 16) (h_tr_standings : 0 ≤ Int32.toInt bD ∧ Int32.toInt bD ≤ 8) (hpost : ∀ (r : Int32) , (-2 ≤ Int32.toInt r ∧ Int32.toInt r ≤ 30) → post r) : wp_X9_leaned post p0 p1 bZ bD wD gF nJ nY dQ := by
  have l0 := li_m1
  have l1 := li_0
  have f2 := tp_r p0
  refine And.intro (fun c1 => ?_) (fun c1 => ?_)
  · skip
    have c1 := (fa_lt _ _).mp c1
    refine And.intro (fun _ => ?_) (fun h9 => absurd h9 (by decide))
    exact hpost _ (by omega)
  · skip
    have c1 := mt (fa_lt _ _).mpr c1
    refine And.intro (fun c3 => ?_) (fun c3 => ?_)
    · skip
      have c3 := (fa_le _ _).mp c3
      refine And.intro (fun _ => ?_) (fun h9 => absurd h9 (by decide))
      exact hpost _ (by omega)
    · skip
      have c3 := mt (fa_le _ _).mpr c3
      refine And.intro (fun h9 => absurd h9 (by decide)) (fun _ => ?_)
      have f5 := tp_r p1
      refine And.intro (fun c4 => ?_) (fun c4 => ?_)
      · skip
        have c4 := (fa_lt _ _).mp c4
        refine And.intro (fun h9 => absurd h9 (by decide)) (fun _ => ?_)
        exact hpost _ (by omega)
      · skip
        have c4 := mt (fa_lt _ _).mpr c4
        refine And.intro (fun c6 => ?_) (fun c6 => ?_)
        · skip
          have c6 := (fa_le _ _).mp c6
          refine And.intro (fun h9 => absurd h9 (by decide)) (fun _ => ?_)
          exact hpost _ (by omega)
        · skip
          have c6 := mt (fa_le _ _).mpr c6
          refine And.intro (fun _ => ?_) (fun h9 => absurd h9 (by decide))
          refine t_X3_leanNeeded (by omega) (by omega) (fun r7 h_r7 => ?_)
          exact hpost _ h_r7
set_option maxHeartbeats 8000000 in
set_option maxRecDepth 200000 in
theorem ts_X9_autumn_170 {post : Int32 → Int32 → (Nat → Int32) → Prop} {K47 : Int32 → Int32 → Int32 → Int32 → Int32 → Int32 → Int32 → Int32 → Int32 → (Nat → Int32) → Prop} {n47 : Int} (bZ : Int32) (pE qA : Nat → Int32) (jC eO eW dO jD : Int32) (h_tr_fruits : 0 ≤ Int32.toInt bZ ∧ Int32.toInt bZ ≤ 16) (h_no_today : 0 ≤ Int32.toInt jD ∧ Int32.toInt jD ≤ 9) (hpost : ∀ (r : Int32) (ro_size' : Int32) (ro_numbers' : Nat → Int32), (-1 ≤ Int32.toInt r ∧ Int32.toInt r ≤ 63) → (0 ≤ Int32.toInt ro_size' ∧ Int32.toInt ro_size' ≤ 16) → post r ro_size' ro_numbers') (hK47 : ∀ (x2 : Int32) (x3 : Int32) (x4 : Int32) (x5 : Int32) (x6 : Int32) (x7 : Int32) (x8 : Int32) (x9 : Int32) (qF : Int32) (jJ : Nat → Int32), (1 ≤ Int32.toInt x2 ∧ Int32.toInt x2 ≤ 30) → (0 ≤ Int32.toInt x3 ∧ Int32.toInt x3 ≤ 10) → (0 ≤ Int32.toInt x5 ∧ Int32.toInt x5 ≤ 65535) → (0 ≤ Int32.toInt x6 ∧ Int32.toInt x6 ≤ 65535) → (0 ≤ Int32.toInt x7 ∧ Int32.toInt x7 ≤ 2147483647) → (-1 ≤ Int32.toInt x8 ∧ Int32.toInt x8 ≤ 30) → (1 ≤ Int32.toInt x9 ∧ Int32.toInt x9 ≤ 31) → (0 ≤ Int32.toInt qF ∧ Int32.toInt qF ≤ 16) → (31 - Int32.toInt x9 < n47) → K47 x2 x3 x4 x5 x6 x7 x8 x9 qF jJ) (x2 x3 x4 x5 x6 x7 x8 x9 qF : Int32) (jJ : Nat → Int32) (h_x2 : 1 ≤ Int32.toInt x2 ∧ Int32.toInt x2 ≤ 30) (h_x3 : 0 ≤ Int32.toInt x3 ∧ Int32.toInt x3 ≤ 10) (h_x5 : 0 ≤ Int32.toInt x5 ∧ Int32.toInt x5 ≤ 65535) (h_x6 : 0 ≤ Int32.toInt x6 ∧ Int32.toInt x6 ≤ 65535) (h_x7 : 0 ≤ Int32.toInt x7 ∧ Int32.toInt x7 ≤ 2147483647) (h_x8 : -1 ≤ Int32.toInt x8 ∧ Int32.toInt x8 ≤ 30) (h_x9 : 1 ≤ Int32.toInt x9 ∧ Int32.toInt x9 ≤ 30) (h_ro_size : 0 ≤ Int32.toInt qF ∧ Int32.toInt qF ≤ 16) (hn47 : 31 - Int32.toInt x9 ≤ n47) : ws_X9_autumn_170 post K47 bZ pE qA jC eO eW dO jD x2 x3 x4 x5 x6 x7 x8 x9 qF jJ := by
  have l0 := li_1
  intro v1 ev1
  have f2 : Int32.toInt (x9 + 1) = Int32.toInt x9 + Int32.toInt (1 : Int32) := ta_add _ _ (by omega)
  rw [← ev1] at f2
  have f3 := tp_r x7
  have f4 := tp_r x4
  exact hK47 x2 x3 x4 x5 x6 x7 x8 v1 qF jJ h_x2 h_x3 h_x5 h_x6 h_x7 h_x8 (by omega) h_ro_size (by omega)
set_option maxHeartbeats 8000000 in
set_option maxRecDepth 200000 in
theorem ts_X9_autumn_149 {post : Int32 → Int32 → (Nat → Int32) → Prop} {K47 : Int32 → Int32 → Int32 → Int32 → Int32 → Int32 → Int32 → Int32 → Int32 → (Nat → Int32) → Prop} {K91 : Int32 → Int32 → Int32 → Int32 → Int32 → Int32 → Int32 → Int32 → Int32 → Int32 → Int32 → Int32 → (Nat → Int32) → Prop} {n47 n91 : Int} (bZ : Int32) (pE qA : Nat → Int32) (jC eO eW dO jD : Int32) (h_tr_fruits : 0 ≤ Int32.toInt bZ ∧ Int32.toInt bZ ≤ 16) (h_no_today : 0 ≤ Int32.toInt jD ∧ Int32.toInt jD ≤ 9) (hpost : ∀ (r : Int32) (ro_size' : Int32) (ro_numbers' : Nat → Int32), (-1 ≤ Int32.toInt r ∧ Int32.toInt r ≤ 63) → (0 ≤ Int32.toInt ro_size' ∧ Int32.toInt ro_size' ≤ 16) → post r ro_size' ro_numbers') (hK47 : ∀ (x2 : Int32) (x3 : Int32) (x4 : Int32) (x5 : Int32) (x6 : Int32) (x7 : Int32) (x8 : Int32) (x9 : Int32) (qF : Int32) (jJ : Nat → Int32), (1 ≤ Int32.toInt x2 ∧ Int32.toInt x2 ≤ 30) → (0 ≤ Int32.toInt x3 ∧ Int32.toInt x3 ≤ 10) → (0 ≤ Int32.toInt x5 ∧ Int32.toInt x5 ≤ 65535) → (0 ≤ Int32.toInt x6 ∧ Int32.toInt x6 ≤ 65535) → (0 ≤ Int32.toInt x7 ∧ Int32.toInt x7 ≤ 2147483647) → (-1 ≤ Int32.toInt x8 ∧ Int32.toInt x8 ≤ 30) → (1 ≤ Int32.toInt x9 ∧ Int32.toInt x9 ≤ 31) → (0 ≤ Int32.toInt qF ∧ Int32.toInt qF ≤ 16) → (31 - Int32.toInt x9 < n47) → K47 x2 x3 x4 x5 x6 x7 x8 x9 qF jJ) (hK91 : ∀ (x2 : Int32) (x3 : Int32) (x4 : Int32) (x5 : Int32) (x6 : Int32) (x7 : Int32) (x8 : Int32) (x9 : Int32) (x10 : Int32) (x11 : Int32) (x12 : Int32) (qF : Int32) (jJ : Nat → Int32), (1 ≤ Int32.toInt x2 ∧ Int32.toInt x2 ≤ 30) → (0 ≤ Int32.toInt x3 ∧ Int32.toInt x3 ≤ 10) → (0 ≤ Int32.toInt x5 ∧ Int32.toInt x5 ≤ 65535) → (0 ≤ Int32.toInt x6 ∧ Int32.toInt x6 ≤ 65535) → (0 ≤ Int32.toInt x7 ∧ Int32.toInt x7 ≤ 2147483647) → (-1 ≤ Int32.toInt x8 ∧ Int32.toInt x8 ≤ 30) → (1 ≤ Int32.toInt x9 ∧ Int32.toInt x9 ≤ 30) → (0 ≤ Int32.toInt x10 ∧ Int32.toInt x10 ≤ 65535) → (0 ≤ Int32.toInt x12 ∧ Int32.toInt x12 ≤ 16) → (0 ≤ Int32.toInt qF ∧ Int32.toInt qF ≤ 16) → (31 - Int32.toInt x9 ≤ n47) → (16 - Int32.toInt x12 < n91) → K91 x2 x3 x4 x5 x6 x7 x8 x9 x10 x11 x12 qF jJ) (x2 x3 x4 x5 x6 x7 x8 x9 x10 x11 x12 qF : Int32) (jJ : Nat → Int32) (h_x2 : 1 ≤ Int32.toInt x2 ∧ Int32.toInt x2 ≤ 30) (h_x3 : 0 ≤ Int32.toInt x3 ∧ Int32.toInt x3 ≤ 10) (h_x5 : 0 ≤ Int32.toInt x5 ∧ Int32.toInt x5 ≤ 65535) (h_x6 : 0 ≤ Int32.toInt x6 ∧ Int32.toInt x6 ≤ 65535) (h_x7 : 0 ≤ Int32.toInt x7 ∧ Int32.toInt x7 ≤ 2147483647) (h_x8 : -1 ≤ Int32.toInt x8 ∧ Int32.toInt x8 ≤ 30) (h_x9 : 1 ≤ Int32.toInt x9 ∧ Int32.toInt x9 ≤ 30) (h_x10 : 0 ≤ Int32.toInt x10 ∧ Int32.toInt x10 ≤ 65535) (h_x12 : 0 ≤ Int32.toInt x12 ∧ Int32.toInt x12 ≤ 15) (h_ro_size : 0 ≤ Int32.toInt qF ∧ Int32.toInt qF ≤ 16) (hn47 : 31 - Int32.toInt x9 ≤ n47) (hn91 : 16 - Int32.toInt x12 ≤ n91) : ws_X9_autumn_149 post K47 K91 bZ pE qA jC eO eW dO jD x2 x3 x4 x5 x6 x7 x8 x9 x10 x11 x12 qF jJ := by
  have l0 := li_1
  intro v5 ev5
  have f6 : Int32.toInt (x12 + 1) = Int32.toInt x12 + Int32.toInt (1 : Int32) := ta_add _ _ (by omega)
  rw [← ev5] at f6
  have f7 := tp_r x7
  have f8 := tp_r x4
  have f9 := tp_r x11
  exact hK91 x2 x3 x4 x5 x6 x7 x8 x9 x10 x11 v5 qF jJ h_x2 h_x3 h_x5 h_x6 h_x7 h_x8 h_x9 h_x10 (by omega) h_ro_size hn47 (by omega)
set_option maxHeartbeats 8000000 in
set_option maxRecDepth 200000 in
theorem ts_X9_autumn_91 {post : Int32 → Int32 → (Nat → Int32) → Prop} {K47 : Int32 → Int32 → Int32 → Int32 → Int32 → Int32 → Int32 → Int32 → Int32 → (Nat → Int32) → Prop} {next : Int32 → Int32 → Int32 → Int32 → Int32 → Int32 → Int32 → Int32 → Int32 → Int32 → Int32 → Int32 → (Nat → Int32) → Prop} {n91 n47 : Int} (bZ : Int32) (pE qA : Nat → Int32) (jC eO eW dO jD : Int32) (h_tr_fruits : 0 ≤ Int32.toInt bZ ∧ Int32.toInt bZ ≤ 16) (h_no_today : 0 ≤ Int32.toInt jD ∧ Int32.toInt jD ≤ 9) (hpost : ∀ (r : Int32) (ro_size' : Int32) (ro_numbers' : Nat → Int32), (-1 ≤ Int32.toInt r ∧ Int32.toInt r ≤ 63) → (0 ≤ Int32.toInt ro_size' ∧ Int32.toInt ro_size' ≤ 16) → post r ro_size' ro_numbers') (hK47 : ∀ (x2 : Int32) (x3 : Int32) (x4 : Int32) (x5 : Int32) (x6 : Int32) (x7 : Int32) (x8 : Int32) (x9 : Int32) (qF : Int32) (jJ : Nat → Int32), (1 ≤ Int32.toInt x2 ∧ Int32.toInt x2 ≤ 30) → (0 ≤ Int32.toInt x3 ∧ Int32.toInt x3 ≤ 10) → (0 ≤ Int32.toInt x5 ∧ Int32.toInt x5 ≤ 65535) → (0 ≤ Int32.toInt x6 ∧ Int32.toInt x6 ≤ 65535) → (0 ≤ Int32.toInt x7 ∧ Int32.toInt x7 ≤ 2147483647) → (-1 ≤ Int32.toInt x8 ∧ Int32.toInt x8 ≤ 30) → (1 ≤ Int32.toInt x9 ∧ Int32.toInt x9 ≤ 31) → (0 ≤ Int32.toInt qF ∧ Int32.toInt qF ≤ 16) → (31 - Int32.toInt x9 < n47) → K47 x2 x3 x4 x5 x6 x7 x8 x9 qF jJ) (hKn : ∀ (x2 : Int32) (x3 : Int32) (x4 : Int32) (x5 : Int32) (x6 : Int32) (x7 : Int32) (x8 : Int32) (x9 : Int32) (x10 : Int32) (x11 : Int32) (x12 : Int32) (qF : Int32) (jJ : Nat → Int32), (1 ≤ Int32.toInt x2 ∧ Int32.toInt x2 ≤ 30) → (0 ≤ Int32.toInt x3 ∧ Int32.toInt x3 ≤ 10) → (0 ≤ Int32.toInt x5 ∧ Int32.toInt x5 ≤ 65535) → (0 ≤ Int32.toInt x6 ∧ Int32.toInt x6 ≤ 65535) → (0 ≤ Int32.toInt x7 ∧ Int32.toInt x7 ≤ 2147483647) → (-1 ≤ Int32.toInt x8 ∧ Int32.toInt x8 ≤ 30) → (1 ≤ Int32.toInt x9 ∧ Int32.toInt x9 ≤ 30) → (0 ≤ Int32.toInt x10 ∧ Int32.toInt x10 ≤ 65535) → (0 ≤ Int32.toInt x12 ∧ Int32.toInt x12 ≤ 16) → (0 ≤ Int32.toInt qF ∧ Int32.toInt qF ≤ 16) → (31 - Int32.toInt x9 ≤ n47) → (16 - Int32.toInt x12 < n91) → next x2 x3 x4 x5 x6 x7 x8 x9 x10 x11 x12 qF jJ) (x2 x3 x4 x5 x6 x7 x8 x9 x10 x11 x12 qF : Int32) (jJ : Nat → Int32) (h_x2 : 1 ≤ Int32.toInt x2 ∧ Int32.toInt x2 ≤ 30) (h_x3 : 0 ≤ Int32.toInt x3 ∧ Int32.toInt x3 ≤ 10) (h_x5 : 0 ≤ Int32.toInt x5 ∧ Int32.toInt x5 ≤ 65535) (h_x6 : 0 ≤ Int32.toInt x6 ∧ Int32.toInt x6 ≤ 65535) (h_x7 : 0 ≤ Int32.toInt x7 ∧ Int32.toInt x7 ≤ 2147483647) (h_x8 : -1 ≤ Int32.toInt x8 ∧ Int32.toInt x8 ≤ 30) (h_x9 : 1 ≤ Int32.toInt x9 ∧ Int32.toInt x9 ≤ 30) (h_x10 : 0 ≤ Int32.toInt x10 ∧ Int32.toInt x10 ≤ 65535) (h_x12 : 0 ≤ Int32.toInt x12 ∧ Int32.toInt x12 ≤ 16) (h_ro_size : 0 ≤ Int32.toInt qF ∧ Int32.toInt qF ≤ 16) (hn47 : 31 - Int32.toInt x9 ≤ n47) (hn91 : 16 - Int32.toInt x12 ≤ n91) : ws_X9_autumn_91 post K47 next bZ pE qA jC eO eW dO jD x2 x3 x4 x5 x6 x7 x8 x9 x10 x11 x12 qF jJ := by
  have l0 := li_0
  have l1 := li_1
  refine And.intro (fun c10 => ?_) (fun c10 => ?_)
  · skip
    have c10 := (fa_le _ _).mp c10
    have f12 := tp_r x11
    have f13 := tp_r x7
    refine And.intro (fun c11 => ?_) (fun c11 => ?_)
    · skip
      have c11 := (fa_le _ _).mp c11
      have f14 := tp_r x4
      exact ts_X9_autumn_170 bZ pE qA jC eO eW dO jD h_tr_fruits h_no_today hpost hK47 x2 x3 x4 x5 x6 x7 x8 x9 qF jJ h_x2 h_x3 h_x5 h_x6 h_x7 h_x8 h_x9 h_ro_size hn47
    · skip
      have c11 := mt (fa_le _ _).mpr c11
      have f15 := tp_r x4
      exact ts_X9_autumn_170 bZ pE qA jC eO eW dO jD h_tr_fruits h_no_today hpost hK47 x2 x3 x4 x5 x6 x11 x9 x9 qF jJ h_x2 h_x3 h_x5 h_x6 (by omega) (by omega) h_x9 h_ro_size hn47
  · skip
    have c10 := mt (fa_le _ _).mpr c10
    intro v16 ev16
    have f17 := ti_shr x10 x12 (by omega)
    have hv16 := congrArg Int32.toInt ev16
    have f19 := ti_andr v16 1 (by omega)
    have f20 := ti_andl v16 1 (by omega)
    refine And.intro (fun c18 => ?_) (fun c18 => ?_)
    · skip
      have c18 := (fa_eq _ _).mp c18
      have f21 := tp_r x7
      have f22 := tp_r x4
      have f23 := tp_r x11
      exact ts_X9_autumn_149 bZ pE qA jC eO eW dO jD h_tr_fruits h_no_today hpost hK47 hKn x2 x3 x4 x5 x6 x7 x8 x9 x10 x11 x12 qF jJ h_x2 h_x3 h_x5 h_x6 h_x7 h_x8 h_x9 h_x10 (by omega) h_ro_size hn47 hn91
    · skip
      have c18 := mt (fa_eq _ _).mpr c18
      intro v24 ev24
      have hv24 := congrArg Int32.toInt ev24
      intro v26 ev26
      have hv26 := congrArg Int32.toInt ev26
      intro v28 ev28
      intro v29 ev29
      have f31 := tp_r v29
      refine And.intro (fun c30 => ?_) (fun c30 => ?_)
      · skip
        have c30 := (fa_le _ _).mp c30
        have f32 := tp_r x7
        have f33 := tp_r v26
        have f34 := tp_r x11
        exact ts_X9_autumn_149 bZ pE qA jC eO eW dO jD h_tr_fruits h_no_today hpost hK47 hKn x2 x3 v26 x5 x6 x7 x8 x9 x10 x11 x12 qF jJ h_x2 h_x3 h_x5 h_x6 h_x7 h_x8 h_x9 h_x10 (by omega) h_ro_size hn47 hn91
      · skip
        have c30 := mt (fa_le _ _).mpr c30
        intro v35 ev35
        have f37 := ti_shl1 15 32768 x12 (by decide) (by omega)
        have f36 := ti_or 16 65536 x6 (1 <<< (x12 &&& 31)) (by decide) (by omega) (by omega)
        have hv35 := congrArg Int32.toInt ev35
        intro v38 ev38
        have hv38 := congrArg Int32.toInt ev38
        have f40 := tp_r x7
        have f41 := tp_r v26
        have f42 := tp_r v38
        exact ts_X9_autumn_149 bZ pE qA jC eO eW dO jD h_tr_fruits h_no_today hpost hK47 hKn x2 x3 v26 x5 v35 x7 x8 x9 x10 v38 x12 qF jJ h_x2 h_x3 h_x5 (by omega) h_x7 h_x8 h_x9 h_x10 (by omega) h_ro_size hn47 hn91
set_option maxHeartbeats 8000000 in
set_option maxRecDepth 200000 in
theorem tb_X9_autumn_91 {post : Int32 → Int32 → (Nat → Int32) → Prop} {K47 : Int32 → Int32 → Int32 → Int32 → Int32 → Int32 → Int32 → Int32 → Int32 → (Nat → Int32) → Prop} {n47 : Int} (bZ : Int32) (pE qA : Nat → Int32) (jC eO eW dO jD : Int32) (h_tr_fruits : 0 ≤ Int32.toInt bZ ∧ Int32.toInt bZ ≤ 16) (h_no_today : 0 ≤ Int32.toInt jD ∧ Int32.toInt jD ≤ 9) (hpost : ∀ (r : Int32) (ro_size' : Int32) (ro_numbers' : Nat → Int32), (-1 ≤ Int32.toInt r ∧ Int32.toInt r ≤ 63) → (0 ≤ Int32.toInt ro_size' ∧ Int32.toInt ro_size' ≤ 16) → post r ro_size' ro_numbers') (hK47 : ∀ (x2 : Int32) (x3 : Int32) (x4 : Int32) (x5 : Int32) (x6 : Int32) (x7 : Int32) (x8 : Int32) (x9 : Int32) (qF : Int32) (jJ : Nat → Int32), (1 ≤ Int32.toInt x2 ∧ Int32.toInt x2 ≤ 30) → (0 ≤ Int32.toInt x3 ∧ Int32.toInt x3 ≤ 10) → (0 ≤ Int32.toInt x5 ∧ Int32.toInt x5 ≤ 65535) → (0 ≤ Int32.toInt x6 ∧ Int32.toInt x6 ≤ 65535) → (0 ≤ Int32.toInt x7 ∧ Int32.toInt x7 ≤ 2147483647) → (-1 ≤ Int32.toInt x8 ∧ Int32.toInt x8 ≤ 30) → (1 ≤ Int32.toInt x9 ∧ Int32.toInt x9 ≤ 31) → (0 ≤ Int32.toInt qF ∧ Int32.toInt qF ≤ 16) → (31 - Int32.toInt x9 < n47) → K47 x2 x3 x4 x5 x6 x7 x8 x9 qF jJ) : ∀ (n : Nat) (x2 x3 x4 x5 x6 x7 x8 x9 x10 x11 x12 qF : Int32) (jJ : Nat → Int32), (1 ≤ Int32.toInt x2 ∧ Int32.toInt x2 ≤ 30) → (0 ≤ Int32.toInt x3 ∧ Int32.toInt x3 ≤ 10) → (0 ≤ Int32.toInt x5 ∧ Int32.toInt x5 ≤ 65535) → (0 ≤ Int32.toInt x6 ∧ Int32.toInt x6 ≤ 65535) → (0 ≤ Int32.toInt x7 ∧ Int32.toInt x7 ≤ 2147483647) → (-1 ≤ Int32.toInt x8 ∧ Int32.toInt x8 ≤ 30) → (1 ≤ Int32.toInt x9 ∧ Int32.toInt x9 ≤ 30) → (0 ≤ Int32.toInt x10 ∧ Int32.toInt x10 ≤ 65535) → (0 ≤ Int32.toInt x12 ∧ Int32.toInt x12 ≤ 16) → (0 ≤ Int32.toInt qF ∧ Int32.toInt qF ≤ 16) → (31 - Int32.toInt x9 ≤ n47) → (16 - Int32.toInt x12 < (n : Int)) → wb_X9_autumn_91 post K47 bZ pE qA jC eO eW dO jD n x2 x3 x4 x5 x6 x7 x8 x9 x10 x11 x12 qF jJ := by
  intro n
  induction n with
  | zero =>
    intro x2 x3 x4 x5 x6 x7 x8 x9 x10 x11 x12 qF jJ h_x2 h_x3 h_x5 h_x6 h_x7 h_x8 h_x9 h_x10 h_x12 h_ro_size hn47 hm
    exfalso; omega
  | succ n ih =>
    intro x2 x3 x4 x5 x6 x7 x8 x9 x10 x11 x12 qF jJ h_x2 h_x3 h_x5 h_x6 h_x7 h_x8 h_x9 h_x10 h_x12 h_ro_size hn47 hm
    exact ts_X9_autumn_91 bZ pE qA jC eO eW dO jD h_tr_fruits h_no_today hpost hK47 ih x2 x3 x4 x5 x6 x7 x8 x9 x10 x11 x12 qF jJ h_x2 h_x3 h_x5 h_x6 h_x7 h_x8 h_x9 h_x10 h_x12 h_ro_size hn47 (by omega)
set_option maxHeartbeats 8000000 in
set_option maxRecDepth 200000 in
theorem ts_X9_autumn_47 {post : Int32 → Int32 → (Nat → Int32) → Prop} {next : Int32 → Int32 → Int32 → Int32 → Int32 → Int32 → Int32 → Int32 → Int32 → (Nat → Int32) → Prop} {n47 : Int} (bZ : Int32) (pE qA : Nat → Int32) (jC eO eW dO jD : Int32) (h_tr_fruits : 0 ≤ Int32.toInt bZ ∧ Int32.toInt bZ ≤ 16) (h_no_today : 0 ≤ Int32.toInt jD ∧ Int32.toInt jD ≤ 9) (hpost : ∀ (r : Int32) (ro_size' : Int32) (ro_numbers' : Nat → Int32), (-1 ≤ Int32.toInt r ∧ Int32.toInt r ≤ 63) → (0 ≤ Int32.toInt ro_size' ∧ Int32.toInt ro_size' ≤ 16) → post r ro_size' ro_numbers') (hKn : ∀ (x2 : Int32) (x3 : Int32) (x4 : Int32) (x5 : Int32) (x6 : Int32) (x7 : Int32) (x8 : Int32) (x9 : Int32) (qF : Int32) (jJ : Nat → Int32), (1 ≤ Int32.toInt x2 ∧ Int32.toInt x2 ≤ 30) → (0 ≤ Int32.toInt x3 ∧ Int32.toInt x3 ≤ 10) → (0 ≤ Int32.toInt x5 ∧ Int32.toInt x5 ≤ 65535) → (0 ≤ Int32.toInt x6 ∧ Int32.toInt x6 ≤ 65535) → (0 ≤ Int32.toInt x7 ∧ Int32.toInt x7 ≤ 2147483647) → (-1 ≤ Int32.toInt x8 ∧ Int32.toInt x8 ≤ 30) → (1 ≤ Int32.toInt x9 ∧ Int32.toInt x9 ≤ 31) → (0 ≤ Int32.toInt qF ∧ Int32.toInt qF ≤ 16) → (31 - Int32.toInt x9 < n47) → next x2 x3 x4 x5 x6 x7 x8 x9 qF jJ) (x2 x3 x4 x5 x6 x7 x8 x9 qF : Int32) (jJ : Nat → Int32) (h_x2 : 1 ≤ Int32.toInt x2 ∧ Int32.toInt x2 ≤ 30) (h_x3 : 0 ≤ Int32.toInt x3 ∧ Int32.toInt x3 ≤ 10) (h_x5 : 0 ≤ Int32.toInt x5 ∧ Int32.toInt x5 ≤ 65535) (h_x6 : 0 ≤ Int32.toInt x6 ∧ Int32.toInt x6 ≤ 65535) (h_x7 : 0 ≤ Int32.toInt x7 ∧ Int32.toInt x7 ≤ 2147483647) (h_x8 : -1 ≤ Int32.toInt x8 ∧ Int32.toInt x8 ≤ 30) (h_x9 : 1 ≤ Int32.toInt x9 ∧ Int32.toInt x9 ≤ 31) (h_ro_size : 0 ≤ Int32.toInt qF ∧ Int32.toInt qF ≤ 16) (hn47 : 31 - Int32.toInt x9 ≤ n47) : ws_X9_autumn_47 post next bZ pE qA jC eO eW dO jD x2 x3 x4 x5 x6 x7 x8 x9 qF jJ := by
  have l0 := li_0
  have l1 := li_1
  have l2 := li_1431655765
  have l3 := li_16
  have l4 := li_252645135
  have l5 := li_63
  have l6 := li_858993459
  have l7 := li_9
  refine And.intro (fun c43 => ?_) (fun c43 => ?_)
  · skip
    have c43 := (fa_lt _ _).mp c43
    refine t_X3_worthOf h_tr_fruits (fun r44 => ?_)
    refine And.intro (fun h9 => absurd h9 (by decide)) (fun _ => ?_)
    refine And.intro (t_in (by omega)) ?_
    intro v45 ev45
    have f46 : Int32.toInt (0 + 1) = Int32.toInt (0 : Int32) + Int32.toInt (1 : Int32) := ta_add _ _ (by omega)
    rw [← ev45] at f46
    refine And.intro (fun c47 => ?_) (fun c47 => ?_)
    · skip
      have c47 := (fa_le _ _).mp c47
      exfalso; omega
    · skip
      have c47 := mt (fa_le _ _).mpr c47
      refine And.intro (t_in (by omega)) ?_
      intro v48 ev48
      have f49 : Int32.toInt (v45 + 1) = Int32.toInt v45 + Int32.toInt (1 : Int32) := ta_add _ _ (by omega)
      rw [← ev48] at f49
      refine And.intro (fun c50 => ?_) (fun c50 => ?_)
      · skip
        have c50 := (fa_le _ _).mp c50
        exfalso; omega
      · skip
        have c50 := mt (fa_le _ _).mpr c50
        refine And.intro (t_in (by omega)) ?_
        intro v51 ev51
        have f52 : Int32.toInt (v48 + 1) = Int32.toInt v48 + Int32.toInt (1 : Int32) := ta_add _ _ (by omega)
        rw [← ev51] at f52
        intro v53 ev53
        intro v54 ev54
        have f56 := ti_andr v53 1431655765 (by omega)
        have f55 : Int32.toInt (x6 - (v53 &&& 1431655765)) = Int32.toInt x6 - Int32.toInt (v53 &&& 1431655765) := ta_sub _ _ (by omega)
        rw [← ev54] at f55
        intro v57 ev57
        have f58 := ti_andr v54 858993459 (by omega)
        have hv57 := congrArg Int32.toInt ev57
        intro v59 ev59
        intro v60 ev60
        have f62 := ti_andr v59 858993459 (by omega)
        have f61 : Int32.toInt (v57 + (v59 &&& 858993459)) = Int32.toInt v57 + Int32.toInt (v59 &&& 858993459) := ta_add _ _ (by omega)
        rw [← ev60] at f61
        intro v63 ev63
        have hv63 := congrArg Int32.toInt ev63
        intro v65 ev65
        have f66 := ti_andr v63 252645135 (by omega)
        have hv65 := congrArg Int32.toInt ev65
        intro v67 ev67
        have hv67 := congrArg Int32.toInt ev67
        intro v69 ev69
        have hv69 := congrArg Int32.toInt ev69
        have f71 := ti_andr v69 63 (by omega)
        exact hpost _ _ _ (by omega) (by omega)
  · skip
    have c43 := mt (fa_lt _ _).mpr c43
    intro v72 ev72
    have f74 := ti_andl x5 (x6 ^^^ (-1)) (by omega)
    have hv72 := congrArg Int32.toInt ev72
    intro v75 ev75
    have f76 : Int32.toInt (jD + x9) = Int32.toInt jD + Int32.toInt x9 := ta_add _ _ (by omega)
    rw [← ev75] at f76
    intro v77 ev77
    have f78 := ti_min (9 : Int32) v75
    have hv77 := congrArg Int32.toInt ev77
    refine t_X3_ripeBy (by omega) h_tr_fruits (fun r79 h_r79 => ?_)
    intro v80 ev80
    have f81 := ti_andr v72 r79 (by omega)
    have f82 := ti_andl v72 r79 (by omega)
    have hv80 := congrArg Int32.toInt ev80
    have f83 := tp_r x7
    have f84 := tp_r x4
    exact ⟨18, tb_X9_autumn_91 bZ pE qA jC eO eW dO jD h_tr_fruits h_no_today hpost hKn _ x2 x3 x4 x5 x6 x7 x8 x9 v80 0 0 qF jJ h_x2 h_x3 h_x5 h_x6 h_x7 h_x8 (by omega) (by omega) (by omega) h_ro_size hn47 (by omega)⟩
set_option maxHeartbeats 8000000 in
set_option maxRecDepth 200000 in
theorem tb_X9_autumn_47 {post : Int32 → Int32 → (Nat → Int32) → Prop} (bZ : Int32) (pE qA : Nat → Int32) (jC eO eW dO jD : Int32) (h_tr_fruits : 0 ≤ Int32.toInt bZ ∧ Int32.toInt bZ ≤ 16) (h_no_today : 0 ≤ Int32.toInt jD ∧ Int32.toInt jD ≤ 9) (hpost : ∀ (r : Int32) (ro_size' : Int32) (ro_numbers' : Nat → Int32), (-1 ≤ Int32.toInt r ∧ Int32.toInt r ≤ 63) → (0 ≤ Int32.toInt ro_size' ∧ Int32.toInt ro_size' ≤ 16) → post r ro_size' ro_numbers') : ∀ (n : Nat) (x2 x3 x4 x5 x6 x7 x8 x9 qF : Int32) (jJ : Nat → Int32), (1 ≤ Int32.toInt x2 ∧ Int32.toInt x2 ≤ 30) → (0 ≤ Int32.toInt x3 ∧ Int32.toInt x3 ≤ 10) → (0 ≤ Int32.toInt x5 ∧ Int32.toInt x5 ≤ 65535) → (0 ≤ Int32.toInt x6 ∧ Int32.toInt x6 ≤ 65535) → (0 ≤ Int32.toInt x7 ∧ Int32.toInt x7 ≤ 2147483647) → (-1 ≤ Int32.toInt x8 ∧ Int32.toInt x8 ≤ 30) → (1 ≤ Int32.toInt x9 ∧ Int32.toInt x9 ≤ 31) → (0 ≤ Int32.toInt qF ∧ Int32.toInt qF ≤ 16) → (31 - Int32.toInt x9 < (n : Int)) → wb_X9_autumn_47 post bZ pE qA jC eO eW dO jD n x2 x3 x4 x5 x6 x7 x8 x9 qF jJ := by
  intro n
  induction n with
  | zero =>
    intro x2 x3 x4 x5 x6 x7 x8 x9 qF jJ h_x2 h_x3 h_x5 h_x6 h_x7 h_x8 h_x9 h_ro_size hm
    exfalso; omega
  | succ n ih =>
    intro x2 x3 x4 x5 x6 x7 x8 x9 qF jJ h_x2 h_x3 h_x5 h_x6 h_x7 h_x8 h_x9 h_ro_size hm
    exact ts_X9_autumn_47 bZ pE qA jC eO eW dO jD h_tr_fruits h_no_today hpost ih x2 x3 x4 x5 x6 x7 x8 x9 qF jJ h_x2 h_x3 h_x5 h_x6 h_x7 h_x8 h_x9 h_ro_size (by omega)
set_option maxHeartbeats 8000000 in
set_option maxRecDepth 200000 in
theorem t_X9_autumn {post : Int32 → Int32 → (Nat → Int32) → Prop} {p0 p1 p2 bZ : Int32} {pE qA : Nat → Int32} {jC eO eW dO jD qF : Int32} {jJ : Nat → Int32} (h_tr_fruits : 0 ≤ Int32.toInt bZ ∧ Int32.toInt bZ ≤ 16) (h_no_today : 0 ≤ Int32.toInt jD ∧ Int32.toInt jD ≤ 9) (h_ro_size : 0 ≤ Int32.toInt qF ∧ Int32.toInt qF ≤ 16) (hpost : ∀ (r : Int32) (ro_size' : Int32) (ro_numbers' : Nat → Int32), (-1 ≤ Int32.toInt r ∧ Int32.toInt r ≤ 63) → (0 ≤ Int32.toInt ro_size' ∧ Int32.toInt ro_size' ≤ 16) → post r ro_size' ro_numbers') : wp_X9_autumn post p0 p1 p2 bZ pE qA jC eO eW dO jD qF jJ := by
  have l0 := li_m1
  have l1 := li_0
  have l2 := li_1
  have l3 := li_10
  have l4 := li_30
  have f86 := tp_r p1
  refine And.intro (fun c85 => ?_) (fun c85 => ?_)
  · skip
    have c85 := (fa_lt _ _).mp c85
    exact hpost _ _ _ (by omega) h_ro_size
  · skip
    have c85 := mt (fa_lt _ _).mpr c85
    refine And.intro (fun c87 => ?_) (fun c87 => ?_)
    · skip
      have c87 := (fa_lt _ _).mp c87
      exact hpost _ _ _ (by omega) h_ro_size
    · skip
      have c87 := mt (fa_lt _ _).mpr c87
      have f89 := tp_r p2
      refine And.intro (fun c88 => ?_) (fun c88 => ?_)
      · skip
        have c88 := (fa_lt _ _).mp c88
        exact hpost _ _ _ (by omega) h_ro_size
      · skip
        have c88 := mt (fa_lt _ _).mpr c88
        refine And.intro (fun c90 => ?_) (fun c90 => ?_)
        · skip
          have c90 := (fa_le _ _).mp c90
          intro v91 ev91
          have f92 := ti_shl1 16 65536 bZ (by decide) (by omega)
          have hv91 := congrArg Int32.toInt ev91
          intro v93 ev93
          intro v94 ev94
          have f96 : Int32.toInt (v91 - 1) = Int32.toInt v91 - Int32.toInt (1 : Int32) := ta_sub _ _ (by omega)
          have f97 := ti_andl (v91 - 1) (v94 ^^^ (-1)) (by omega)
          have f98 := tp_r p0
          exact ⟨32, tb_X9_autumn_47 bZ pE qA jC eO eW dO jD h_tr_fruits h_no_today hpost _ p1 p2 p0 ((v91 - 1) &&& (v94 ^^^ (-1))) 0 0 (-1) 1 qF jJ (by omega) (by omega) (by omega) (by omega) (by omega) (by omega) (by omega) h_ro_size (by omega)⟩
        · skip
          have c90 := mt (fa_le _ _).mpr c90
          exact hpost _ _ _ (by omega) h_ro_size
set_option maxHeartbeats 8000000 in
set_option maxRecDepth 200000 in
theorem t_X9_keep {post : Int32 → (Nat → Int32) → (Nat → Int32) → Prop} {p0 jC eO eW dO fJ fY jD nG : Int32} {qR tJ : Nat → Int32} (h_no_ladder : -1 ≤ Int32.toInt fJ ∧ Int32.toInt fJ ≤ 7) (h_no_today : 0 ≤ Int32.toInt jD ∧ Int32.toInt jD ≤ 9) (e0_pa_keptCells : ∀ k : Nat, k % 8 = 4 → -1 ≤ Int32.toInt (qR k) ∧ Int32.toInt (qR k) ≤ 7) (e1_pa_keptCells : ∀ k : Nat, k % 8 = 6 → 0 ≤ Int32.toInt (qR k) ∧ Int32.toInt (qR k) ≤ 9) (h_pa_isKept : ∀ k : Nat, 0 ≤ Int32.toInt (tJ k) ∧ Int32.toInt (tJ k) ≤ 1) (hpost : ∀ (r : Int32) (pa_keptCells' : Nat → Int32) (pa_isKept' : Nat → Int32), (0 ≤ Int32.toInt r ∧ Int32.toInt r ≤ 1) → (∀ k : Nat, k % 8 = 4 → -1 ≤ Int32.toInt (pa_keptCells' k) ∧ Int32.toInt (pa_keptCells' k) ≤ 7) → (∀ k : Nat, k % 8 = 6 → 0 ≤ Int32.toInt (pa_keptCells' k) ∧ Int32.toInt (pa_keptCells' k) ≤ 9) → (∀ k : Nat, 0 ≤ Int32.toInt (pa_isKept' k) ∧ Int32.toInt (pa_isKept' k) ≤ 1) → ((0 ≤ Int32.toInt p0 ∧ Int32.toInt p0 ≤ 1 ∧ Int32.toInt r = 1) ∨ ((Int32.toInt p0 < 0 ∨ 1 < Int32.toInt p0) ∧ Int32.toInt r = 0)) → post r pa_keptCells' pa_isKept') : wp_X9_keep post p0 jC eO eW dO fJ fY jD nG qR tJ := by
  have l0 := li_0
  have l1 := li_1
  have l2 := li_16
  have l3 := li_2
  have l4 := li_3
  have l5 := li_4
  have l6 := li_5
  have l7 := li_6
  have l8 := li_7
  have l9 := li_8
  have f2 := tp_r p0
  refine And.intro (fun c1 => ?_) (fun c1 => ?_)
  · skip
    have c1 := (fa_lt _ _).mp c1
    refine And.intro (t_bool (by omega)) ?_
    exact hpost _ _ _ (by omega) e0_pa_keptCells e1_pa_keptCells h_pa_isKept (by omega)
  · skip
    have c1 := mt (fa_lt _ _).mpr c1
    refine And.intro (fun c3 => ?_) (fun c3 => ?_)
    · skip
      have c3 := (fa_lt _ _).mp c3
      intro v4 ev4
      have f5 : Int32.toInt (p0 * 8) = Int32.toInt p0 * 8 := ta_mulc _ _ (by decide) (by omega)
      rw [← ev4] at f5
      refine And.intro (fun c6 => ?_) (fun c6 => ?_)
      · skip
        have c6 := (fa_lt _ _).mp c6
        exfalso; omega
      · skip
        have c6 := mt (fa_lt _ _).mpr c6
        have f8 : Int32.toInt (16 - 8) = Int32.toInt (16 : Int32) - Int32.toInt (8 : Int32) := ta_sub _ _ (by omega)
        refine And.intro (fun c7 => ?_) (fun c7 => ?_)
        · skip
          have c7 := (fa_le _ _).mp c7
          refine And.intro (t_in (by omega)) ?_
          have f10 := tp_r jC
          have e9 : ∀ k : Nat, k % 8 = 4 → -1 ≤ Int32.toInt ((upd qR v4.toNatClampNeg jC) k) ∧ Int32.toInt ((upd qR v4.toNatClampNeg jC) k) ≤ 7 := t_updc (C := fun k => k % 8 = 4) e0_pa_keptCells (fun hk => by have e9 : v4.toNatClampNeg = (Int32.toInt v4).toNat := rfl; have hk : v4.toNatClampNeg % 8 = 4 := hk; omega)
          have e11 : ∀ k : Nat, k % 8 = 6 → 0 ≤ Int32.toInt ((upd qR v4.toNatClampNeg jC) k) ∧ Int32.toInt ((upd qR v4.toNatClampNeg jC) k) ≤ 9 := t_updc (C := fun k => k % 8 = 6) e1_pa_keptCells (fun hk => by have e9 : v4.toNatClampNeg = (Int32.toInt v4).toNat := rfl; have hk : v4.toNatClampNeg % 8 = 6 := hk; omega)
          intro v12 ev12
          have f13 : Int32.toInt (v4 + 1) = Int32.toInt v4 + Int32.toInt (1 : Int32) := ta_add _ _ (by omega)
          rw [← ev12] at f13
          refine And.intro (t_in (by omega)) ?_
          have f15 := tp_r eO
          have e14 : ∀ k : Nat, k % 8 = 4 → -1 ≤ Int32.toInt ((upd (upd qR v4.toNatClampNeg jC) v12.toNatClampNeg eO) k) ∧ Int32.toInt ((upd (upd qR v4.toNatClampNeg jC) v12.toNatClampNeg eO) k) ≤ 7 := t_updc (C := fun k => k % 8 = 4) e9 (fun hk => by have e9 : v12.toNatClampNeg = (Int32.toInt v12).toNat := rfl; have hk : v12.toNatClampNeg % 8 = 4 := hk; omega)
          have e16 : ∀ k : Nat, k % 8 = 6 → 0 ≤ Int32.toInt ((upd (upd qR v4.toNatClampNeg jC) v12.toNatClampNeg eO) k) ∧ Int32.toInt ((upd (upd qR v4.toNatClampNeg jC) v12.toNatClampNeg eO) k) ≤ 9 := t_updc (C := fun k => k % 8 = 6) e11 (fun hk => by have e9 : v12.toNatClampNeg = (Int32.toInt v12).toNat := rfl; have hk : v12.toNatClampNeg % 8 = 6 := hk; omega)
          intro v17 ev17
          have f18 : Int32.toInt (v4 + 2) = Int32.toInt v4 + Int32.toInt (2 : Int32) := ta_add _ _ (by omega)
          rw [← ev17] at f18
          refine And.intro (t_in (by omega)) ?_
          have f20 := tp_r eW
          have e19 : ∀ k : Nat, k % 8 = 4 → -1 ≤ Int32.toInt ((upd (upd (upd qR v4.toNatClampNeg jC) v12.toNatClampNeg eO) v17.toNatClampNeg eW) k) ∧ Int32.toInt ((upd (upd (upd qR v4.toNatClampNeg jC) v12.toNatClampNeg eO) v17.toNatClampNeg eW) k) ≤ 7 := t_updc (C := fun k => k % 8 = 4) e14 (fun hk => by have e9 : v17.toNatClampNeg = (Int32.toInt v17).toNat := rfl; have hk : v17.toNatClampNeg % 8 = 4 := hk; omega)
          have e21 : ∀ k : Nat, k % 8 = 6 → 0 ≤ Int32.toInt ((upd (upd (upd qR v4.toNatClampNeg jC) v12.toNatClampNeg eO) v17.toNatClampNeg eW) k) ∧ Int32.toInt ((upd (upd (upd qR v4.toNatClampNeg jC) v12.toNatClampNeg eO) v17.toNatClampNeg eW) k) ≤ 9 := t_updc (C := fun k => k % 8 = 6) e16 (fun hk => by have e9 : v17.toNatClampNeg = (Int32.toInt v17).toNat := rfl; have hk : v17.toNatClampNeg % 8 = 6 := hk; omega)
          intro v22 ev22
          have f23 : Int32.toInt (v4 + 3) = Int32.toInt v4 + Int32.toInt (3 : Int32) := ta_add _ _ (by omega)
          rw [← ev22] at f23
          refine And.intro (t_in (by omega)) ?_
          have f25 := tp_r dO
          have e24 : ∀ k : Nat, k % 8 = 4 → -1 ≤ Int32.toInt ((upd (upd (upd (upd qR v4.toNatClampNeg jC) v12.toNatClampNeg eO) v17.toNatClampNeg eW) v22.toNatClampNeg dO) k) ∧ Int32.toInt ((upd (upd (upd (upd qR v4.toNatClampNeg jC) v12.toNatClampNeg eO) v17.toNatClampNeg eW) v22.toNatClampNeg dO) k) ≤ 7 := t_updc (C := fun k => k % 8 = 4) e19 (fun hk => by have e9 : v22.toNatClampNeg = (Int32.toInt v22).toNat := rfl; have hk : v22.toNatClampNeg % 8 = 4 := hk; omega)
          have e26 : ∀ k : Nat, k % 8 = 6 → 0 ≤ Int32.toInt ((upd (upd (upd (upd qR v4.toNatClampNeg jC) v12.toNatClampNeg eO) v17.toNatClampNeg eW) v22.toNatClampNeg dO) k) ∧ Int32.toInt ((upd (upd (upd (upd qR v4.toNatClampNeg jC) v12.toNatClampNeg eO) v17.toNatClampNeg eW) v22.toNatClampNeg dO) k) ≤ 9 := t_updc (C := fun k => k % 8 = 6) e21 (fun hk => by have e9 : v22.toNatClampNeg = (Int32.toInt v22).toNat := rfl; have hk : v22.toNatClampNeg % 8 = 6 := hk; omega)
          intro v27 ev27
          have f28 : Int32.toInt (v4 + 4) = Int32.toInt v4 + Int32.toInt (4 : Int32) := ta_add _ _ (by omega)
          rw [← ev27] at f28
          refine And.intro (t_in (by omega)) ?_
          have e29 : ∀ k : Nat, k % 8 = 4 → -1 ≤ Int32.toInt ((upd (upd (upd (upd (upd qR v4.toNatClampNeg jC) v12.toNatClampNeg eO) v17.toNatClampNeg eW) v22.toNatClampNeg dO) v27.toNatClampNeg fJ) k) ∧ Int32.toInt ((upd (upd (upd (upd (upd qR v4.toNatClampNeg jC) v12.toNatClampNeg eO) v17.toNatClampNeg eW) v22.toNatClampNeg dO) v27.toNatClampNeg fJ) k) ≤ 7 := t_updc (C := fun k => k % 8 = 4) e24 (fun hk => by have e9 : v27.toNatClampNeg = (Int32.toInt v27).toNat := rfl; have hk : v27.toNatClampNeg % 8 = 4 := hk; omega)
          have e30 : ∀ k : Nat, k % 8 = 6 → 0 ≤ Int32.toInt ((upd (upd (upd (upd (upd qR v4.toNatClampNeg jC) v12.toNatClampNeg eO) v17.toNatClampNeg eW) v22.toNatClampNeg dO) v27.toNatClampNeg fJ) k) ∧ Int32.toInt ((upd (upd (upd (upd (upd qR v4.toNatClampNeg jC) v12.toNatClampNeg eO) v17.toNatClampNeg eW) v22.toNatClampNeg dO) v27.toNatClampNeg fJ) k) ≤ 9 := t_updc (C := fun k => k % 8 = 6) e26 (fun hk => by have e9 : v27.toNatClampNeg = (Int32.toInt v27).toNat := rfl; have hk : v27.toNatClampNeg % 8 = 6 := hk; omega)
          intro v31 ev31
          have f32 : Int32.toInt (v4 + 5) = Int32.toInt v4 + Int32.toInt (5 : Int32) := ta_add _ _ (by omega)
          rw [← ev31] at f32
          refine And.intro (t_in (by omega)) ?_
          have f34 := tp_r fY
          have e33 : ∀ k : Nat, k % 8 = 4 → -1 ≤ Int32.toInt ((upd (upd (upd (upd (upd (upd qR v4.toNatClampNeg jC) v12.toNatClampNeg eO) v17.toNatClampNeg eW) v22.toNatClampNeg dO) v27.toNatClampNeg fJ) v31.toNatClampNeg fY) k) ∧ Int32.toInt ((upd (upd (upd (upd (upd (upd qR v4.toNatClampNeg jC) v12.toNatClampNeg eO) v17.toNatClampNeg eW) v22.toNatClampNeg dO) v27.toNatClampNeg fJ) v31.toNatClampNeg fY) k) ≤ 7 := t_updc (C := fun k => k % 8 = 4) e29 (fun hk => by have e9 : v31.toNatClampNeg = (Int32.toInt v31).toNat := rfl; have hk : v31.toNatClampNeg % 8 = 4 := hk; omega)
          have e35 : ∀ k : Nat, k % 8 = 6 → 0 ≤ Int32.toInt ((upd (upd (upd (upd (upd (upd qR v4.toNatClampNeg jC) v12.toNatClampNeg eO) v17.toNatClampNeg eW) v22.toNatClampNeg dO) v27.toNatClampNeg fJ) v31.toNatClampNeg fY) k) ∧ Int32.toInt ((upd (upd (upd (upd (upd (upd qR v4.toNatClampNeg jC) v12.toNatClampNeg eO) v17.toNatClampNeg eW) v22.toNatClampNeg dO) v27.toNatClampNeg fJ) v31.toNatClampNeg fY) k) ≤ 9 := t_updc (C := fun k => k % 8 = 6) e30 (fun hk => by have e9 : v31.toNatClampNeg = (Int32.toInt v31).toNat := rfl; have hk : v31.toNatClampNeg % 8 = 6 := hk; omega)
          intro v36 ev36
          have f37 : Int32.toInt (v4 + 6) = Int32.toInt v4 + Int32.toInt (6 : Int32) := ta_add _ _ (by omega)
          rw [← ev36] at f37
          refine And.intro (t_in (by omega)) ?_
          have e38 : ∀ k : Nat, k % 8 = 4 → -1 ≤ Int32.toInt ((upd (upd (upd (upd (upd (upd (upd qR v4.toNatClampNeg jC) v12.toNatClampNeg eO) v17.toNatClampNeg eW) v22.toNatClampNeg dO) v27.toNatClampNeg fJ) v31.toNatClampNeg fY) v36.toNatClampNeg jD) k) ∧ Int32.toInt ((upd (upd (upd (upd (upd (upd (upd qR v4.toNatClampNeg jC) v12.toNatClampNeg eO) v17.toNatClampNeg eW) v22.toNatClampNeg dO) v27.toNatClampNeg fJ) v31.toNatClampNeg fY) v36.toNatClampNeg jD) k) ≤ 7 := t_updc (C := fun k => k % 8 = 4) e33 (fun hk => by have e9 : v36.toNatClampNeg = (Int32.toInt v36).toNat := rfl; have hk : v36.toNatClampNeg % 8 = 4 := hk; omega)
          have e39 : ∀ k : Nat, k % 8 = 6 → 0 ≤ Int32.toInt ((upd (upd (upd (upd (upd (upd (upd qR v4.toNatClampNeg jC) v12.toNatClampNeg eO) v17.toNatClampNeg eW) v22.toNatClampNeg dO) v27.toNatClampNeg fJ) v31.toNatClampNeg fY) v36.toNatClampNeg jD) k) ∧ Int32.toInt ((upd (upd (upd (upd (upd (upd (upd qR v4.toNatClampNeg jC) v12.toNatClampNeg eO) v17.toNatClampNeg eW) v22.toNatClampNeg dO) v27.toNatClampNeg fJ) v31.toNatClampNeg fY) v36.toNatClampNeg jD) k) ≤ 9 := t_updc (C := fun k => k % 8 = 6) e35 (fun hk => by have e9 : v36.toNatClampNeg = (Int32.toInt v36).toNat := rfl; have hk : v36.toNatClampNeg % 8 = 6 := hk; omega)
          intro v40 ev40
          have f41 : Int32.toInt (v4 + 7) = Int32.toInt v4 + Int32.toInt (7 : Int32) := ta_add _ _ (by omega)
          rw [← ev40] at f41
          refine And.intro (t_in (by omega)) ?_
          have f43 := tp_r nG
          have e42 : ∀ k : Nat, k % 8 = 4 → -1 ≤ Int32.toInt ((upd (upd (upd (upd (upd (upd (upd (upd qR v4.toNatClampNeg jC) v12.toNatClampNeg eO) v17.toNatClampNeg eW) v22.toNatClampNeg dO) v27.toNatClampNeg fJ) v31.toNatClampNeg fY) v36.toNatClampNeg jD) v40.toNatClampNeg nG) k) ∧ Int32.toInt ((upd (upd (upd (upd (upd (upd (upd (upd qR v4.toNatClampNeg jC) v12.toNatClampNeg eO) v17.toNatClampNeg eW) v22.toNatClampNeg dO) v27.toNatClampNeg fJ) v31.toNatClampNeg fY) v36.toNatClampNeg jD) v40.toNatClampNeg nG) k) ≤ 7 := t_updc (C := fun k => k % 8 = 4) e38 (fun hk => by have e9 : v40.toNatClampNeg = (Int32.toInt v40).toNat := rfl; have hk : v40.toNatClampNeg % 8 = 4 := hk; omega)
          have e44 : ∀ k : Nat, k % 8 = 6 → 0 ≤ Int32.toInt ((upd (upd (upd (upd (upd (upd (upd (upd qR v4.toNatClampNeg jC) v12.toNatClampNeg eO) v17.toNatClampNeg eW) v22.toNatClampNeg dO) v27.toNatClampNeg fJ) v31.toNatClampNeg fY) v36.toNatClampNeg jD) v40.toNatClampNeg nG) k) ∧ Int32.toInt ((upd (upd (upd (upd (upd (upd (upd (upd qR v4.toNatClampNeg jC) v12.toNatClampNeg eO) v17.toNatClampNeg eW) v22.toNatClampNeg dO) v27.toNatClampNeg fJ) v31.toNatClampNeg fY) v36.toNatClampNeg jD) v40.toNatClampNeg nG) k) ≤ 9 := t_updc (C := fun k => k % 8 = 6) e39 (fun hk => by have e9 : v40.toNatClampNeg = (Int32.toInt v40).toNat := rfl; have hk : v40.toNatClampNeg % 8 = 6 := hk; omega)
          refine And.intro (t_in (by omega)) ?_
          have qa45 := ti_nar_boolean 1
          have a45 : ∀ k : Nat, 0 ≤ Int32.toInt ((upd tJ p0.toNatClampNeg (vp_nar .boolean 1)) k) ∧ Int32.toInt ((upd tJ p0.toNatClampNeg (vp_nar .boolean 1)) k) ≤ 1 := t_upd (fun k => by have q9 := h_pa_isKept k; omega) (by omega)
          refine And.intro (t_bool (by omega)) ?_
          exact hpost _ _ _ (by omega) e42 e44 (fun k => by have q9 := a45 k; omega) (by omega)
        · skip
          have c7 := mt (fa_le _ _).mpr c7
          exfalso; omega
    · skip
      have c3 := mt (fa_lt _ _).mpr c3
      refine And.intro (t_bool (by omega)) ?_
      exact hpost _ _ _ (by omega) e0_pa_keptCells e1_pa_keptCells h_pa_isKept (by omega)
set_option maxHeartbeats 8000000 in
set_option maxRecDepth 200000 in
theorem t_X9_again {post : Int32 → Int32 → Int32 → Int32 → Int32 → Int32 → Int32 → Int32 → Int32 → Int32 → Prop} {p0 jC eO eW dO fJ fY jD nG oE : Int32} {qR tJ : Nat → Int32} (h_no_ladder : -1 ≤ Int32.toInt fJ ∧ Int32.toInt fJ ≤ 7) (h_no_today : 0 ≤ Int32.toInt jD ∧ Int32.toInt jD ≤ 9) (h_pa_undoable : 0 ≤ Int32.toInt oE ∧ Int32.toInt oE ≤ 12) (e0_pa_keptCells : ∀ k : Nat, k % 8 = 4 → -1 ≤ Int32.toInt (qR k) ∧ Int32.toInt (qR k) ≤ 7) (e1_pa_keptCells : ∀ k : Nat, k % 8 = 6 → 0 ≤ Int32.toInt (qR k) ∧ Int32.toInt (qR k) ≤ 9) (h_pa_isKept : ∀ k : Nat, 0 ≤ Int32.toInt (tJ k) ∧ Int32.toInt (tJ k) ≤ 1) (hpost : ∀ (r : Int32) (no_apron' : Int32) (no_basket' : Int32) (no_ground' : Int32) (no_bruised' : Int32) (no_ladder' : Int32) (no_helper' : Int32) (no_today' : Int32) (no_clock' : Int32) (pa_undoable' : Int32), (0 ≤ Int32.toInt r ∧ Int32.toInt r ≤ 1) → (-1 ≤ Int32.toInt no_ladder' ∧ Int32.toInt no_ladder' ≤ 7) → (0 ≤ Int32.toInt no_today' ∧ Int32.toInt no_today' ≤ 9) → (0 ≤ Int32.toInt pa_undoable' ∧ Int32.toInt pa_undoable' ≤ 12) → post r no_apron' no_basket' no_ground' no_bruised' no_ladder' no_helper' no_today' no_clock' pa_undoable') : wp_X9_again post p0 jC eO eW dO fJ fY jD nG oE qR tJ := by
  have l0 := li_0
  have l1 := li_1
  have l2 := li_16
  have l3 := li_2
  have l4 := li_3
  have l5 := li_4
  have l6 := li_5
  have l7 := li_6
  have l8 := li_7
  have l9 := li_8
  have f2 := tp_r p0
  refine And.intro (fun c1 => ?_) (fun c1 => ?_)
  · skip
    have c1 := (fa_lt _ _).mp c1
    refine And.intro (t_bool (by omega)) ?_
    exact hpost _ _ _ _ _ _ _ _ _ _ (by omega) h_no_ladder h_no_today h_pa_undoable
  · skip
    have c1 := mt (fa_lt _ _).mpr c1
    refine And.intro (fun c3 => ?_) (fun c3 => ?_)
    · skip
      have c3 := (fa_le _ _).mp c3
      refine And.intro (t_bool (by omega)) ?_
      exact hpost _ _ _ _ _ _ _ _ _ _ (by omega) h_no_ladder h_no_today h_pa_undoable
    · skip
      have c3 := mt (fa_le _ _).mpr c3
      refine And.intro (t_in (by omega)) ?_
      have f5 := h_pa_isKept p0.toNatClampNeg
      refine And.intro (fun c4 => ?_) (fun c4 => ?_)
      · skip
        have c4 := mt (fa_eq _ _).mpr c4
        intro v6 ev6
        have f7 : Int32.toInt (p0 * 8) = Int32.toInt p0 * 8 := ta_mulc _ _ (by decide) (by omega)
        rw [← ev6] at f7
        refine And.intro (fun c8 => ?_) (fun c8 => ?_)
        · skip
          have c8 := (fa_lt _ _).mp c8
          exfalso; omega
        · skip
          have c8 := mt (fa_lt _ _).mpr c8
          have f10 : Int32.toInt (16 - 8) = Int32.toInt (16 : Int32) - Int32.toInt (8 : Int32) := ta_sub _ _ (by omega)
          refine And.intro (fun c9 => ?_) (fun c9 => ?_)
          · skip
            have c9 := (fa_le _ _).mp c9
            refine And.intro (t_in (by omega)) ?_
            intro v11 ev11
            have hv11 := congrArg Int32.toInt ev11
            intro v13 ev13
            have f14 : Int32.toInt (v6 + 1) = Int32.toInt v6 + Int32.toInt (1 : Int32) := ta_add _ _ (by omega)
            rw [← ev13] at f14
            refine And.intro (t_in (by omega)) ?_
            intro v15 ev15
            have hv15 := congrArg Int32.toInt ev15
            intro v17 ev17
            have f18 : Int32.toInt (v6 + 2) = Int32.toInt v6 + Int32.toInt (2 : Int32) := ta_add _ _ (by omega)
            rw [← ev17] at f18
            refine And.intro (t_in (by omega)) ?_
            intro v19 ev19
            have hv19 := congrArg Int32.toInt ev19
            intro v21 ev21
            have f22 : Int32.toInt (v6 + 3) = Int32.toInt v6 + Int32.toInt (3 : Int32) := ta_add _ _ (by omega)
            rw [← ev21] at f22
            refine And.intro (t_in (by omega)) ?_
            intro v23 ev23
            have hv23 := congrArg Int32.toInt ev23
            intro v25 ev25
            have f26 : Int32.toInt (v6 + 4) = Int32.toInt v6 + Int32.toInt (4 : Int32) := ta_add _ _ (by omega)
            rw [← ev25] at f26
            refine And.intro (t_in (by omega)) ?_
            have q27 := e0_pa_keptCells v25.toNatClampNeg (by have e9 : v25.toNatClampNeg = (Int32.toInt v25).toNat := rfl; omega)
            intro v28 ev28
            have hv28 := congrArg Int32.toInt ev28
            intro v30 ev30
            have f31 : Int32.toInt (v6 + 5) = Int32.toInt v6 + Int32.toInt (5 : Int32) := ta_add _ _ (by omega)
            rw [← ev30] at f31
            refine And.intro (t_in (by omega)) ?_
            intro v32 ev32
            have hv32 := congrArg Int32.toInt ev32
            intro v34 ev34
            have f35 : Int32.toInt (v6 + 6) = Int32.toInt v6 + Int32.toInt (6 : Int32) := ta_add _ _ (by omega)
            rw [← ev34] at f35
            refine And.intro (t_in (by omega)) ?_
            have q36 := e1_pa_keptCells v34.toNatClampNeg (by have e9 : v34.toNatClampNeg = (Int32.toInt v34).toNat := rfl; omega)
            intro v37 ev37
            have hv37 := congrArg Int32.toInt ev37
            intro v39 ev39
            have f40 : Int32.toInt (v6 + 7) = Int32.toInt v6 + Int32.toInt (7 : Int32) := ta_add _ _ (by omega)
            rw [← ev39] at f40
            refine And.intro (t_in (by omega)) ?_
            intro v41 ev41
            have hv41 := congrArg Int32.toInt ev41
            refine And.intro (t_bool (by omega)) ?_
            exact hpost _ _ _ _ _ _ _ _ _ _ (by omega) (by omega) (by omega) (by omega)
          · skip
            have c9 := mt (fa_le _ _).mpr c9
            exfalso; omega
      · skip
        have c4 := (fa_eq _ _).mp c4
        refine And.intro (t_bool (by omega)) ?_
        exact hpost _ _ _ _ _ _ _ _ _ _ (by omega) h_no_ladder h_no_today h_pa_undoable
set_option maxHeartbeats 8000000 in
set_option maxRecDepth 200000 in
theorem t_X9_count {post : Int32 → Prop} {p0 qI bZ bD : Int32} {pE : Nat → Int32} {jC eO eW dO fJ jD nG oE qF : Int32} (h_tx_length : 0 ≤ Int32.toInt qI ∧ Int32.toInt qI ≤ 80) (h_tr_fruits : 0 ≤ Int32.toInt bZ ∧ Int32.toInt bZ ≤ 16) (h_tr_standings : 0 ≤ Int32.toInt bD ∧ Int32.toInt bD ≤ 8) (h_no_ladder : -1 ≤ Int32.toInt fJ ∧ Int32.toInt fJ ≤ 7) (h_no_today : 0 ≤ Int32.toInt jD ∧ Int32.toInt jD ≤ 9) (h_pa_undoable : 0 ≤ Int32.toInt oE ∧ Int32.toInt oE ≤ 12) (h_ro_size : 0 ≤ Int32.toInt qF ∧ Int32.toInt qF ≤ 16) (hpost : ∀ (r : Int32) , post r) : wp_X9_count post p0 qI bZ bD pE jC eO eW dO fJ jD nG oE qF := by
  have l0 := li_0
  have l1 := li_1
  have l2 := li_10
  have l3 := li_11
  have l4 := li_12
  have l5 := li_13
  have l6 := li_2
  have l7 := li_3
  have l8 := li_4
  have l9 := li_5
  have l10 := li_6
  have l11 := li_7
  have l12 := li_8
  have l13 := li_9
  have f1 := tp_r p0
  refine And.intro (fun c2 => ?_) ?_
  · skip
    have c2 := (fa_eq _ _).mp c2
    exact hpost _ 
  refine And.intro (fun c3 => ?_) ?_
  · skip
    have c3 := (fa_eq _ _).mp c3
    exact hpost _ 
  refine And.intro (fun c4 => ?_) ?_
  · skip
    have c4 := (fa_eq _ _).mp c4
    exact hpost _ 
  refine And.intro (fun c5 => ?_) ?_
  · skip
    have c5 := (fa_eq _ _).mp c5
    exact hpost _ 
  refine And.intro (fun c6 => ?_) ?_
  · skip
    have c6 := (fa_eq _ _).mp c6
    exact hpost _ 
  refine And.intro (fun c7 => ?_) ?_
  · skip
    have c7 := (fa_eq _ _).mp c7
    intro v8 ev8
    have f9 := ti_shl1 16 65536 bZ (by decide) (by omega)
    have hv8 := congrArg Int32.toInt ev8
    intro v10 ev10
    intro v11 ev11
    exact hpost _ 
  refine And.intro (fun c12 => ?_) ?_
  · skip
    have c12 := (fa_eq _ _).mp c12
    exact hpost _ 
  refine And.intro (fun c13 => ?_) ?_
  · skip
    have c13 := (fa_eq _ _).mp c13
    exact hpost _ 
  refine And.intro (fun c14 => ?_) ?_
  · skip
    have c14 := (fa_eq _ _).mp c14
    exact hpost _ 
  refine And.intro (fun c15 => ?_) ?_
  · skip
    have c15 := (fa_eq _ _).mp c15
    exact hpost _ 
  refine And.intro (fun c16 => ?_) ?_
  · skip
    have c16 := (fa_eq _ _).mp c16
    refine t_X3_worthOf h_tr_fruits (fun r17 => ?_)
    exact hpost _ 
  refine And.intro (fun c18 => ?_) ?_
  · skip
    have c18 := (fa_eq _ _).mp c18
    exact hpost _ 
  refine And.intro (fun c19 => ?_) ?_
  · skip
    have c19 := (fa_eq _ _).mp c19
    exact hpost _ 
  refine And.intro (fun c20 => ?_) ?_
  · skip
    have c20 := (fa_eq _ _).mp c20
    exact hpost _ 
  intro c21 c22 c23 c24 c25 c26 c27 c28 c29 c30 c31 c32 c33 c34
  have c21 := mt (fa_eq _ _).mpr c21
  have c22 := mt (fa_eq _ _).mpr c22
  have c23 := mt (fa_eq _ _).mpr c23
  have c24 := mt (fa_eq _ _).mpr c24
  have c25 := mt (fa_eq _ _).mpr c25
  have c26 := mt (fa_eq _ _).mpr c26
  have c27 := mt (fa_eq _ _).mpr c27
  have c28 := mt (fa_eq _ _).mpr c28
  have c29 := mt (fa_eq _ _).mpr c29
  have c30 := mt (fa_eq _ _).mpr c30
  have c31 := mt (fa_eq _ _).mpr c31
  have c32 := mt (fa_eq _ _).mpr c32
  have c33 := mt (fa_eq _ _).mpr c33
  have c34 := mt (fa_eq _ _).mpr c34
  exact hpost _ 
set_option maxHeartbeats 8000000 in
set_option maxRecDepth 200000 in
theorem t_X9_row {post : Int32 → Prop} {postx : Prop} {p0 qF : Int32} {jJ : Nat → Int32} (h_ro_size : 0 ≤ Int32.toInt qF ∧ Int32.toInt qF ≤ 16) (hpost : ∀ (r : Int32) , post r) (hpx : postx) : wp_X9_row post postx p0 qF jJ := by
  have l0 := li_0
  have f2 := tp_r p0
  refine And.intro (fun c1 => ?_) (fun c1 => ?_)
  · skip
    have c1 := (fa_lt _ _).mp c1
    exact hpx
  · skip
    have c1 := mt (fa_lt _ _).mpr c1
    refine And.intro (fun c3 => ?_) (fun c3 => ?_)
    · skip
      have c3 := (fa_lt _ _).mp c3
      refine And.intro (t_in (by omega)) ?_
      exact hpost _ 
    · skip
      have c3 := mt (fa_lt _ _).mpr c3
      exact hpx
set_option maxHeartbeats 8000000 in
set_option maxRecDepth 200000 in
theorem ts_X10_sign_20 {post : Int32 → Int32 → Int32 → (Nat → Int32) → Prop} {aFb : Int32} {next : Int32 → Int32 → Int32 → Int32 → (Nat → Int32) → Prop} {n20 : Int} (hpost : ∀ (r : Int32) (m_typed' : Int32) (m_thrown' : Int32) (m_text' : Nat → Int32), (-1 ≤ Int32.toInt r ∧ Int32.toInt r ≤ 80) → (0 ≤ Int32.toInt m_typed' ∧ Int32.toInt m_typed' ≤ 80) → (0 ≤ Int32.toInt m_thrown' ∧ Int32.toInt m_thrown' ≤ 0) → (∀ k : Nat, -128 ≤ Int32.toInt (m_text' k) ∧ Int32.toInt (m_text' k) ≤ 127) → ((76 < Int32.toInt aFb ∧ Int32.toInt r = -1 ∧ Int32.toInt m_typed' = Int32.toInt aFb) ∨ (Int32.toInt aFb ≤ 76 ∧ Int32.toInt r = Int32.toInt m_typed' ∧ Int32.toInt m_typed' = Int32.toInt aFb + 4)) → post r m_typed' m_thrown' m_text') (hKn : ∀ (x1 : Int32) (x2 : Int32) (jG : Int32) (dG : Int32) (rG : Nat → Int32), (-1 ≤ Int32.toInt x2 ∧ Int32.toInt x2 ≤ 3) → (0 ≤ Int32.toInt jG ∧ Int32.toInt jG ≤ 80) → (0 ≤ Int32.toInt dG ∧ Int32.toInt dG ≤ 0) → (∀ k : Nat, -128 ≤ Int32.toInt (rG k) ∧ Int32.toInt (rG k) ≤ 127) → (Int32.toInt jG + Int32.toInt x2 = Int32.toInt aFb + 3) → (Int32.toInt aFb ≤ 76) → (-1 ≤ Int32.toInt x2) → (Int32.toInt x2 + 1 < n20) → next x1 x2 jG dG rG) (x1 x2 jG dG : Int32) (rG : Nat → Int32) (h_x2 : -1 ≤ Int32.toInt x2 ∧ Int32.toInt x2 ≤ 3) (h_m_typed : 0 ≤ Int32.toInt jG ∧ Int32.toInt jG ≤ 80) (h_m_thrown : 0 ≤ Int32.toInt dG ∧ Int32.toInt dG ≤ 0) (h_m_text : ∀ k : Nat, -128 ≤ Int32.toInt (rG k) ∧ Int32.toInt (rG k) ≤ 127) (hx0 : Int32.toInt jG + Int32.toInt x2 = Int32.toInt aFb + 3) (hx1 : Int32.toInt aFb ≤ 76) (hx2 : -1 ≤ Int32.toInt x2) (hn20 : Int32.toInt x2 + 1 ≤ n20) : ws_X10_sign_20 post next x1 x2 jG dG rG := by
  have l0 := li_m1
  have l1 := li_0
  have l2 := li_1
  refine And.intro (fun c1 => ?_) (fun c1 => ?_)
  · skip
    have c1 := (fa_lt _ _).mp c1
    exact hpost _ _ _ _ (by omega) h_m_typed h_m_thrown h_m_text (by omega)
  · skip
    have c1 := mt (fa_lt _ _).mpr c1
    intro v2 ev2
    have f3 : Int32.toInt (jG + 1) = Int32.toInt jG + Int32.toInt (1 : Int32) := ta_add _ _ (by omega)
    rw [← ev2] at f3
    intro v4 ev4
    have hv4 := ti_i2b (x1 >>> ((8 * x2) &&& 31))
    rw [← ev4] at hv4
    refine And.intro (t_in (by omega)) ?_
    have qa5 := ti_nar_byte v4
    have a5 : ∀ k : Nat, -128 ≤ Int32.toInt ((upd rG jG.toNatClampNeg (vp_nar .byte v4)) k) ∧ Int32.toInt ((upd rG jG.toNatClampNeg (vp_nar .byte v4)) k) ≤ 127 := t_upd (fun k => by have q9 := h_m_text k; omega) (by omega)
    intro v6 ev6
    have f7 : Int32.toInt (x2 + (-1)) = Int32.toInt x2 + Int32.toInt ((-1) : Int32) := ta_add _ _ (by omega)
    rw [← ev6] at f7
    have f8 := tp_r x1
    exact hKn x1 v6 v2 dG (upd rG jG.toNatClampNeg (vp_nar .byte v4)) (by omega) (by omega) h_m_thrown (fun k => by have q9 := a5 k; omega) (by omega) hx1 (by omega) (by omega)
set_option maxHeartbeats 8000000 in
set_option maxRecDepth 200000 in
theorem tb_X10_sign_20 {post : Int32 → Int32 → Int32 → (Nat → Int32) → Prop} {aFb : Int32} (hpost : ∀ (r : Int32) (m_typed' : Int32) (m_thrown' : Int32) (m_text' : Nat → Int32), (-1 ≤ Int32.toInt r ∧ Int32.toInt r ≤ 80) → (0 ≤ Int32.toInt m_typed' ∧ Int32.toInt m_typed' ≤ 80) → (0 ≤ Int32.toInt m_thrown' ∧ Int32.toInt m_thrown' ≤ 0) → (∀ k : Nat, -128 ≤ Int32.toInt (m_text' k) ∧ Int32.toInt (m_text' k) ≤ 127) → ((76 < Int32.toInt aFb ∧ Int32.toInt r = -1 ∧ Int32.toInt m_typed' = Int32.toInt aFb) ∨ (Int32.toInt aFb ≤ 76 ∧ Int32.toInt r = Int32.toInt m_typed' ∧ Int32.toInt m_typed' = Int32.toInt aFb + 4)) → post r m_typed' m_thrown' m_text') : ∀ (n : Nat) (x1 x2 jG dG : Int32) (rG : Nat → Int32), (-1 ≤ Int32.toInt x2 ∧ Int32.toInt x2 ≤ 3) → (0 ≤ Int32.toInt jG ∧ Int32.toInt jG ≤ 80) → (0 ≤ Int32.toInt dG ∧ Int32.toInt dG ≤ 0) → (∀ k : Nat, -128 ≤ Int32.toInt (rG k) ∧ Int32.toInt (rG k) ≤ 127) → (Int32.toInt jG + Int32.toInt x2 = Int32.toInt aFb + 3) → (Int32.toInt aFb ≤ 76) → (-1 ≤ Int32.toInt x2) → (Int32.toInt x2 + 1 < (n : Int)) → wb_X10_sign_20 post n x1 x2 jG dG rG := by
  intro n
  induction n with
  | zero =>
    intro x1 x2 jG dG rG h_x2 h_m_typed h_m_thrown h_m_text hx0 hx1 hx2 hm
    exfalso; omega
  | succ n ih =>
    intro x1 x2 jG dG rG h_x2 h_m_typed h_m_thrown h_m_text hx0 hx1 hx2 hm
    exact ts_X10_sign_20 hpost ih x1 x2 jG dG rG h_x2 h_m_typed h_m_thrown h_m_text hx0 hx1 hx2 (by omega)
set_option maxHeartbeats 8000000 in
set_option maxRecDepth 200000 in
theorem t_X10_sign {post : Int32 → Int32 → Int32 → (Nat → Int32) → Prop} {p0 jG dG : Int32} {rG : Nat → Int32} (h_m_typed : 0 ≤ Int32.toInt jG ∧ Int32.toInt jG ≤ 80) (h_m_thrown : 0 ≤ Int32.toInt dG ∧ Int32.toInt dG ≤ 1) (h_m_text : ∀ k : Nat, -128 ≤ Int32.toInt (rG k) ∧ Int32.toInt (rG k) ≤ 127) (hpost : ∀ (r : Int32) (m_typed' : Int32) (m_thrown' : Int32) (m_text' : Nat → Int32), (-1 ≤ Int32.toInt r ∧ Int32.toInt r ≤ 80) → (0 ≤ Int32.toInt m_typed' ∧ Int32.toInt m_typed' ≤ 80) → (0 ≤ Int32.toInt m_thrown' ∧ Int32.toInt m_thrown' ≤ 0) → (∀ k : Nat, -128 ≤ Int32.toInt (m_text' k) ∧ Int32.toInt (m_text' k) ≤ 127) → ((76 < Int32.toInt jG ∧ Int32.toInt r = -1 ∧ Int32.toInt m_typed' = Int32.toInt jG) ∨ (Int32.toInt jG ≤ 76 ∧ Int32.toInt r = Int32.toInt m_typed' ∧ Int32.toInt m_typed' = Int32.toInt jG + 4)) → post r m_typed' m_thrown' m_text') : wp_X10_sign post p0 jG dG rG := by
  have l0 := li_m1
  have l1 := li_0
  have l2 := li_3
  have l3 := li_4
  have l4 := li_80
  intro v9 ev9
  have f10 : Int32.toInt (jG + 4) = Int32.toInt jG + Int32.toInt (4 : Int32) := ta_add _ _ (by omega)
  rw [← ev9] at f10
  refine And.intro (fun c11 => ?_) (fun c11 => ?_)
  · skip
    have c11 := (fa_le _ _).mp c11
    have f12 := tp_r p0
    exact ⟨6, tb_X10_sign_20 hpost _ p0 3 jG 0 rG (by omega) h_m_typed (by omega) h_m_text (by omega) (by omega) (by omega) (by omega)⟩
  · skip
    have c11 := mt (fa_le _ _).mpr c11
    exact hpost _ _ _ _ (by omega) h_m_typed (by omega) h_m_text (by omega)
set_option maxHeartbeats 8000000 in
set_option maxRecDepth 200000 in
theorem t_X10_end {post : Int32 → Int32 → Int32 → Prop} {p0 jG dG : Int32} (h_m_typed : 0 ≤ Int32.toInt jG ∧ Int32.toInt jG ≤ 80) (h_m_thrown : 0 ≤ Int32.toInt dG ∧ Int32.toInt dG ≤ 1) (hpost : ∀ (r : Int32) (m_typed' : Int32) (m_thrown' : Int32), (0 ≤ Int32.toInt r ∧ Int32.toInt r ≤ 1) → (0 ≤ Int32.toInt m_typed' ∧ Int32.toInt m_typed' ≤ 80) → (0 ≤ Int32.toInt m_thrown' ∧ Int32.toInt m_thrown' ≤ 0) → ((0 ≤ Int32.toInt p0 ∧ Int32.toInt p0 ≤ Int32.toInt jG ∧ Int32.toInt m_typed' = Int32.toInt p0 ∧ Int32.toInt r = 1) ∨ ((Int32.toInt p0 < 0 ∨ Int32.toInt jG < Int32.toInt p0) ∧ Int32.toInt m_typed' = Int32.toInt jG ∧ Int32.toInt r = 0)) → post r m_typed' m_thrown') : wp_X10_end post p0 jG dG := by
  have l0 := li_0
  have l1 := li_1
  have f2 := tp_r p0
  refine And.intro (fun c1 => ?_) (fun c1 => ?_)
  · skip
    have c1 := (fa_lt _ _).mp c1
    refine And.intro (fun h9 => absurd h9 (by decide)) (fun _ => ?_)
    exact hpost _ _ _ (by omega) h_m_typed (by omega) (by omega)
  · skip
    have c1 := mt (fa_lt _ _).mpr c1
    refine And.intro (fun c3 => ?_) (fun c3 => ?_)
    · skip
      have c3 := (fa_lt _ _).mp c3
      refine And.intro (fun h9 => absurd h9 (by decide)) (fun _ => ?_)
      exact hpost _ _ _ (by omega) h_m_typed (by omega) (by omega)
    · skip
      have c3 := mt (fa_lt _ _).mpr c3
      refine And.intro (fun _ => ?_) (fun h9 => absurd h9 (by decide))
      exact hpost _ _ _ (by omega) (by omega) (by omega) (by omega)
theorem t_X10_here {post : Int32 → Prop} {jY : Nat} {m_length qG uW : Int32} {rG rQ : Nat → Int32} (h_m_read : jY = 1 ∨ jY = 2) (h_m_length : 0 ≤ Int32.toInt m_length ∧ Int32.toInt m_length ≤ 80) (h_m_top : 0 ≤ Int32.toInt qG ∧ Int32.toInt qG ≤ 80) (h_m_at : 0 ≤ Int32.toInt uW ∧ Int32.toInt uW ≤ 80) (h_m_text : ∀ k : Nat, -128 ≤ Int32.toInt (rG k) ∧ Int32.toInt (rG k) ≤ 127) (h_m_rule : ∀ k : Nat, -128 ≤ Int32.toInt (rQ k) ∧ Int32.toInt (rQ k) ≤ 127) (hc0 : jY = 2 → Int32.toInt qG ≤ 40) (hpost : ∀ (r : Int32) , (-1 ≤ Int32.toInt r ∧ Int32.toInt r ≤ 255) → (Int32.toInt r = -1 ∨ (Int32.toInt uW < Int32.toInt m_length ∧ Int32.toInt uW < Int32.toInt qG)) → (Int32.toInt r = Int32.toInt (hv jY m_length qG uW rG rQ)) → post r) : wp_X10_here post jY m_length qG uW rG rQ := by
  have l0 := li_m1
  have l1 := li_255
  refine And.intro (fun c1 => ?_) (fun c1 => ?_)
  · have d1 := (fa_le _ _).mp c1
    refine hpost _ (by omega) (by omega) ?_
    rw [hv_neg (fun h9 => by have := (fa_lt _ _).mp h9.1; omega)]
  · have d1 := mt (fa_le _ _).mpr c1
    refine And.intro (fun c2 => ?_) (fun c2 => ?_)
    · have d2 := (fa_le _ _).mp c2
      refine hpost _ (by omega) (by omega) ?_
      rw [hv_neg (fun h9 => by have := (fa_lt _ _).mp h9.2; omega)]
    · have d2 := mt (fa_le _ _).mpr c2
      have d3 : uW < m_length ∧ uW < qG := ⟨(fa_lt _ _).mpr (by omega), (fa_lt _ _).mpr (by omega)⟩
      rcases h_m_read with hd9 | hd9
      · refine Or.inl (And.intro hd9 (And.intro (t_in (by omega)) ?_))
        intro v1 e1 v2 e2
        have f1 := ti_andr v1 255 (by omega)
        have e3 := congrArg Int32.toInt e2
        refine hpost _ (by omega) (by omega) ?_
        rw [hv_pos d3, if_pos hd9, ← e1, e2]
      · refine Or.inr (And.intro hd9 (And.intro (t_in (by omega)) ?_))
        intro v1 e1 v2 e2
        have f1 := ti_andr v1 255 (by omega)
        have e3 := congrArg Int32.toInt e2
        refine hpost _ (by omega) (by omega) ?_
        rw [hv_pos d3, if_neg (by omega), ← e1, e2]
set_option maxHeartbeats 8000000 in
set_option maxRecDepth 200000 in
theorem ts_X10_number_66 {post : Int32 → Int32 → Int32 → Prop} {aAJ p00 : Int32} (jY : Nat) (m_length qG : Int32) (rG rQ : Nat → Int32) (h_m_read : jY = 1 ∨ jY = 2) (h_m_length : 0 ≤ Int32.toInt m_length ∧ Int32.toInt m_length ≤ 80) (h_m_top : 0 ≤ Int32.toInt qG ∧ Int32.toInt qG ≤ 80) (h_m_text : ∀ k : Nat, -128 ≤ Int32.toInt (rG k) ∧ Int32.toInt (rG k) ≤ 127) (h_m_rule : ∀ k : Nat, -128 ≤ Int32.toInt (rQ k) ∧ Int32.toInt (rQ k) ≤ 127) (hc0 : jY = 2 → Int32.toInt qG ≤ 40) (hpost : ∀ (r : Int32) (m_at' : Int32) (m_wrong' : Int32), (0 ≤ Int32.toInt r ∧ Int32.toInt r ≤ 999) → (0 ≤ Int32.toInt m_at' ∧ Int32.toInt m_at' ≤ 80) → (-1 ≤ Int32.toInt m_wrong' ∧ Int32.toInt m_wrong' ≤ 80) → (Int32.toInt aAJ ≤ Int32.toInt m_at') → (Int32.toInt m_at' ≤ Int32.toInt aAJ ∨ Int32.toInt m_at' ≤ Int32.toInt qG) → (Int32.toInt p00 ≤ 1 → Int32.toInt r ≤ 9) → (Int32.toInt p00 ≤ 2 → Int32.toInt r ≤ 99) → post r m_at' m_wrong') (x2 x3 uW eY : Int32) (h_x2 : 0 ≤ Int32.toInt x2 ∧ Int32.toInt x2 ≤ 80) (h_x3 : 0 ≤ Int32.toInt x3 ∧ Int32.toInt x3 ≤ 999) (h_m_at : 0 ≤ Int32.toInt uW ∧ Int32.toInt uW ≤ 80) (h_m_wrong : -1 ≤ Int32.toInt eY ∧ Int32.toInt eY ≤ -1) (hx0 : Int32.toInt aAJ ≤ Int32.toInt uW) (hx1 : Int32.toInt uW ≤ Int32.toInt aAJ ∨ Int32.toInt uW ≤ Int32.toInt qG) (hx2 : Int32.toInt p00 ≤ 1 → Int32.toInt x3 ≤ 9) (hx3 : Int32.toInt p00 ≤ 2 → Int32.toInt x3 ≤ 99) : ws_X10_number_66 post jY m_length qG rG rQ x2 x3 uW eY := by
  have l0 := li_m1
  refine And.intro (fun c1 => ?_) (fun c1 => ?_)
  · skip
    have c1 := mt (fa_eq _ _).mpr c1
    exact hpost _ _ _ h_x3 h_m_at (by omega) (by omega) (by omega) (by omega) (by omega)
  · skip
    have c1 := (fa_eq _ _).mp c1
    refine And.intro (fun c2 => ?_) (fun c2 => ?_)
    · skip
      have c2 := mt (fa_eq _ _).mpr c2
      exfalso; omega
    · skip
      have c2 := (fa_eq _ _).mp c2
      refine And.intro (fun h9 => absurd h9 (by decide)) (fun _ => ?_)
      exact hpost _ _ _ h_x3 h_m_at (by omega) (by omega) (by omega) (by omega) (by omega)
set_option maxHeartbeats 8000000 in
set_option maxRecDepth 200000 in
theorem ts_X10_number_16 {post : Int32 → Int32 → Int32 → Prop} {aAJ p00 : Int32} {next : Int32 → Int32 → Int32 → Int32 → Int32 → Prop} {n16 : Int} (jY : Nat) (m_length qG : Int32) (rG rQ : Nat → Int32) (h_m_read : jY = 1 ∨ jY = 2) (h_m_length : 0 ≤ Int32.toInt m_length ∧ Int32.toInt m_length ≤ 80) (h_m_top : 0 ≤ Int32.toInt qG ∧ Int32.toInt qG ≤ 80) (h_m_text : ∀ k : Nat, -128 ≤ Int32.toInt (rG k) ∧ Int32.toInt (rG k) ≤ 127) (h_m_rule : ∀ k : Nat, -128 ≤ Int32.toInt (rQ k) ∧ Int32.toInt (rQ k) ≤ 127) (hc0 : jY = 2 → Int32.toInt qG ≤ 40) (hpost : ∀ (r : Int32) (m_at' : Int32) (m_wrong' : Int32), (0 ≤ Int32.toInt r ∧ Int32.toInt r ≤ 999) → (0 ≤ Int32.toInt m_at' ∧ Int32.toInt m_at' ≤ 80) → (-1 ≤ Int32.toInt m_wrong' ∧ Int32.toInt m_wrong' ≤ 80) → (Int32.toInt aAJ ≤ Int32.toInt m_at') → (Int32.toInt m_at' ≤ Int32.toInt aAJ ∨ Int32.toInt m_at' ≤ Int32.toInt qG) → (Int32.toInt p00 ≤ 1 → Int32.toInt r ≤ 9) → (Int32.toInt p00 ≤ 2 → Int32.toInt r ≤ 99) → post r m_at' m_wrong') (hKn : ∀ (x1 : Int32) (x2 : Int32) (x3 : Int32) (uW : Int32) (eY : Int32), (1 ≤ Int32.toInt x1 ∧ Int32.toInt x1 ≤ 3) → (0 ≤ Int32.toInt x2 ∧ Int32.toInt x2 ≤ 80) → (0 ≤ Int32.toInt x3 ∧ Int32.toInt x3 ≤ 999) → (0 ≤ Int32.toInt uW ∧ Int32.toInt uW ≤ 80) → (-1 ≤ Int32.toInt eY ∧ Int32.toInt eY ≤ -1) → (Int32.toInt aAJ ≤ Int32.toInt uW) → (Int32.toInt uW ≤ Int32.toInt aAJ ∨ Int32.toInt uW ≤ Int32.toInt qG) → (Int32.toInt x1 = Int32.toInt p00) → ((Int32.toInt x3 = 0 ∧ (Int32.toInt uW - Int32.toInt x2) = 0) ∨ (Int32.toInt x3 ≤ 9 ∧ (Int32.toInt uW - Int32.toInt x2) = 1) ∨ (Int32.toInt x3 ≤ 99 ∧ (Int32.toInt uW - Int32.toInt x2) = 2) ∨ (Int32.toInt x3 ≤ 999 ∧ (Int32.toInt uW - Int32.toInt x2) = 3)) → ((Int32.toInt uW - Int32.toInt x2) ≤ Int32.toInt x1) → (80 - Int32.toInt uW < n16) → next x1 x2 x3 uW eY) (x1 x2 x3 uW eY : Int32) (h_x1 : 1 ≤ Int32.toInt x1 ∧ Int32.toInt x1 ≤ 3) (h_x2 : 0 ≤ Int32.toInt x2 ∧ Int32.toInt x2 ≤ 80) (h_x3 : 0 ≤ Int32.toInt x3 ∧ Int32.toInt x3 ≤ 999) (h_m_at : 0 ≤ Int32.toInt uW ∧ Int32.toInt uW ≤ 80) (h_m_wrong : -1 ≤ Int32.toInt eY ∧ Int32.toInt eY ≤ -1) (hx0 : Int32.toInt aAJ ≤ Int32.toInt uW) (hx1 : Int32.toInt uW ≤ Int32.toInt aAJ ∨ Int32.toInt uW ≤ Int32.toInt qG) (hx2 : Int32.toInt x1 = Int32.toInt p00) (hx3 : (Int32.toInt x3 = 0 ∧ (Int32.toInt uW - Int32.toInt x2) = 0) ∨ (Int32.toInt x3 ≤ 9 ∧ (Int32.toInt uW - Int32.toInt x2) = 1) ∨ (Int32.toInt x3 ≤ 99 ∧ (Int32.toInt uW - Int32.toInt x2) = 2) ∨ (Int32.toInt x3 ≤ 999 ∧ (Int32.toInt uW - Int32.toInt x2) = 3)) (hx4 : (Int32.toInt uW - Int32.toInt x2) ≤ Int32.toInt x1) (hn16 : 80 - Int32.toInt uW ≤ n16) : ws_X10_number_16 post next jY m_length qG rG rQ x1 x2 x3 uW eY := by
  have l0 := li_1
  have l1 := li_10
  have l2 := li_48
  have l3 := li_57
  have f4 : Int32.toInt (x2 + x1) = Int32.toInt x2 + Int32.toInt x1 := ta_add _ _ (by omega)
  refine And.intro (fun c3 => ?_) (fun c3 => ?_)
  · skip
    have c3 := (fa_le _ _).mp c3
    exact ts_X10_number_66 jY m_length qG rG rQ h_m_read h_m_length h_m_top h_m_text h_m_rule hc0 hpost x2 x3 uW eY h_x2 h_x3 h_m_at h_m_wrong hx0 hx1 (by omega) (by omega)
  · skip
    have c3 := mt (fa_le _ _).mpr c3
    refine t_X10_here h_m_read h_m_length h_m_top h_m_at h_m_text h_m_rule (by omega) (fun r5 h_r5 ox6 ox7 => ?_)
    refine And.intro (fun c8 => ?_) (fun c8 => ?_)
    · skip
      have c8 := (fa_lt _ _).mp c8
      refine And.intro (fun _ => ?_) (fun h9 => absurd h9 (by decide))
      exact ts_X10_number_66 jY m_length qG rG rQ h_m_read h_m_length h_m_top h_m_text h_m_rule hc0 hpost x2 x3 uW eY h_x2 h_x3 h_m_at h_m_wrong hx0 hx1 (by omega) (by omega)
    · skip
      have c8 := mt (fa_lt _ _).mpr c8
      refine And.intro (fun c9 => ?_) (fun c9 => ?_)
      · skip
        have c9 := (fa_lt _ _).mp c9
        refine And.intro (fun _ => ?_) (fun h9 => absurd h9 (by decide))
        exact ts_X10_number_66 jY m_length qG rG rQ h_m_read h_m_length h_m_top h_m_text h_m_rule hc0 hpost x2 x3 uW eY h_x2 h_x3 h_m_at h_m_wrong hx0 hx1 (by omega) (by omega)
      · skip
        have c9 := mt (fa_lt _ _).mpr c9
        refine And.intro (fun h9 => absurd h9 (by decide)) (fun _ => ?_)
        intro v10 ev10
        have f11 : Int32.toInt (10 * x3) = Int32.toInt x3 * 10 := ta_cmul _ _ (by decide) (by omega)
        rw [← ev10] at f11
        refine t_X10_here h_m_read h_m_length h_m_top h_m_at h_m_text h_m_rule (by omega) (fun r12 h_r12 ox13 ox14 => ?_)
        intro v15 ev15
        have f16 : Int32.toInt (v10 + r12) = Int32.toInt v10 + Int32.toInt r12 := ta_add _ _ (by omega)
        rw [← ev15] at f16
        intro v17 ev17
        have f18 : Int32.toInt (v15 - 48) = Int32.toInt v15 - Int32.toInt (48 : Int32) := ta_sub _ _ (by omega)
        rw [← ev17] at f18
        intro v19 ev19
        have f20 : Int32.toInt (uW + 1) = Int32.toInt uW + Int32.toInt (1 : Int32) := ta_add _ _ (by omega)
        rw [← ev19] at f20
        exact hKn x1 x2 v17 v19 eY h_x1 h_x2 (by omega) (by omega) h_m_wrong (by omega) (by omega) hx2 (by omega) (by omega) (by omega)
set_option maxHeartbeats 8000000 in
set_option maxRecDepth 200000 in
theorem tb_X10_number_16 {post : Int32 → Int32 → Int32 → Prop} {aAJ p00 : Int32} (jY : Nat) (m_length qG : Int32) (rG rQ : Nat → Int32) (h_m_read : jY = 1 ∨ jY = 2) (h_m_length : 0 ≤ Int32.toInt m_length ∧ Int32.toInt m_length ≤ 80) (h_m_top : 0 ≤ Int32.toInt qG ∧ Int32.toInt qG ≤ 80) (h_m_text : ∀ k : Nat, -128 ≤ Int32.toInt (rG k) ∧ Int32.toInt (rG k) ≤ 127) (h_m_rule : ∀ k : Nat, -128 ≤ Int32.toInt (rQ k) ∧ Int32.toInt (rQ k) ≤ 127) (hc0 : jY = 2 → Int32.toInt qG ≤ 40) (hpost : ∀ (r : Int32) (m_at' : Int32) (m_wrong' : Int32), (0 ≤ Int32.toInt r ∧ Int32.toInt r ≤ 999) → (0 ≤ Int32.toInt m_at' ∧ Int32.toInt m_at' ≤ 80) → (-1 ≤ Int32.toInt m_wrong' ∧ Int32.toInt m_wrong' ≤ 80) → (Int32.toInt aAJ ≤ Int32.toInt m_at') → (Int32.toInt m_at' ≤ Int32.toInt aAJ ∨ Int32.toInt m_at' ≤ Int32.toInt qG) → (Int32.toInt p00 ≤ 1 → Int32.toInt r ≤ 9) → (Int32.toInt p00 ≤ 2 → Int32.toInt r ≤ 99) → post r m_at' m_wrong') : ∀ (n : Nat) (x1 x2 x3 uW eY : Int32), (1 ≤ Int32.toInt x1 ∧ Int32.toInt x1 ≤ 3) → (0 ≤ Int32.toInt x2 ∧ Int32.toInt x2 ≤ 80) → (0 ≤ Int32.toInt x3 ∧ Int32.toInt x3 ≤ 999) → (0 ≤ Int32.toInt uW ∧ Int32.toInt uW ≤ 80) → (-1 ≤ Int32.toInt eY ∧ Int32.toInt eY ≤ -1) → (Int32.toInt aAJ ≤ Int32.toInt uW) → (Int32.toInt uW ≤ Int32.toInt aAJ ∨ Int32.toInt uW ≤ Int32.toInt qG) → (Int32.toInt x1 = Int32.toInt p00) → ((Int32.toInt x3 = 0 ∧ (Int32.toInt uW - Int32.toInt x2) = 0) ∨ (Int32.toInt x3 ≤ 9 ∧ (Int32.toInt uW - Int32.toInt x2) = 1) ∨ (Int32.toInt x3 ≤ 99 ∧ (Int32.toInt uW - Int32.toInt x2) = 2) ∨ (Int32.toInt x3 ≤ 999 ∧ (Int32.toInt uW - Int32.toInt x2) = 3)) → ((Int32.toInt uW - Int32.toInt x2) ≤ Int32.toInt x1) → (80 - Int32.toInt uW < (n : Int)) → wb_X10_number_16 post jY m_length qG rG rQ n x1 x2 x3 uW eY := by
  intro n
  induction n with
  | zero =>
    intro x1 x2 x3 uW eY h_x1 h_x2 h_x3 h_m_at h_m_wrong hx0 hx1 hx2 hx3 hx4 hm
    exfalso; omega
  | succ n ih =>
    intro x1 x2 x3 uW eY h_x1 h_x2 h_x3 h_m_at h_m_wrong hx0 hx1 hx2 hx3 hx4 hm
    exact ts_X10_number_16 jY m_length qG rG rQ h_m_read h_m_length h_m_top h_m_text h_m_rule hc0 hpost ih x1 x2 x3 uW eY h_x1 h_x2 h_x3 h_m_at h_m_wrong hx0 hx1 hx2 hx3 hx4 (by omega)
set_option maxHeartbeats 8000000 in
set_option maxRecDepth 200000 in
theorem t_X10_number {post : Int32 → Int32 → Int32 → Prop} {p0 : Int32} {jY : Nat} {m_length qG uW eY : Int32} {rG rQ : Nat → Int32} (h_p0 : 1 ≤ Int32.toInt p0 ∧ Int32.toInt p0 ≤ 3) (h_m_read : jY = 1 ∨ jY = 2) (h_m_length : 0 ≤ Int32.toInt m_length ∧ Int32.toInt m_length ≤ 80) (h_m_top : 0 ≤ Int32.toInt qG ∧ Int32.toInt qG ≤ 80) (h_m_at : 0 ≤ Int32.toInt uW ∧ Int32.toInt uW ≤ 80) (h_m_wrong : -1 ≤ Int32.toInt eY ∧ Int32.toInt eY ≤ 80) (h_m_text : ∀ k : Nat, -128 ≤ Int32.toInt (rG k) ∧ Int32.toInt (rG k) ≤ 127) (h_m_rule : ∀ k : Nat, -128 ≤ Int32.toInt (rQ k) ∧ Int32.toInt (rQ k) ≤ 127) (hc0 : jY = 2 → Int32.toInt qG ≤ 40) (hpost : ∀ (r : Int32) (m_at' : Int32) (m_wrong' : Int32), (0 ≤ Int32.toInt r ∧ Int32.toInt r ≤ 999) → (0 ≤ Int32.toInt m_at' ∧ Int32.toInt m_at' ≤ 80) → (-1 ≤ Int32.toInt m_wrong' ∧ Int32.toInt m_wrong' ≤ 80) → (Int32.toInt uW ≤ Int32.toInt m_at') → (Int32.toInt m_at' ≤ Int32.toInt uW ∨ Int32.toInt m_at' ≤ Int32.toInt qG) → (Int32.toInt p0 ≤ 1 → Int32.toInt r ≤ 9) → (Int32.toInt p0 ≤ 2 → Int32.toInt r ≤ 99) → post r m_at' m_wrong') : wp_X10_number post p0 jY m_length qG uW eY rG rQ := by
  have l0 := li_m1
  have l1 := li_0
  refine And.intro (fun c21 => ?_) (fun c21 => ?_)
  · skip
    have c21 := mt (fa_eq _ _).mpr c21
    refine And.intro (fun h9 => absurd h9 (by decide)) (fun _ => ?_)
    exact hpost _ _ _ (by omega) h_m_at h_m_wrong (by omega) (by omega) (by omega) (by omega)
  · skip
    have c21 := (fa_eq _ _).mp c21
    refine And.intro (fun _ => ?_) (fun h9 => absurd h9 (by decide))
    exact ⟨82, tb_X10_number_16 jY m_length qG rG rQ h_m_read h_m_length h_m_top h_m_text h_m_rule hc0 hpost _ p0 uW 0 uW eY h_p0 h_m_at (by omega) h_m_at (by omega) (by omega) (by omega) (by omega) (by omega) (by omega) (by omega)⟩
set_option maxHeartbeats 8000000 in
set_option maxRecDepth 200000 in
theorem ts_X10_readLine_121 {post : Int32 → Int32 → Int32 → Int32 → (Nat → Int32) → (Nat → Int32) → Prop} {aAJ : Int32} (bW aG : Int32) (jY : Nat) (m_length qG : Int32) (rG rQ : Nat → Int32) (h_m_fruits : 0 ≤ Int32.toInt bW ∧ Int32.toInt bW ≤ 16) (h_m_standings : 0 ≤ Int32.toInt aG ∧ Int32.toInt aG ≤ 8) (h_m_read : jY = 1) (h_m_length : 1 ≤ Int32.toInt m_length ∧ Int32.toInt m_length ≤ 80) (h_m_top : 76 ≤ Int32.toInt qG ∧ Int32.toInt qG ≤ 76) (h_m_text : ∀ k : Nat, -128 ≤ Int32.toInt (rG k) ∧ Int32.toInt (rG k) ≤ 127) (h_m_rule : ∀ k : Nat, -128 ≤ Int32.toInt (rQ k) ∧ Int32.toInt (rQ k) ≤ 127) (hpost : ∀ (m_at' : Int32) (m_wrong' : Int32) (m_newFruitMany' : Int32) (m_newStandingMany' : Int32) (m_newFruits' : Nat → Int32) (m_newStandings' : Nat → Int32), (0 ≤ Int32.toInt m_at' ∧ Int32.toInt m_at' ≤ 80) → (-1 ≤ Int32.toInt m_wrong' ∧ Int32.toInt m_wrong' ≤ 80) → (0 ≤ Int32.toInt m_newFruitMany' ∧ Int32.toInt m_newFruitMany' ≤ 16) → (0 ≤ Int32.toInt m_newStandingMany' ∧ Int32.toInt m_newStandingMany' ≤ 8) → (∀ k : Nat, k % 4 = 0 → 0 ≤ Int32.toInt (m_newFruits' k) ∧ Int32.toInt (m_newFruits' k) ≤ 99) → (∀ k : Nat, k % 4 = 1 → 0 ≤ Int32.toInt (m_newFruits' k) ∧ Int32.toInt (m_newFruits' k) ≤ 99) → (∀ k : Nat, k % 4 = 2 → 0 ≤ Int32.toInt (m_newFruits' k) ∧ Int32.toInt (m_newFruits' k) ≤ 9) → (∀ k : Nat, k % 4 = 3 → 0 ≤ Int32.toInt (m_newFruits' k) ∧ Int32.toInt (m_newFruits' k) ≤ 9) → (∀ k : Nat, 0 ≤ Int32.toInt (m_newFruits' k) ∧ Int32.toInt (m_newFruits' k) ≤ 99) → (∀ k : Nat, 0 ≤ Int32.toInt (m_newStandings' k) ∧ Int32.toInt (m_newStandings' k) ≤ 99) → (Int32.toInt bW + Int32.toInt m_newFruitMany' ≤ 16) → (Int32.toInt aG + Int32.toInt m_newStandingMany' ≤ 8) → (Int32.toInt aAJ ≤ Int32.toInt m_at') → post m_at' m_wrong' m_newFruitMany' m_newStandingMany' m_newFruits' m_newStandings') (k1 k2 uW eY aJ aB : Int32) (qL pL : Nat → Int32) (h_k1 : 3 ≤ Int32.toInt k1 ∧ Int32.toInt k1 ≤ 63) (h_k2 : 0 ≤ Int32.toInt k2 ∧ Int32.toInt k2 ≤ 9) (h_m_at : 0 ≤ Int32.toInt uW ∧ Int32.toInt uW ≤ 80) (h_m_wrong : -1 ≤ Int32.toInt eY ∧ Int32.toInt eY ≤ 80) (h_m_newFruitMany : 0 ≤ Int32.toInt aJ ∧ Int32.toInt aJ ≤ 16) (h_m_newStandingMany : 0 ≤ Int32.toInt aB ∧ Int32.toInt aB ≤ 8) (e0_m_newFruits : ∀ k : Nat, k % 4 = 0 → 0 ≤ Int32.toInt (qL k) ∧ Int32.toInt (qL k) ≤ 99) (e1_m_newFruits : ∀ k : Nat, k % 4 = 1 → 0 ≤ Int32.toInt (qL k) ∧ Int32.toInt (qL k) ≤ 99) (e2_m_newFruits : ∀ k : Nat, k % 4 = 2 → 0 ≤ Int32.toInt (qL k) ∧ Int32.toInt (qL k) ≤ 9) (e3_m_newFruits : ∀ k : Nat, k % 4 = 3 → 0 ≤ Int32.toInt (qL k) ∧ Int32.toInt (qL k) ≤ 9) (h_m_newFruits : ∀ k : Nat, 0 ≤ Int32.toInt (qL k) ∧ Int32.toInt (qL k) ≤ 99) (h_m_newStandings : ∀ k : Nat, 0 ≤ Int32.toInt (pL k) ∧ Int32.toInt (pL k) ≤ 99) (hx0 : Int32.toInt bW + Int32.toInt aJ ≤ 15) (hx1 : Int32.toInt aG + Int32.toInt aB ≤ 8) (hx2 : Int32.toInt aAJ ≤ Int32.toInt uW) (hx3 : Int32.toInt k1 % 4 = 3) : ws_X10_readLine_121 post bW aG jY m_length qG rG rQ k1 k2 uW eY aJ aB qL pL := by
  have l0 := li_1
  refine And.intro (t_in (by omega)) ?_
  have a1 : ∀ k : Nat, 0 ≤ Int32.toInt ((upd qL k1.toNatClampNeg k2) k) ∧ Int32.toInt ((upd qL k1.toNatClampNeg k2) k) ≤ 99 := t_upd (fun k => by have q9 := h_m_newFruits k; omega) (by omega)
  have e2 : ∀ k : Nat, k % 4 = 0 → 0 ≤ Int32.toInt ((upd qL k1.toNatClampNeg k2) k) ∧ Int32.toInt ((upd qL k1.toNatClampNeg k2) k) ≤ 99 := t_updc (C := fun k => k % 4 = 0) e0_m_newFruits (fun hk => by have e9 : k1.toNatClampNeg = (Int32.toInt k1).toNat := rfl; have hk : k1.toNatClampNeg % 4 = 0 := hk; omega)
  have e3 : ∀ k : Nat, k % 4 = 1 → 0 ≤ Int32.toInt ((upd qL k1.toNatClampNeg k2) k) ∧ Int32.toInt ((upd qL k1.toNatClampNeg k2) k) ≤ 99 := t_updc (C := fun k => k % 4 = 1) e1_m_newFruits (fun hk => by have e9 : k1.toNatClampNeg = (Int32.toInt k1).toNat := rfl; have hk : k1.toNatClampNeg % 4 = 1 := hk; omega)
  have e4 : ∀ k : Nat, k % 4 = 2 → 0 ≤ Int32.toInt ((upd qL k1.toNatClampNeg k2) k) ∧ Int32.toInt ((upd qL k1.toNatClampNeg k2) k) ≤ 9 := t_updc (C := fun k => k % 4 = 2) e2_m_newFruits (fun hk => by have e9 : k1.toNatClampNeg = (Int32.toInt k1).toNat := rfl; have hk : k1.toNatClampNeg % 4 = 2 := hk; omega)
  have e5 : ∀ k : Nat, k % 4 = 3 → 0 ≤ Int32.toInt ((upd qL k1.toNatClampNeg k2) k) ∧ Int32.toInt ((upd qL k1.toNatClampNeg k2) k) ≤ 9 := t_updc (C := fun k => k % 4 = 3) e3_m_newFruits (fun hk => by have e9 : k1.toNatClampNeg = (Int32.toInt k1).toNat := rfl; have hk : k1.toNatClampNeg % 4 = 3 := hk; omega)
  intro v6 ev6
  have f7 : Int32.toInt (aJ + 1) = Int32.toInt aJ + Int32.toInt (1 : Int32) := ta_add _ _ (by omega)
  rw [← ev6] at f7
  exact hpost _ _ _ _ _ _ h_m_at h_m_wrong (by omega) h_m_newStandingMany e2 e3 e4 e5 (fun k => by have q9 := a1 k; omega) h_m_newStandings (by omega) (by omega) (by omega)
set_option maxHeartbeats 8000000 in
set_option maxRecDepth 200000 in
theorem ts_X10_readLine_95 {post : Int32 → Int32 → Int32 → Int32 → (Nat → Int32) → (Nat → Int32) → Prop} {aAJ : Int32} (bW aG : Int32) (jY : Nat) (m_length qG : Int32) (rG rQ : Nat → Int32) (h_m_fruits : 0 ≤ Int32.toInt bW ∧ Int32.toInt bW ≤ 16) (h_m_standings : 0 ≤ Int32.toInt aG ∧ Int32.toInt aG ≤ 8) (h_m_read : jY = 1) (h_m_length : 1 ≤ Int32.toInt m_length ∧ Int32.toInt m_length ≤ 80) (h_m_top : 76 ≤ Int32.toInt qG ∧ Int32.toInt qG ≤ 76) (h_m_text : ∀ k : Nat, -128 ≤ Int32.toInt (rG k) ∧ Int32.toInt (rG k) ≤ 127) (h_m_rule : ∀ k : Nat, -128 ≤ Int32.toInt (rQ k) ∧ Int32.toInt (rQ k) ≤ 127) (hpost : ∀ (m_at' : Int32) (m_wrong' : Int32) (m_newFruitMany' : Int32) (m_newStandingMany' : Int32) (m_newFruits' : Nat → Int32) (m_newStandings' : Nat → Int32), (0 ≤ Int32.toInt m_at' ∧ Int32.toInt m_at' ≤ 80) → (-1 ≤ Int32.toInt m_wrong' ∧ Int32.toInt m_wrong' ≤ 80) → (0 ≤ Int32.toInt m_newFruitMany' ∧ Int32.toInt m_newFruitMany' ≤ 16) → (0 ≤ Int32.toInt m_newStandingMany' ∧ Int32.toInt m_newStandingMany' ≤ 8) → (∀ k : Nat, k % 4 = 0 → 0 ≤ Int32.toInt (m_newFruits' k) ∧ Int32.toInt (m_newFruits' k) ≤ 99) → (∀ k : Nat, k % 4 = 1 → 0 ≤ Int32.toInt (m_newFruits' k) ∧ Int32.toInt (m_newFruits' k) ≤ 99) → (∀ k : Nat, k % 4 = 2 → 0 ≤ Int32.toInt (m_newFruits' k) ∧ Int32.toInt (m_newFruits' k) ≤ 9) → (∀ k : Nat, k % 4 = 3 → 0 ≤ Int32.toInt (m_newFruits' k) ∧ Int32.toInt (m_newFruits' k) ≤ 9) → (∀ k : Nat, 0 ≤ Int32.toInt (m_newFruits' k) ∧ Int32.toInt (m_newFruits' k) ≤ 99) → (∀ k : Nat, 0 ≤ Int32.toInt (m_newStandings' k) ∧ Int32.toInt (m_newStandings' k) ≤ 99) → (Int32.toInt bW + Int32.toInt m_newFruitMany' ≤ 16) → (Int32.toInt aG + Int32.toInt m_newStandingMany' ≤ 8) → (Int32.toInt aAJ ≤ Int32.toInt m_at') → post m_at' m_wrong' m_newFruitMany' m_newStandingMany' m_newFruits' m_newStandings') (x1 k1 k2 uW eY aJ aB : Int32) (qL pL : Nat → Int32) (h_x1 : 0 ≤ Int32.toInt x1 ∧ Int32.toInt x1 ≤ 60) (h_k1 : 2 ≤ Int32.toInt k1 ∧ Int32.toInt k1 ≤ 62) (h_k2 : 0 ≤ Int32.toInt k2 ∧ Int32.toInt k2 ≤ 9) (h_m_at : 0 ≤ Int32.toInt uW ∧ Int32.toInt uW ≤ 80) (h_m_wrong : -1 ≤ Int32.toInt eY ∧ Int32.toInt eY ≤ 80) (h_m_newFruitMany : 0 ≤ Int32.toInt aJ ∧ Int32.toInt aJ ≤ 16) (h_m_newStandingMany : 0 ≤ Int32.toInt aB ∧ Int32.toInt aB ≤ 8) (e0_m_newFruits : ∀ k : Nat, k % 4 = 0 → 0 ≤ Int32.toInt (qL k) ∧ Int32.toInt (qL k) ≤ 99) (e1_m_newFruits : ∀ k : Nat, k % 4 = 1 → 0 ≤ Int32.toInt (qL k) ∧ Int32.toInt (qL k) ≤ 99) (e2_m_newFruits : ∀ k : Nat, k % 4 = 2 → 0 ≤ Int32.toInt (qL k) ∧ Int32.toInt (qL k) ≤ 9) (e3_m_newFruits : ∀ k : Nat, k % 4 = 3 → 0 ≤ Int32.toInt (qL k) ∧ Int32.toInt (qL k) ≤ 9) (h_m_newFruits : ∀ k : Nat, 0 ≤ Int32.toInt (qL k) ∧ Int32.toInt (qL k) ≤ 99) (h_m_newStandings : ∀ k : Nat, 0 ≤ Int32.toInt (pL k) ∧ Int32.toInt (pL k) ≤ 99) (hx0 : Int32.toInt bW + Int32.toInt aJ ≤ 15) (hx1 : Int32.toInt aG + Int32.toInt aB ≤ 8) (hx2 : Int32.toInt aAJ ≤ Int32.toInt uW) (hx3 : Int32.toInt k1 % 4 = 2) (hx4 : Int32.toInt x1 % 4 = 0) : ws_X10_readLine_95 post bW aG jY m_length qG rG rQ x1 k1 k2 uW eY aJ aB qL pL := by
  have l0 := li_m1
  have l1 := li_0
  have l2 := li_1
  have l3 := li_3
  have l4 := li_64
  refine And.intro (t_in (by omega)) ?_
  have a8 : ∀ k : Nat, 0 ≤ Int32.toInt ((upd qL k1.toNatClampNeg k2) k) ∧ Int32.toInt ((upd qL k1.toNatClampNeg k2) k) ≤ 99 := t_upd (fun k => by have q9 := h_m_newFruits k; omega) (by omega)
  have e9 : ∀ k : Nat, k % 4 = 0 → 0 ≤ Int32.toInt ((upd qL k1.toNatClampNeg k2) k) ∧ Int32.toInt ((upd qL k1.toNatClampNeg k2) k) ≤ 99 := t_updc (C := fun k => k % 4 = 0) e0_m_newFruits (fun hk => by have e9 : k1.toNatClampNeg = (Int32.toInt k1).toNat := rfl; have hk : k1.toNatClampNeg % 4 = 0 := hk; omega)
  have e10 : ∀ k : Nat, k % 4 = 1 → 0 ≤ Int32.toInt ((upd qL k1.toNatClampNeg k2) k) ∧ Int32.toInt ((upd qL k1.toNatClampNeg k2) k) ≤ 99 := t_updc (C := fun k => k % 4 = 1) e1_m_newFruits (fun hk => by have e9 : k1.toNatClampNeg = (Int32.toInt k1).toNat := rfl; have hk : k1.toNatClampNeg % 4 = 1 := hk; omega)
  have e11 : ∀ k : Nat, k % 4 = 2 → 0 ≤ Int32.toInt ((upd qL k1.toNatClampNeg k2) k) ∧ Int32.toInt ((upd qL k1.toNatClampNeg k2) k) ≤ 9 := t_updc (C := fun k => k % 4 = 2) e2_m_newFruits (fun hk => by have e9 : k1.toNatClampNeg = (Int32.toInt k1).toNat := rfl; have hk : k1.toNatClampNeg % 4 = 2 := hk; omega)
  have e12 : ∀ k : Nat, k % 4 = 3 → 0 ≤ Int32.toInt ((upd qL k1.toNatClampNeg k2) k) ∧ Int32.toInt ((upd qL k1.toNatClampNeg k2) k) ≤ 9 := t_updc (C := fun k => k % 4 = 3) e3_m_newFruits (fun hk => by have e9 : k1.toNatClampNeg = (Int32.toInt k1).toNat := rfl; have hk : k1.toNatClampNeg % 4 = 3 := hk; omega)
  intro v13 ev13
  have f14 : Int32.toInt (x1 + 3) = Int32.toInt x1 + Int32.toInt (3 : Int32) := ta_add _ _ (by omega)
  rw [← ev13] at f14
  refine And.intro (fun c15 => ?_) (fun c15 => ?_)
  · skip
    have c15 := mt (fa_eq _ _).mpr c15
    refine And.intro (fun _ => ?_) (fun h9 => absurd h9 (by decide))
    refine And.intro (fun _ => ?_) (fun h9 => absurd h9 (by decide))
    exact ts_X10_readLine_121 bW aG jY m_length qG rG rQ h_m_fruits h_m_standings h_m_read h_m_length h_m_top h_m_text h_m_rule hpost v13 0 uW eY aJ aB (upd qL k1.toNatClampNeg k2) pL (by omega) (by omega) h_m_at h_m_wrong h_m_newFruitMany h_m_newStandingMany e9 e10 e11 e12 (fun k => by have q9 := a8 k; omega) h_m_newStandings hx0 hx1 hx2 (by omega)
  · skip
    have c15 := (fa_eq _ _).mp c15
    refine And.intro (fun h9 => absurd h9 (by decide)) (fun _ => ?_)
    refine t_X10_here (by first | exact h_m_read | exact Or.inl rfl | exact Or.inr rfl | omega) (by omega) (by omega) h_m_at h_m_text h_m_rule (by omega) (fun r16 h_r16 ox17 ox18 => ?_)
    refine And.intro (fun c19 => ?_) (fun c19 => ?_)
    · skip
      have c19 := (fa_eq _ _).mp c19
      intro v20 ev20
      have f21 : Int32.toInt (uW + 1) = Int32.toInt uW + Int32.toInt (1 : Int32) := ta_add _ _ (by omega)
      rw [← ev20] at f21
      refine And.intro (fun h9 => absurd h9 (by decide)) (fun _ => ?_)
      refine t_X10_number (by omega) (by first | exact h_m_read | exact Or.inl rfl | exact Or.inr rfl | omega) (by omega) (by omega) (by omega) h_m_wrong h_m_text h_m_rule (by omega) (fun r24 m_at_22 aJX h_r24 h_m_at_22 h_m_wrong_23 ox25 ox26 ox27 ox28 => ?_)
      exact ts_X10_readLine_121 bW aG jY m_length qG rG rQ h_m_fruits h_m_standings h_m_read h_m_length h_m_top h_m_text h_m_rule hpost v13 r24 m_at_22 aJX aJ aB (upd qL k1.toNatClampNeg k2) pL (by omega) (by omega) h_m_at_22 h_m_wrong_23 h_m_newFruitMany h_m_newStandingMany e9 e10 e11 e12 (fun k => by have q9 := a8 k; omega) h_m_newStandings hx0 hx1 (by omega) (by omega)
    · skip
      have c19 := mt (fa_eq _ _).mpr c19
      refine And.intro (fun _ => ?_) (fun h9 => absurd h9 (by decide))
      exact ts_X10_readLine_121 bW aG jY m_length qG rG rQ h_m_fruits h_m_standings h_m_read h_m_length h_m_top h_m_text h_m_rule hpost v13 0 uW eY aJ aB (upd qL k1.toNatClampNeg k2) pL (by omega) (by omega) h_m_at h_m_wrong h_m_newFruitMany h_m_newStandingMany e9 e10 e11 e12 (fun k => by have q9 := a8 k; omega) h_m_newStandings hx0 hx1 hx2 (by omega)
set_option maxHeartbeats 8000000 in
set_option maxRecDepth 200000 in
theorem ts_X10_readLine_218 {post : Int32 → Int32 → Int32 → Int32 → (Nat → Int32) → (Nat → Int32) → Prop} {aAJ : Int32} (bW aG : Int32) (jY : Nat) (m_length qG : Int32) (rG rQ : Nat → Int32) (h_m_fruits : 0 ≤ Int32.toInt bW ∧ Int32.toInt bW ≤ 16) (h_m_standings : 0 ≤ Int32.toInt aG ∧ Int32.toInt aG ≤ 8) (h_m_read : jY = 1) (h_m_length : 1 ≤ Int32.toInt m_length ∧ Int32.toInt m_length ≤ 80) (h_m_top : 76 ≤ Int32.toInt qG ∧ Int32.toInt qG ≤ 76) (h_m_text : ∀ k : Nat, -128 ≤ Int32.toInt (rG k) ∧ Int32.toInt (rG k) ≤ 127) (h_m_rule : ∀ k : Nat, -128 ≤ Int32.toInt (rQ k) ∧ Int32.toInt (rQ k) ≤ 127) (hpost : ∀ (m_at' : Int32) (m_wrong' : Int32) (m_newFruitMany' : Int32) (m_newStandingMany' : Int32) (m_newFruits' : Nat → Int32) (m_newStandings' : Nat → Int32), (0 ≤ Int32.toInt m_at' ∧ Int32.toInt m_at' ≤ 80) → (-1 ≤ Int32.toInt m_wrong' ∧ Int32.toInt m_wrong' ≤ 80) → (0 ≤ Int32.toInt m_newFruitMany' ∧ Int32.toInt m_newFruitMany' ≤ 16) → (0 ≤ Int32.toInt m_newStandingMany' ∧ Int32.toInt m_newStandingMany' ≤ 8) → (∀ k : Nat, k % 4 = 0 → 0 ≤ Int32.toInt (m_newFruits' k) ∧ Int32.toInt (m_newFruits' k) ≤ 99) → (∀ k : Nat, k % 4 = 1 → 0 ≤ Int32.toInt (m_newFruits' k) ∧ Int32.toInt (m_newFruits' k) ≤ 99) → (∀ k : Nat, k % 4 = 2 → 0 ≤ Int32.toInt (m_newFruits' k) ∧ Int32.toInt (m_newFruits' k) ≤ 9) → (∀ k : Nat, k % 4 = 3 → 0 ≤ Int32.toInt (m_newFruits' k) ∧ Int32.toInt (m_newFruits' k) ≤ 9) → (∀ k : Nat, 0 ≤ Int32.toInt (m_newFruits' k) ∧ Int32.toInt (m_newFruits' k) ≤ 99) → (∀ k : Nat, 0 ≤ Int32.toInt (m_newStandings' k) ∧ Int32.toInt (m_newStandings' k) ≤ 99) → (Int32.toInt bW + Int32.toInt m_newFruitMany' ≤ 16) → (Int32.toInt aG + Int32.toInt m_newStandingMany' ≤ 8) → (Int32.toInt aAJ ≤ Int32.toInt m_at') → post m_at' m_wrong' m_newFruitMany' m_newStandingMany' m_newFruits' m_newStandings') (uW eY aJ aB : Int32) (qL pL : Nat → Int32) (h_m_at : 0 ≤ Int32.toInt uW ∧ Int32.toInt uW ≤ 80) (h_m_wrong : -1 ≤ Int32.toInt eY ∧ Int32.toInt eY ≤ -1) (h_m_newFruitMany : 0 ≤ Int32.toInt aJ ∧ Int32.toInt aJ ≤ 16) (h_m_newStandingMany : 0 ≤ Int32.toInt aB ∧ Int32.toInt aB ≤ 8) (e0_m_newFruits : ∀ k : Nat, k % 4 = 0 → 0 ≤ Int32.toInt (qL k) ∧ Int32.toInt (qL k) ≤ 99) (e1_m_newFruits : ∀ k : Nat, k % 4 = 1 → 0 ≤ Int32.toInt (qL k) ∧ Int32.toInt (qL k) ≤ 99) (e2_m_newFruits : ∀ k : Nat, k % 4 = 2 → 0 ≤ Int32.toInt (qL k) ∧ Int32.toInt (qL k) ≤ 9) (e3_m_newFruits : ∀ k : Nat, k % 4 = 3 → 0 ≤ Int32.toInt (qL k) ∧ Int32.toInt (qL k) ≤ 9) (h_m_newFruits : ∀ k : Nat, 0 ≤ Int32.toInt (qL k) ∧ Int32.toInt (qL k) ≤ 99) (h_m_newStandings : ∀ k : Nat, 0 ≤ Int32.toInt (pL k) ∧ Int32.toInt (pL k) ≤ 99) (hx0 : Int32.toInt bW + Int32.toInt aJ ≤ 16) (hx1 : Int32.toInt aG + Int32.toInt aB ≤ 8) (hx2 : Int32.toInt aAJ ≤ Int32.toInt uW) : ws_X10_readLine_218 post bW aG jY m_length qG rG rQ uW eY aJ aB qL pL := by
  have l0 := li_m1
  refine And.intro (fun c29 => ?_) (fun c29 => ?_)
  · skip
    have c29 := mt (fa_eq _ _).mpr c29
    exfalso; omega
  · skip
    have c29 := (fa_eq _ _).mp c29
    refine And.intro (fun h9 => absurd h9 (by decide)) (fun _ => ?_)
    exact hpost _ _ _ _ _ _ h_m_at (by omega) h_m_newFruitMany h_m_newStandingMany e0_m_newFruits e1_m_newFruits e2_m_newFruits e3_m_newFruits h_m_newFruits h_m_newStandings (by omega) (by omega) (by omega)
set_option maxHeartbeats 8000000 in
set_option maxRecDepth 200000 in
theorem ts_X10_readLine_135 {post : Int32 → Int32 → Int32 → Int32 → (Nat → Int32) → (Nat → Int32) → Prop} {aAJ : Int32} (bW aG : Int32) (jY : Nat) (m_length qG : Int32) (rG rQ : Nat → Int32) (h_m_fruits : 0 ≤ Int32.toInt bW ∧ Int32.toInt bW ≤ 16) (h_m_standings : 0 ≤ Int32.toInt aG ∧ Int32.toInt aG ≤ 8) (h_m_read : jY = 1) (h_m_length : 1 ≤ Int32.toInt m_length ∧ Int32.toInt m_length ≤ 80) (h_m_top : 76 ≤ Int32.toInt qG ∧ Int32.toInt qG ≤ 76) (h_m_text : ∀ k : Nat, -128 ≤ Int32.toInt (rG k) ∧ Int32.toInt (rG k) ≤ 127) (h_m_rule : ∀ k : Nat, -128 ≤ Int32.toInt (rQ k) ∧ Int32.toInt (rQ k) ≤ 127) (hpost : ∀ (m_at' : Int32) (m_wrong' : Int32) (m_newFruitMany' : Int32) (m_newStandingMany' : Int32) (m_newFruits' : Nat → Int32) (m_newStandings' : Nat → Int32), (0 ≤ Int32.toInt m_at' ∧ Int32.toInt m_at' ≤ 80) → (-1 ≤ Int32.toInt m_wrong' ∧ Int32.toInt m_wrong' ≤ 80) → (0 ≤ Int32.toInt m_newFruitMany' ∧ Int32.toInt m_newFruitMany' ≤ 16) → (0 ≤ Int32.toInt m_newStandingMany' ∧ Int32.toInt m_newStandingMany' ≤ 8) → (∀ k : Nat, k % 4 = 0 → 0 ≤ Int32.toInt (m_newFruits' k) ∧ Int32.toInt (m_newFruits' k) ≤ 99) → (∀ k : Nat, k % 4 = 1 → 0 ≤ Int32.toInt (m_newFruits' k) ∧ Int32.toInt (m_newFruits' k) ≤ 99) → (∀ k : Nat, k % 4 = 2 → 0 ≤ Int32.toInt (m_newFruits' k) ∧ Int32.toInt (m_newFruits' k) ≤ 9) → (∀ k : Nat, k % 4 = 3 → 0 ≤ Int32.toInt (m_newFruits' k) ∧ Int32.toInt (m_newFruits' k) ≤ 9) → (∀ k : Nat, 0 ≤ Int32.toInt (m_newFruits' k) ∧ Int32.toInt (m_newFruits' k) ≤ 99) → (∀ k : Nat, 0 ≤ Int32.toInt (m_newStandings' k) ∧ Int32.toInt (m_newStandings' k) ≤ 99) → (Int32.toInt bW + Int32.toInt m_newFruitMany' ≤ 16) → (Int32.toInt aG + Int32.toInt m_newStandingMany' ≤ 8) → (Int32.toInt aAJ ≤ Int32.toInt m_at') → post m_at' m_wrong' m_newFruitMany' m_newStandingMany' m_newFruits' m_newStandings') (uW eY aJ aB : Int32) (qL pL : Nat → Int32) (h_m_at : 0 ≤ Int32.toInt uW ∧ Int32.toInt uW ≤ 80) (h_m_wrong : -1 ≤ Int32.toInt eY ∧ Int32.toInt eY ≤ -1) (h_m_newFruitMany : 0 ≤ Int32.toInt aJ ∧ Int32.toInt aJ ≤ 16) (h_m_newStandingMany : 0 ≤ Int32.toInt aB ∧ Int32.toInt aB ≤ 8) (e0_m_newFruits : ∀ k : Nat, k % 4 = 0 → 0 ≤ Int32.toInt (qL k) ∧ Int32.toInt (qL k) ≤ 99) (e1_m_newFruits : ∀ k : Nat, k % 4 = 1 → 0 ≤ Int32.toInt (qL k) ∧ Int32.toInt (qL k) ≤ 99) (e2_m_newFruits : ∀ k : Nat, k % 4 = 2 → 0 ≤ Int32.toInt (qL k) ∧ Int32.toInt (qL k) ≤ 9) (e3_m_newFruits : ∀ k : Nat, k % 4 = 3 → 0 ≤ Int32.toInt (qL k) ∧ Int32.toInt (qL k) ≤ 9) (h_m_newFruits : ∀ k : Nat, 0 ≤ Int32.toInt (qL k) ∧ Int32.toInt (qL k) ≤ 99) (h_m_newStandings : ∀ k : Nat, 0 ≤ Int32.toInt (pL k) ∧ Int32.toInt (pL k) ≤ 99) (hx0 : Int32.toInt bW + Int32.toInt aJ ≤ 16) (hx1 : Int32.toInt aG + Int32.toInt aB ≤ 8) (hx2 : Int32.toInt aAJ ≤ Int32.toInt uW) : ws_X10_readLine_135 post bW aG jY m_length qG rG rQ uW eY aJ aB qL pL := by
  have l0 := li_m1
  have l1 := li_1
  have l2 := li_115
  have l3 := li_2
  have l4 := li_44
  have l5 := li_8
  refine t_X10_here (by first | exact h_m_read | exact Or.inl rfl | exact Or.inr rfl | omega) (by omega) (by omega) h_m_at h_m_text h_m_rule (by omega) (fun r30 h_r30 ox31 ox32 => ?_)
  refine And.intro (fun c33 => ?_) (fun c33 => ?_)
  · skip
    have c33 := mt (fa_eq _ _).mpr c33
    exact ts_X10_readLine_218 bW aG jY m_length qG rG rQ h_m_fruits h_m_standings h_m_read h_m_length h_m_top h_m_text h_m_rule hpost uW eY aJ aB qL pL h_m_at h_m_wrong h_m_newFruitMany h_m_newStandingMany e0_m_newFruits e1_m_newFruits e2_m_newFruits e3_m_newFruits h_m_newFruits h_m_newStandings hx0 hx1 hx2
  · skip
    have c33 := (fa_eq _ _).mp c33
    intro v34 ev34
    have f35 : Int32.toInt (aG + aB) = Int32.toInt aG + Int32.toInt aB := ta_add _ _ (by omega)
    rw [← ev34] at f35
    refine And.intro (fun c36 => ?_) (fun c36 => ?_)
    · skip
      have c36 := (fa_le _ _).mp c36
      exact ts_X10_readLine_218 bW aG jY m_length qG rG rQ h_m_fruits h_m_standings h_m_read h_m_length h_m_top h_m_text h_m_rule hpost uW eY aJ aB qL pL h_m_at h_m_wrong h_m_newFruitMany h_m_newStandingMany e0_m_newFruits e1_m_newFruits e2_m_newFruits e3_m_newFruits h_m_newFruits h_m_newStandings hx0 hx1 hx2
    · skip
      have c36 := mt (fa_le _ _).mpr c36
      intro v37 ev37
      have f38 : Int32.toInt (2 * aB) = Int32.toInt aB * 2 := ta_cmul _ _ (by decide) (by omega)
      rw [← ev37] at f38
      intro v39 ev39
      have f40 : Int32.toInt (uW + 1) = Int32.toInt uW + Int32.toInt (1 : Int32) := ta_add _ _ (by omega)
      rw [← ev39] at f40
      refine t_X10_number (by omega) (by first | exact h_m_read | exact Or.inl rfl | exact Or.inr rfl | omega) (by omega) (by omega) (by omega) (by omega) h_m_text h_m_rule (by omega) (fun r43 m_at_41 m_wrong_42 h_r43 h_m_at_41 h_m_wrong_42 ox44 ox45 ox46 ox47 => ?_)
      refine And.intro (t_in (by omega)) ?_
      have a48 : ∀ k : Nat, 0 ≤ Int32.toInt ((upd pL v37.toNatClampNeg r43) k) ∧ Int32.toInt ((upd pL v37.toNatClampNeg r43) k) ≤ 99 := t_upd (fun k => by have q9 := h_m_newStandings k; omega) (by omega)
      refine And.intro (fun c49 => ?_) (fun c49 => ?_)
      · skip
        have c49 := mt (fa_eq _ _).mpr c49
        refine And.intro (fun _ => ?_) (fun h9 => absurd h9 (by decide))
        refine And.intro (fun h9 => absurd h9 (by decide)) (fun _ => ?_)
        refine And.intro (fun c50 => ?_) (fun c50 => ?_)
        · skip
          have c50 := mt (fa_eq _ _).mpr c50
          refine And.intro (fun _ => ?_) (fun h9 => absurd h9 (by decide))
          intro v51 ev51
          have f52 : Int32.toInt (v37 + 1) = Int32.toInt v37 + Int32.toInt (1 : Int32) := ta_add _ _ (by omega)
          rw [← ev51] at f52
          refine t_X10_number (by omega) (by first | exact h_m_read | exact Or.inl rfl | exact Or.inr rfl | omega) (by omega) (by omega) h_m_at_41 h_m_wrong_42 h_m_text h_m_rule (by omega) (fun r55 m_at_53 m_wrong_54 h_r55 h_m_at_53 h_m_wrong_54 ox56 ox57 ox58 ox59 => ?_)
          refine And.intro (t_in (by omega)) ?_
          have a60 : ∀ k : Nat, 0 ≤ Int32.toInt ((upd (upd pL v37.toNatClampNeg r43) v51.toNatClampNeg r55) k) ∧ Int32.toInt ((upd (upd pL v37.toNatClampNeg r43) v51.toNatClampNeg r55) k) ≤ 99 := t_upd (fun k => by have q9 := a48 k; omega) (by omega)
          intro v61 ev61
          have f62 : Int32.toInt (aB + 1) = Int32.toInt aB + Int32.toInt (1 : Int32) := ta_add _ _ (by omega)
          rw [← ev61] at f62
          exact hpost _ _ _ _ _ _ h_m_at_53 h_m_wrong_54 h_m_newFruitMany (by omega) e0_m_newFruits e1_m_newFruits e2_m_newFruits e3_m_newFruits h_m_newFruits (fun k => by have q9 := a60 k; omega) (by omega) (by omega) (by omega)
        · skip
          have c50 := (fa_eq _ _).mp c50
          exfalso; omega
      · skip
        have c49 := (fa_eq _ _).mp c49
        refine And.intro (fun h9 => absurd h9 (by decide)) (fun _ => ?_)
        refine t_X10_here (by first | exact h_m_read | exact Or.inl rfl | exact Or.inr rfl | omega) (by omega) (by omega) h_m_at_41 h_m_text h_m_rule (by omega) (fun r63 h_r63 ox64 ox65 => ?_)
        refine And.intro (fun c66 => ?_) (fun c66 => ?_)
        · skip
          have c66 := (fa_eq _ _).mp c66
          intro v67 ev67
          have f68 : Int32.toInt (m_at_41 + 1) = Int32.toInt m_at_41 + Int32.toInt (1 : Int32) := ta_add _ _ (by omega)
          rw [← ev67] at f68
          refine And.intro (fun _ => ?_) (fun h9 => absurd h9 (by decide))
          intro v69 ev69
          have f70 : Int32.toInt (v37 + 1) = Int32.toInt v37 + Int32.toInt (1 : Int32) := ta_add _ _ (by omega)
          rw [← ev69] at f70
          refine t_X10_number (by omega) (by first | exact h_m_read | exact Or.inl rfl | exact Or.inr rfl | omega) (by omega) (by omega) (by omega) h_m_wrong_42 h_m_text h_m_rule (by omega) (fun r73 m_at_71 m_wrong_72 h_r73 h_m_at_71 h_m_wrong_72 ox74 ox75 ox76 ox77 => ?_)
          refine And.intro (t_in (by omega)) ?_
          have a78 : ∀ k : Nat, 0 ≤ Int32.toInt ((upd (upd pL v37.toNatClampNeg r43) v69.toNatClampNeg r73) k) ∧ Int32.toInt ((upd (upd pL v37.toNatClampNeg r43) v69.toNatClampNeg r73) k) ≤ 99 := t_upd (fun k => by have q9 := a48 k; omega) (by omega)
          intro v79 ev79
          have f80 : Int32.toInt (aB + 1) = Int32.toInt aB + Int32.toInt (1 : Int32) := ta_add _ _ (by omega)
          rw [← ev79] at f80
          exact hpost _ _ _ _ _ _ h_m_at_71 h_m_wrong_72 h_m_newFruitMany (by omega) e0_m_newFruits e1_m_newFruits e2_m_newFruits e3_m_newFruits h_m_newFruits (fun k => by have q9 := a78 k; omega) (by omega) (by omega) (by omega)
        · skip
          have c66 := mt (fa_eq _ _).mpr c66
          refine And.intro (fun h9 => absurd h9 (by decide)) (fun _ => ?_)
          refine And.intro (fun c81 => ?_) (fun c81 => ?_)
          · skip
            have c81 := mt (fa_eq _ _).mpr c81
            exfalso; omega
          · skip
            have c81 := (fa_eq _ _).mp c81
            refine And.intro (fun h9 => absurd h9 (by decide)) (fun _ => ?_)
            intro v82 ev82
            have f83 : Int32.toInt (v37 + 1) = Int32.toInt v37 + Int32.toInt (1 : Int32) := ta_add _ _ (by omega)
            rw [← ev82] at f83
            refine t_X10_number (by omega) (by first | exact h_m_read | exact Or.inl rfl | exact Or.inr rfl | omega) (by omega) (by omega) h_m_at_41 (by omega) h_m_text h_m_rule (by omega) (fun r86 m_at_84 m_wrong_85 h_r86 h_m_at_84 h_m_wrong_85 ox87 ox88 ox89 ox90 => ?_)
            refine And.intro (t_in (by omega)) ?_
            have a91 : ∀ k : Nat, 0 ≤ Int32.toInt ((upd (upd pL v37.toNatClampNeg r43) v82.toNatClampNeg r86) k) ∧ Int32.toInt ((upd (upd pL v37.toNatClampNeg r43) v82.toNatClampNeg r86) k) ≤ 99 := t_upd (fun k => by have q9 := a48 k; omega) (by omega)
            intro v92 ev92
            have f93 : Int32.toInt (aB + 1) = Int32.toInt aB + Int32.toInt (1 : Int32) := ta_add _ _ (by omega)
            rw [← ev92] at f93
            exact hpost _ _ _ _ _ _ h_m_at_84 h_m_wrong_85 h_m_newFruitMany (by omega) e0_m_newFruits e1_m_newFruits e2_m_newFruits e3_m_newFruits h_m_newFruits (fun k => by have q9 := a91 k; omega) (by omega) (by omega) (by omega)
set_option maxHeartbeats 8000000 in
set_option maxRecDepth 200000 in
theorem t_X10_readLine {post : Int32 → Int32 → Int32 → Int32 → (Nat → Int32) → (Nat → Int32) → Prop} {bW aG : Int32} {jY : Nat} {m_length qG uW eY aJ aB : Int32} {rG qL pL rQ : Nat → Int32} (h_m_fruits : 0 ≤ Int32.toInt bW ∧ Int32.toInt bW ≤ 16) (h_m_standings : 0 ≤ Int32.toInt aG ∧ Int32.toInt aG ≤ 8) (h_m_read : jY = 1) (h_m_length : 1 ≤ Int32.toInt m_length ∧ Int32.toInt m_length ≤ 80) (h_m_top : 76 ≤ Int32.toInt qG ∧ Int32.toInt qG ≤ 76) (h_m_at : 0 ≤ Int32.toInt uW ∧ Int32.toInt uW ≤ 80) (h_m_wrong : -1 ≤ Int32.toInt eY ∧ Int32.toInt eY ≤ -1) (h_m_newFruitMany : 0 ≤ Int32.toInt aJ ∧ Int32.toInt aJ ≤ 16) (h_m_newStandingMany : 0 ≤ Int32.toInt aB ∧ Int32.toInt aB ≤ 8) (h_m_text : ∀ k : Nat, -128 ≤ Int32.toInt (rG k) ∧ Int32.toInt (rG k) ≤ 127) (e0_m_newFruits : ∀ k : Nat, k % 4 = 0 → 0 ≤ Int32.toInt (qL k) ∧ Int32.toInt (qL k) ≤ 99) (e1_m_newFruits : ∀ k : Nat, k % 4 = 1 → 0 ≤ Int32.toInt (qL k) ∧ Int32.toInt (qL k) ≤ 99) (e2_m_newFruits : ∀ k : Nat, k % 4 = 2 → 0 ≤ Int32.toInt (qL k) ∧ Int32.toInt (qL k) ≤ 9) (e3_m_newFruits : ∀ k : Nat, k % 4 = 3 → 0 ≤ Int32.toInt (qL k) ∧ Int32.toInt (qL k) ≤ 9) (h_m_newFruits : ∀ k : Nat, 0 ≤ Int32.toInt (qL k) ∧ Int32.toInt (qL k) ≤ 99) (h_m_newStandings : ∀ k : Nat, 0 ≤ Int32.toInt (pL k) ∧ Int32.toInt (pL k) ≤ 99) (h_m_rule : ∀ k : Nat, -128 ≤ Int32.toInt (rQ k) ∧ Int32.toInt (rQ k) ≤ 127) (hx0 : Int32.toInt bW + Int32.toInt aJ ≤ 16) (hx1 : Int32.toInt aG + Int32.toInt aB ≤ 8) (hpost : ∀ (m_at' : Int32) (m_wrong' : Int32) (m_newFruitMany' : Int32) (m_newStandingMany' : Int32) (m_newFruits' : Nat → Int32) (m_newStandings' : Nat → Int32), (0 ≤ Int32.toInt m_at' ∧ Int32.toInt m_at' ≤ 80) → (-1 ≤ Int32.toInt m_wrong' ∧ Int32.toInt m_wrong' ≤ 80) → (0 ≤ Int32.toInt m_newFruitMany' ∧ Int32.toInt m_newFruitMany' ≤ 16) → (0 ≤ Int32.toInt m_newStandingMany' ∧ Int32.toInt m_newStandingMany' ≤ 8) → (∀ k : Nat, k % 4 = 0 → 0 ≤ Int32.toInt (m_newFruits' k) ∧ Int32.toInt (m_newFruits' k) ≤ 99) → (∀ k : Nat, k % 4 = 1 → 0 ≤ Int32.toInt (m_newFruits' k) ∧ Int32.toInt (m_newFruits' k) ≤ 99) → (∀ k : Nat, k % 4 = 2 → 0 ≤ Int32.toInt (m_newFruits' k) ∧ Int32.toInt (m_newFruits' k) ≤ 9) → (∀ k : Nat, k % 4 = 3 → 0 ≤ Int32.toInt (m_newFruits' k) ∧ Int32.toInt (m_newFruits' k) ≤ 9) → (∀ k : Nat, 0 ≤ Int32.toInt (m_newFruits' k) ∧ Int32.toInt (m_newFruits' k) ≤ 99) → (∀ k : Nat, 0 ≤ Int32.toInt (m_newStandings' k) ∧ Int32.toInt (m_newStandings' k) ≤ 99) → (Int32.toInt bW + Int32.toInt m_newFruitMany' ≤ 16) → (Int32.toInt aG + Int32.toInt m_newStandingMany' ≤ 8) → (Int32.toInt uW ≤ Int32.toInt m_at') → post m_at' m_wrong' m_newFruitMany' m_newStandingMany' m_newFruits' m_newStandings') : wp_X10_readLine post bW aG jY m_length qG uW eY aJ aB rG qL pL rQ := by
  have l0 := li_m1
  have l1 := li_1
  have l2 := li_102
  have l3 := li_16
  have l4 := li_2
  have l5 := li_4
  have l6 := li_42
  have l7 := li_44
  refine t_X10_here (by first | exact h_m_read | exact Or.inl rfl | exact Or.inr rfl | omega) (by omega) (by omega) h_m_at h_m_text h_m_rule (by omega) (fun r94 h_r94 ox95 ox96 => ?_)
  refine And.intro (fun c97 => ?_) (fun c97 => ?_)
  · skip
    have c97 := mt (fa_eq _ _).mpr c97
    exact ts_X10_readLine_135 bW aG jY m_length qG rG rQ h_m_fruits h_m_standings h_m_read h_m_length h_m_top h_m_text h_m_rule hpost uW eY aJ aB qL pL h_m_at h_m_wrong h_m_newFruitMany h_m_newStandingMany e0_m_newFruits e1_m_newFruits e2_m_newFruits e3_m_newFruits h_m_newFruits h_m_newStandings (by omega) (by omega) (by omega)
  · skip
    have c97 := (fa_eq _ _).mp c97
    intro v98 ev98
    have f99 : Int32.toInt (bW + aJ) = Int32.toInt bW + Int32.toInt aJ := ta_add _ _ (by omega)
    rw [← ev98] at f99
    refine And.intro (fun c100 => ?_) (fun c100 => ?_)
    · skip
      have c100 := (fa_le _ _).mp c100
      exact ts_X10_readLine_135 bW aG jY m_length qG rG rQ h_m_fruits h_m_standings h_m_read h_m_length h_m_top h_m_text h_m_rule hpost uW eY aJ aB qL pL h_m_at h_m_wrong h_m_newFruitMany h_m_newStandingMany e0_m_newFruits e1_m_newFruits e2_m_newFruits e3_m_newFruits h_m_newFruits h_m_newStandings (by omega) (by omega) (by omega)
    · skip
      have c100 := mt (fa_le _ _).mpr c100
      intro v101 ev101
      have f102 : Int32.toInt (4 * aJ) = Int32.toInt aJ * 4 := ta_cmul _ _ (by decide) (by omega)
      rw [← ev101] at f102
      intro v103 ev103
      have f104 : Int32.toInt (uW + 1) = Int32.toInt uW + Int32.toInt (1 : Int32) := ta_add _ _ (by omega)
      rw [← ev103] at f104
      refine t_X10_number (by omega) (by first | exact h_m_read | exact Or.inl rfl | exact Or.inr rfl | omega) (by omega) (by omega) (by omega) (by omega) h_m_text h_m_rule (by omega) (fun r107 m_at_105 m_wrong_106 h_r107 h_m_at_105 h_m_wrong_106 ox108 ox109 ox110 ox111 => ?_)
      refine And.intro (t_in (by omega)) ?_
      have a112 : ∀ k : Nat, 0 ≤ Int32.toInt ((upd qL v101.toNatClampNeg r107) k) ∧ Int32.toInt ((upd qL v101.toNatClampNeg r107) k) ≤ 99 := t_upd (fun k => by have q9 := h_m_newFruits k; omega) (by omega)
      have e113 : ∀ k : Nat, k % 4 = 0 → 0 ≤ Int32.toInt ((upd qL v101.toNatClampNeg r107) k) ∧ Int32.toInt ((upd qL v101.toNatClampNeg r107) k) ≤ 99 := t_updc (C := fun k => k % 4 = 0) e0_m_newFruits (fun hk => by have e9 : v101.toNatClampNeg = (Int32.toInt v101).toNat := rfl; have hk : v101.toNatClampNeg % 4 = 0 := hk; omega)
      have e114 : ∀ k : Nat, k % 4 = 1 → 0 ≤ Int32.toInt ((upd qL v101.toNatClampNeg r107) k) ∧ Int32.toInt ((upd qL v101.toNatClampNeg r107) k) ≤ 99 := t_updc (C := fun k => k % 4 = 1) e1_m_newFruits (fun hk => by have e9 : v101.toNatClampNeg = (Int32.toInt v101).toNat := rfl; have hk : v101.toNatClampNeg % 4 = 1 := hk; omega)
      have e115 : ∀ k : Nat, k % 4 = 2 → 0 ≤ Int32.toInt ((upd qL v101.toNatClampNeg r107) k) ∧ Int32.toInt ((upd qL v101.toNatClampNeg r107) k) ≤ 9 := t_updc (C := fun k => k % 4 = 2) e2_m_newFruits (fun hk => by have e9 : v101.toNatClampNeg = (Int32.toInt v101).toNat := rfl; have hk : v101.toNatClampNeg % 4 = 2 := hk; omega)
      have e116 : ∀ k : Nat, k % 4 = 3 → 0 ≤ Int32.toInt ((upd qL v101.toNatClampNeg r107) k) ∧ Int32.toInt ((upd qL v101.toNatClampNeg r107) k) ≤ 9 := t_updc (C := fun k => k % 4 = 3) e3_m_newFruits (fun hk => by have e9 : v101.toNatClampNeg = (Int32.toInt v101).toNat := rfl; have hk : v101.toNatClampNeg % 4 = 3 := hk; omega)
      refine And.intro (fun c117 => ?_) (fun c117 => ?_)
      · skip
        have c117 := mt (fa_eq _ _).mpr c117
        refine And.intro (fun _ => ?_) (fun h9 => absurd h9 (by decide))
        refine And.intro (fun h9 => absurd h9 (by decide)) (fun _ => ?_)
        refine And.intro (fun c118 => ?_) (fun c118 => ?_)
        · skip
          have c118 := mt (fa_eq _ _).mpr c118
          refine And.intro (fun _ => ?_) (fun h9 => absurd h9 (by decide))
          intro v119 ev119
          have f120 : Int32.toInt (v101 + 1) = Int32.toInt v101 + Int32.toInt (1 : Int32) := ta_add _ _ (by omega)
          rw [← ev119] at f120
          refine t_X10_number (by omega) (by first | exact h_m_read | exact Or.inl rfl | exact Or.inr rfl | omega) (by omega) (by omega) h_m_at_105 h_m_wrong_106 h_m_text h_m_rule (by omega) (fun r123 m_at_121 m_wrong_122 h_r123 h_m_at_121 h_m_wrong_122 ox124 ox125 ox126 ox127 => ?_)
          refine And.intro (t_in (by omega)) ?_
          have a128 : ∀ k : Nat, 0 ≤ Int32.toInt ((upd (upd qL v101.toNatClampNeg r107) v119.toNatClampNeg r123) k) ∧ Int32.toInt ((upd (upd qL v101.toNatClampNeg r107) v119.toNatClampNeg r123) k) ≤ 99 := t_upd (fun k => by have q9 := a112 k; omega) (by omega)
          have e129 : ∀ k : Nat, k % 4 = 0 → 0 ≤ Int32.toInt ((upd (upd qL v101.toNatClampNeg r107) v119.toNatClampNeg r123) k) ∧ Int32.toInt ((upd (upd qL v101.toNatClampNeg r107) v119.toNatClampNeg r123) k) ≤ 99 := t_updc (C := fun k => k % 4 = 0) e113 (fun hk => by have e9 : v119.toNatClampNeg = (Int32.toInt v119).toNat := rfl; have hk : v119.toNatClampNeg % 4 = 0 := hk; omega)
          have e130 : ∀ k : Nat, k % 4 = 1 → 0 ≤ Int32.toInt ((upd (upd qL v101.toNatClampNeg r107) v119.toNatClampNeg r123) k) ∧ Int32.toInt ((upd (upd qL v101.toNatClampNeg r107) v119.toNatClampNeg r123) k) ≤ 99 := t_updc (C := fun k => k % 4 = 1) e114 (fun hk => by have e9 : v119.toNatClampNeg = (Int32.toInt v119).toNat := rfl; have hk : v119.toNatClampNeg % 4 = 1 := hk; omega)
          have e131 : ∀ k : Nat, k % 4 = 2 → 0 ≤ Int32.toInt ((upd (upd qL v101.toNatClampNeg r107) v119.toNatClampNeg r123) k) ∧ Int32.toInt ((upd (upd qL v101.toNatClampNeg r107) v119.toNatClampNeg r123) k) ≤ 9 := t_updc (C := fun k => k % 4 = 2) e115 (fun hk => by have e9 : v119.toNatClampNeg = (Int32.toInt v119).toNat := rfl; have hk : v119.toNatClampNeg % 4 = 2 := hk; omega)
          have e132 : ∀ k : Nat, k % 4 = 3 → 0 ≤ Int32.toInt ((upd (upd qL v101.toNatClampNeg r107) v119.toNatClampNeg r123) k) ∧ Int32.toInt ((upd (upd qL v101.toNatClampNeg r107) v119.toNatClampNeg r123) k) ≤ 9 := t_updc (C := fun k => k % 4 = 3) e116 (fun hk => by have e9 : v119.toNatClampNeg = (Int32.toInt v119).toNat := rfl; have hk : v119.toNatClampNeg % 4 = 3 := hk; omega)
          intro v133 ev133
          have f134 : Int32.toInt (v101 + 2) = Int32.toInt v101 + Int32.toInt (2 : Int32) := ta_add _ _ (by omega)
          rw [← ev133] at f134
          refine And.intro (fun c135 => ?_) (fun c135 => ?_)
          · skip
            have c135 := mt (fa_eq _ _).mpr c135
            refine And.intro (fun _ => ?_) (fun h9 => absurd h9 (by decide))
            refine And.intro (fun _ => ?_) (fun h9 => absurd h9 (by decide))
            exact ts_X10_readLine_95 bW aG jY m_length qG rG rQ h_m_fruits h_m_standings h_m_read h_m_length h_m_top h_m_text h_m_rule hpost v101 v133 1 m_at_121 m_wrong_122 aJ aB (upd (upd qL v101.toNatClampNeg r107) v119.toNatClampNeg r123) pL (by omega) (by omega) (by omega) h_m_at_121 h_m_wrong_122 h_m_newFruitMany h_m_newStandingMany e129 e130 e131 e132 (fun k => by have q9 := a128 k; omega) h_m_newStandings (by omega) (by omega) (by omega) (by omega) (by omega)
          · skip
            have c135 := (fa_eq _ _).mp c135
            refine And.intro (fun h9 => absurd h9 (by decide)) (fun _ => ?_)
            refine t_X10_here (by first | exact h_m_read | exact Or.inl rfl | exact Or.inr rfl | omega) (by omega) (by omega) h_m_at_121 h_m_text h_m_rule (by omega) (fun r136 h_r136 ox137 ox138 => ?_)
            refine And.intro (fun c139 => ?_) (fun c139 => ?_)
            · skip
              have c139 := (fa_eq _ _).mp c139
              intro v140 ev140
              have f141 : Int32.toInt (m_at_121 + 1) = Int32.toInt m_at_121 + Int32.toInt (1 : Int32) := ta_add _ _ (by omega)
              rw [← ev140] at f141
              refine And.intro (fun h9 => absurd h9 (by decide)) (fun _ => ?_)
              refine t_X10_number (by omega) (by first | exact h_m_read | exact Or.inl rfl | exact Or.inr rfl | omega) (by omega) (by omega) (by omega) h_m_wrong_122 h_m_text h_m_rule (by omega) (fun r144 m_at_142 m_wrong_143 h_r144 h_m_at_142 h_m_wrong_143 ox145 ox146 ox147 ox148 => ?_)
              exact ts_X10_readLine_95 bW aG jY m_length qG rG rQ h_m_fruits h_m_standings h_m_read h_m_length h_m_top h_m_text h_m_rule hpost v101 v133 r144 m_at_142 m_wrong_143 aJ aB (upd (upd qL v101.toNatClampNeg r107) v119.toNatClampNeg r123) pL (by omega) (by omega) (by omega) h_m_at_142 h_m_wrong_143 h_m_newFruitMany h_m_newStandingMany e129 e130 e131 e132 (fun k => by have q9 := a128 k; omega) h_m_newStandings (by omega) (by omega) (by omega) (by omega) (by omega)
            · skip
              have c139 := mt (fa_eq _ _).mpr c139
              refine And.intro (fun _ => ?_) (fun h9 => absurd h9 (by decide))
              exact ts_X10_readLine_95 bW aG jY m_length qG rG rQ h_m_fruits h_m_standings h_m_read h_m_length h_m_top h_m_text h_m_rule hpost v101 v133 1 m_at_121 m_wrong_122 aJ aB (upd (upd qL v101.toNatClampNeg r107) v119.toNatClampNeg r123) pL (by omega) (by omega) (by omega) h_m_at_121 h_m_wrong_122 h_m_newFruitMany h_m_newStandingMany e129 e130 e131 e132 (fun k => by have q9 := a128 k; omega) h_m_newStandings (by omega) (by omega) (by omega) (by omega) (by omega)
        · skip
          have c118 := (fa_eq _ _).mp c118
          exfalso; omega
      · skip
        have c117 := (fa_eq _ _).mp c117
        refine And.intro (fun h9 => absurd h9 (by decide)) (fun _ => ?_)
        refine t_X10_here (by first | exact h_m_read | exact Or.inl rfl | exact Or.inr rfl | omega) (by omega) (by omega) h_m_at_105 h_m_text h_m_rule (by omega) (fun r149 h_r149 ox150 ox151 => ?_)
        refine And.intro (fun c152 => ?_) (fun c152 => ?_)
        · skip
          have c152 := (fa_eq _ _).mp c152
          intro v153 ev153
          have f154 : Int32.toInt (m_at_105 + 1) = Int32.toInt m_at_105 + Int32.toInt (1 : Int32) := ta_add _ _ (by omega)
          rw [← ev153] at f154
          refine And.intro (fun _ => ?_) (fun h9 => absurd h9 (by decide))
          intro v155 ev155
          have f156 : Int32.toInt (v101 + 1) = Int32.toInt v101 + Int32.toInt (1 : Int32) := ta_add _ _ (by omega)
          rw [← ev155] at f156
          refine t_X10_number (by omega) (by first | exact h_m_read | exact Or.inl rfl | exact Or.inr rfl | omega) (by omega) (by omega) (by omega) h_m_wrong_106 h_m_text h_m_rule (by omega) (fun r159 m_at_157 m_wrong_158 h_r159 h_m_at_157 h_m_wrong_158 ox160 ox161 ox162 ox163 => ?_)
          refine And.intro (t_in (by omega)) ?_
          have a164 : ∀ k : Nat, 0 ≤ Int32.toInt ((upd (upd qL v101.toNatClampNeg r107) v155.toNatClampNeg r159) k) ∧ Int32.toInt ((upd (upd qL v101.toNatClampNeg r107) v155.toNatClampNeg r159) k) ≤ 99 := t_upd (fun k => by have q9 := a112 k; omega) (by omega)
          have e165 : ∀ k : Nat, k % 4 = 0 → 0 ≤ Int32.toInt ((upd (upd qL v101.toNatClampNeg r107) v155.toNatClampNeg r159) k) ∧ Int32.toInt ((upd (upd qL v101.toNatClampNeg r107) v155.toNatClampNeg r159) k) ≤ 99 := t_updc (C := fun k => k % 4 = 0) e113 (fun hk => by have e9 : v155.toNatClampNeg = (Int32.toInt v155).toNat := rfl; have hk : v155.toNatClampNeg % 4 = 0 := hk; omega)
          have e166 : ∀ k : Nat, k % 4 = 1 → 0 ≤ Int32.toInt ((upd (upd qL v101.toNatClampNeg r107) v155.toNatClampNeg r159) k) ∧ Int32.toInt ((upd (upd qL v101.toNatClampNeg r107) v155.toNatClampNeg r159) k) ≤ 99 := t_updc (C := fun k => k % 4 = 1) e114 (fun hk => by have e9 : v155.toNatClampNeg = (Int32.toInt v155).toNat := rfl; have hk : v155.toNatClampNeg % 4 = 1 := hk; omega)
          have e167 : ∀ k : Nat, k % 4 = 2 → 0 ≤ Int32.toInt ((upd (upd qL v101.toNatClampNeg r107) v155.toNatClampNeg r159) k) ∧ Int32.toInt ((upd (upd qL v101.toNatClampNeg r107) v155.toNatClampNeg r159) k) ≤ 9 := t_updc (C := fun k => k % 4 = 2) e115 (fun hk => by have e9 : v155.toNatClampNeg = (Int32.toInt v155).toNat := rfl; have hk : v155.toNatClampNeg % 4 = 2 := hk; omega)
          have e168 : ∀ k : Nat, k % 4 = 3 → 0 ≤ Int32.toInt ((upd (upd qL v101.toNatClampNeg r107) v155.toNatClampNeg r159) k) ∧ Int32.toInt ((upd (upd qL v101.toNatClampNeg r107) v155.toNatClampNeg r159) k) ≤ 9 := t_updc (C := fun k => k % 4 = 3) e116 (fun hk => by have e9 : v155.toNatClampNeg = (Int32.toInt v155).toNat := rfl; have hk : v155.toNatClampNeg % 4 = 3 := hk; omega)
          intro v169 ev169
          have f170 : Int32.toInt (v101 + 2) = Int32.toInt v101 + Int32.toInt (2 : Int32) := ta_add _ _ (by omega)
          rw [← ev169] at f170
          refine And.intro (fun c171 => ?_) (fun c171 => ?_)
          · skip
            have c171 := mt (fa_eq _ _).mpr c171
            refine And.intro (fun _ => ?_) (fun h9 => absurd h9 (by decide))
            refine And.intro (fun _ => ?_) (fun h9 => absurd h9 (by decide))
            exact ts_X10_readLine_95 bW aG jY m_length qG rG rQ h_m_fruits h_m_standings h_m_read h_m_length h_m_top h_m_text h_m_rule hpost v101 v169 1 m_at_157 m_wrong_158 aJ aB (upd (upd qL v101.toNatClampNeg r107) v155.toNatClampNeg r159) pL (by omega) (by omega) (by omega) h_m_at_157 h_m_wrong_158 h_m_newFruitMany h_m_newStandingMany e165 e166 e167 e168 (fun k => by have q9 := a164 k; omega) h_m_newStandings (by omega) (by omega) (by omega) (by omega) (by omega)
          · skip
            have c171 := (fa_eq _ _).mp c171
            refine And.intro (fun h9 => absurd h9 (by decide)) (fun _ => ?_)
            refine t_X10_here (by first | exact h_m_read | exact Or.inl rfl | exact Or.inr rfl | omega) (by omega) (by omega) h_m_at_157 h_m_text h_m_rule (by omega) (fun r172 h_r172 ox173 ox174 => ?_)
            refine And.intro (fun c175 => ?_) (fun c175 => ?_)
            · skip
              have c175 := (fa_eq _ _).mp c175
              intro v176 ev176
              have f177 : Int32.toInt (m_at_157 + 1) = Int32.toInt m_at_157 + Int32.toInt (1 : Int32) := ta_add _ _ (by omega)
              rw [← ev176] at f177
              refine And.intro (fun h9 => absurd h9 (by decide)) (fun _ => ?_)
              refine t_X10_number (by omega) (by first | exact h_m_read | exact Or.inl rfl | exact Or.inr rfl | omega) (by omega) (by omega) (by omega) h_m_wrong_158 h_m_text h_m_rule (by omega) (fun r180 m_at_178 m_wrong_179 h_r180 h_m_at_178 h_m_wrong_179 ox181 ox182 ox183 ox184 => ?_)
              exact ts_X10_readLine_95 bW aG jY m_length qG rG rQ h_m_fruits h_m_standings h_m_read h_m_length h_m_top h_m_text h_m_rule hpost v101 v169 r180 m_at_178 m_wrong_179 aJ aB (upd (upd qL v101.toNatClampNeg r107) v155.toNatClampNeg r159) pL (by omega) (by omega) (by omega) h_m_at_178 h_m_wrong_179 h_m_newFruitMany h_m_newStandingMany e165 e166 e167 e168 (fun k => by have q9 := a164 k; omega) h_m_newStandings (by omega) (by omega) (by omega) (by omega) (by omega)
            · skip
              have c175 := mt (fa_eq _ _).mpr c175
              refine And.intro (fun _ => ?_) (fun h9 => absurd h9 (by decide))
              exact ts_X10_readLine_95 bW aG jY m_length qG rG rQ h_m_fruits h_m_standings h_m_read h_m_length h_m_top h_m_text h_m_rule hpost v101 v169 1 m_at_157 m_wrong_158 aJ aB (upd (upd qL v101.toNatClampNeg r107) v155.toNatClampNeg r159) pL (by omega) (by omega) (by omega) h_m_at_157 h_m_wrong_158 h_m_newFruitMany h_m_newStandingMany e165 e166 e167 e168 (fun k => by have q9 := a164 k; omega) h_m_newStandings (by omega) (by omega) (by omega) (by omega) (by omega)
        · skip
          have c152 := mt (fa_eq _ _).mpr c152
          refine And.intro (fun h9 => absurd h9 (by decide)) (fun _ => ?_)
          refine And.intro (fun c185 => ?_) (fun c185 => ?_)
          · skip
            have c185 := mt (fa_eq _ _).mpr c185
            exfalso; omega
          · skip
            have c185 := (fa_eq _ _).mp c185
            refine And.intro (fun h9 => absurd h9 (by decide)) (fun _ => ?_)
            intro v186 ev186
            have f187 : Int32.toInt (v101 + 1) = Int32.toInt v101 + Int32.toInt (1 : Int32) := ta_add _ _ (by omega)
            rw [← ev186] at f187
            refine t_X10_number (by omega) (by first | exact h_m_read | exact Or.inl rfl | exact Or.inr rfl | omega) (by omega) (by omega) h_m_at_105 (by omega) h_m_text h_m_rule (by omega) (fun r190 m_at_188 m_wrong_189 h_r190 h_m_at_188 h_m_wrong_189 ox191 ox192 ox193 ox194 => ?_)
            refine And.intro (t_in (by omega)) ?_
            have a195 : ∀ k : Nat, 0 ≤ Int32.toInt ((upd (upd qL v101.toNatClampNeg r107) v186.toNatClampNeg r190) k) ∧ Int32.toInt ((upd (upd qL v101.toNatClampNeg r107) v186.toNatClampNeg r190) k) ≤ 99 := t_upd (fun k => by have q9 := a112 k; omega) (by omega)
            have e196 : ∀ k : Nat, k % 4 = 0 → 0 ≤ Int32.toInt ((upd (upd qL v101.toNatClampNeg r107) v186.toNatClampNeg r190) k) ∧ Int32.toInt ((upd (upd qL v101.toNatClampNeg r107) v186.toNatClampNeg r190) k) ≤ 99 := t_updc (C := fun k => k % 4 = 0) e113 (fun hk => by have e9 : v186.toNatClampNeg = (Int32.toInt v186).toNat := rfl; have hk : v186.toNatClampNeg % 4 = 0 := hk; omega)
            have e197 : ∀ k : Nat, k % 4 = 1 → 0 ≤ Int32.toInt ((upd (upd qL v101.toNatClampNeg r107) v186.toNatClampNeg r190) k) ∧ Int32.toInt ((upd (upd qL v101.toNatClampNeg r107) v186.toNatClampNeg r190) k) ≤ 99 := t_updc (C := fun k => k % 4 = 1) e114 (fun hk => by have e9 : v186.toNatClampNeg = (Int32.toInt v186).toNat := rfl; have hk : v186.toNatClampNeg % 4 = 1 := hk; omega)
            have e198 : ∀ k : Nat, k % 4 = 2 → 0 ≤ Int32.toInt ((upd (upd qL v101.toNatClampNeg r107) v186.toNatClampNeg r190) k) ∧ Int32.toInt ((upd (upd qL v101.toNatClampNeg r107) v186.toNatClampNeg r190) k) ≤ 9 := t_updc (C := fun k => k % 4 = 2) e115 (fun hk => by have e9 : v186.toNatClampNeg = (Int32.toInt v186).toNat := rfl; have hk : v186.toNatClampNeg % 4 = 2 := hk; omega)
            have e199 : ∀ k : Nat, k % 4 = 3 → 0 ≤ Int32.toInt ((upd (upd qL v101.toNatClampNeg r107) v186.toNatClampNeg r190) k) ∧ Int32.toInt ((upd (upd qL v101.toNatClampNeg r107) v186.toNatClampNeg r190) k) ≤ 9 := t_updc (C := fun k => k % 4 = 3) e116 (fun hk => by have e9 : v186.toNatClampNeg = (Int32.toInt v186).toNat := rfl; have hk : v186.toNatClampNeg % 4 = 3 := hk; omega)
            intro v200 ev200
            have f201 : Int32.toInt (v101 + 2) = Int32.toInt v101 + Int32.toInt (2 : Int32) := ta_add _ _ (by omega)
            rw [← ev200] at f201
            refine And.intro (fun c202 => ?_) (fun c202 => ?_)
            · skip
              have c202 := mt (fa_eq _ _).mpr c202
              refine And.intro (fun _ => ?_) (fun h9 => absurd h9 (by decide))
              refine And.intro (fun _ => ?_) (fun h9 => absurd h9 (by decide))
              exact ts_X10_readLine_95 bW aG jY m_length qG rG rQ h_m_fruits h_m_standings h_m_read h_m_length h_m_top h_m_text h_m_rule hpost v101 v200 1 m_at_188 m_wrong_189 aJ aB (upd (upd qL v101.toNatClampNeg r107) v186.toNatClampNeg r190) pL (by omega) (by omega) (by omega) h_m_at_188 h_m_wrong_189 h_m_newFruitMany h_m_newStandingMany e196 e197 e198 e199 (fun k => by have q9 := a195 k; omega) h_m_newStandings (by omega) (by omega) (by omega) (by omega) (by omega)
            · skip
              have c202 := (fa_eq _ _).mp c202
              refine And.intro (fun h9 => absurd h9 (by decide)) (fun _ => ?_)
              refine t_X10_here (by first | exact h_m_read | exact Or.inl rfl | exact Or.inr rfl | omega) (by omega) (by omega) h_m_at_188 h_m_text h_m_rule (by omega) (fun r203 h_r203 ox204 ox205 => ?_)
              refine And.intro (fun c206 => ?_) (fun c206 => ?_)
              · skip
                have c206 := (fa_eq _ _).mp c206
                intro v207 ev207
                have f208 : Int32.toInt (m_at_188 + 1) = Int32.toInt m_at_188 + Int32.toInt (1 : Int32) := ta_add _ _ (by omega)
                rw [← ev207] at f208
                refine And.intro (fun h9 => absurd h9 (by decide)) (fun _ => ?_)
                refine t_X10_number (by omega) (by first | exact h_m_read | exact Or.inl rfl | exact Or.inr rfl | omega) (by omega) (by omega) (by omega) h_m_wrong_189 h_m_text h_m_rule (by omega) (fun r211 m_at_209 m_wrong_210 h_r211 h_m_at_209 h_m_wrong_210 ox212 ox213 ox214 ox215 => ?_)
                exact ts_X10_readLine_95 bW aG jY m_length qG rG rQ h_m_fruits h_m_standings h_m_read h_m_length h_m_top h_m_text h_m_rule hpost v101 v200 r211 m_at_209 m_wrong_210 aJ aB (upd (upd qL v101.toNatClampNeg r107) v186.toNatClampNeg r190) pL (by omega) (by omega) (by omega) h_m_at_209 h_m_wrong_210 h_m_newFruitMany h_m_newStandingMany e196 e197 e198 e199 (fun k => by have q9 := a195 k; omega) h_m_newStandings (by omega) (by omega) (by omega) (by omega) (by omega)
              · skip
                have c206 := mt (fa_eq _ _).mpr c206
                refine And.intro (fun _ => ?_) (fun h9 => absurd h9 (by decide))
                exact ts_X10_readLine_95 bW aG jY m_length qG rG rQ h_m_fruits h_m_standings h_m_read h_m_length h_m_top h_m_text h_m_rule hpost v101 v200 1 m_at_188 m_wrong_189 aJ aB (upd (upd qL v101.toNatClampNeg r107) v186.toNatClampNeg r190) pL (by omega) (by omega) (by omega) h_m_at_188 h_m_wrong_189 h_m_newFruitMany h_m_newStandingMany e196 e197 e198 e199 (fun k => by have q9 := a195 k; omega) h_m_newStandings (by omega) (by omega) (by omega) (by omega) (by omega)
set_option maxHeartbeats 8000000 in
set_option maxRecDepth 200000 in
theorem ts_X10_orchard_215 {post : Int32 → Int32 → Int32 → Int32 → Int32 → Nat → Int32 → Int32 → Int32 → Int32 → Int32 → Int32 → Int32 → Int32 → (Nat → Int32) → (Nat → Int32) → (Nat → Int32) → (Nat → Int32) → (Nat → Int32) → (Nat → Int32) → (Nat → Int32) → (Nat → Int32) → (Nat → Int32) → Prop} {SB : Int} {zR : Int32} {next : Int32 → Int32 → Int32 → Int32 → Int32 → Nat → Int32 → Int32 → Int32 → Int32 → Int32 → Int32 → Int32 → Int32 → (Nat → Int32) → (Nat → Int32) → (Nat → Int32) → (Nat → Int32) → (Nat → Int32) → (Nat → Int32) → (Nat → Int32) → (Nat → Int32) → (Nat → Int32) → Prop} {n215 : Int} (rG rQ : Nat → Int32) (h_m_text : ∀ k : Nat, -128 ≤ Int32.toInt (rG k) ∧ Int32.toInt (rG k) ≤ 127) (h_m_rule : ∀ k : Nat, -128 ≤ Int32.toInt (rQ k) ∧ Int32.toInt (rQ k) ≤ 127) (hc0 : -1 ≤ SB ∧ SB ≤ 7) (hpost : ∀ (r : Int32) (m_fruits' : Int32) (m_standings' : Int32) (m_typed' : Int32) (m_thrown' : Int32) (m_read' : Nat) (m_length' : Int32) (m_top' : Int32) (m_at' : Int32) (m_wrong' : Int32) (m_newFruitMany' : Int32) (m_newStandingMany' : Int32) (m_undoMany' : Int32) (m_came' : Int32) (m_now' : Nat → Int32) (m_x' : Nat → Int32) (m_height' : Nat → Int32) (m_worth' : Nat → Int32) (m_ripe' : Nat → Int32) (m_foot' : Nat → Int32) (m_fork' : Nat → Int32) (m_newFruits' : Nat → Int32) (m_newStandings' : Nat → Int32), (-100 ≤ Int32.toInt r ∧ Int32.toInt r ≤ 24) → (0 ≤ Int32.toInt m_fruits' ∧ Int32.toInt m_fruits' ≤ 16) → (0 ≤ Int32.toInt m_standings' ∧ Int32.toInt m_standings' ≤ 8) → (0 ≤ Int32.toInt m_typed' ∧ Int32.toInt m_typed' ≤ 0) → (0 ≤ Int32.toInt m_thrown' ∧ Int32.toInt m_thrown' ≤ 0) → (m_read' = 1) → (0 ≤ Int32.toInt m_length' ∧ Int32.toInt m_length' ≤ 80) → (76 ≤ Int32.toInt m_top' ∧ Int32.toInt m_top' ≤ 76) → (0 ≤ Int32.toInt m_at' ∧ Int32.toInt m_at' ≤ 80) → (-1 ≤ Int32.toInt m_wrong' ∧ Int32.toInt m_wrong' ≤ 80) → (0 ≤ Int32.toInt m_newFruitMany' ∧ Int32.toInt m_newFruitMany' ≤ 16) → (0 ≤ Int32.toInt m_newStandingMany' ∧ Int32.toInt m_newStandingMany' ≤ 8) → (0 ≤ Int32.toInt m_undoMany' ∧ Int32.toInt m_undoMany' ≤ 12) → (∀ k : Nat, k = 17 → -1 ≤ Int32.toInt (m_now' k) ∧ Int32.toInt (m_now' k) ≤ SB) → (∀ k : Nat, k = 19 → 0 ≤ Int32.toInt (m_now' k) ∧ Int32.toInt (m_now' k) ≤ 9) → (∀ k : Nat, 0 ≤ Int32.toInt (m_x' k) ∧ Int32.toInt (m_x' k) ≤ 99) → (∀ k : Nat, 0 ≤ Int32.toInt (m_height' k) ∧ Int32.toInt (m_height' k) ≤ 99) → (∀ k : Nat, 0 ≤ Int32.toInt (m_worth' k) ∧ Int32.toInt (m_worth' k) ≤ 9) → (∀ k : Nat, 0 ≤ Int32.toInt (m_ripe' k) ∧ Int32.toInt (m_ripe' k) ≤ 9) → (∀ k : Nat, 0 ≤ Int32.toInt (m_foot' k) ∧ Int32.toInt (m_foot' k) ≤ 99) → (∀ k : Nat, 0 ≤ Int32.toInt (m_fork' k) ∧ Int32.toInt (m_fork' k) ≤ 99) → (∀ k : Nat, k % 4 = 0 → 0 ≤ Int32.toInt (m_newFruits' k) ∧ Int32.toInt (m_newFruits' k) ≤ 99) → (∀ k : Nat, k % 4 = 1 → 0 ≤ Int32.toInt (m_newFruits' k) ∧ Int32.toInt (m_newFruits' k) ≤ 99) → (∀ k : Nat, k % 4 = 2 → 0 ≤ Int32.toInt (m_newFruits' k) ∧ Int32.toInt (m_newFruits' k) ≤ 9) → (∀ k : Nat, k % 4 = 3 → 0 ≤ Int32.toInt (m_newFruits' k) ∧ Int32.toInt (m_newFruits' k) ≤ 9) → (∀ k : Nat, 0 ≤ Int32.toInt (m_newFruits' k) ∧ Int32.toInt (m_newFruits' k) ≤ 99) → (∀ k : Nat, 0 ≤ Int32.toInt (m_newStandings' k) ∧ Int32.toInt (m_newStandings' k) ≤ 99) → (Int32.toInt zR ≤ Int32.toInt m_standings') → post r m_fruits' m_standings' m_typed' m_thrown' m_read' m_length' m_top' m_at' m_wrong' m_newFruitMany' m_newStandingMany' m_undoMany' m_came' m_now' m_x' m_height' m_worth' m_ripe' m_foot' m_fork' m_newFruits' m_newStandings') (hKn : ∀ (x2 : Int32) (bW : Int32) (aG : Int32) (jG : Int32) (dG : Int32) (jY : Nat) (m_length : Int32) (qG : Int32) (uW : Int32) (eY : Int32) (aJ : Int32) (aB : Int32) (bT : Int32) (pW : Int32) (rD : Nat → Int32) (m_x : Nat → Int32) (jA : Nat → Int32) (pY : Nat → Int32) (rW : Nat → Int32) (oY : Nat → Int32) (pR : Nat → Int32) (qL : Nat → Int32) (pL : Nat → Int32), (0 ≤ Int32.toInt x2 ∧ Int32.toInt x2 ≤ 8) → (0 ≤ Int32.toInt bW ∧ Int32.toInt bW ≤ 16) → (0 ≤ Int32.toInt aG ∧ Int32.toInt aG ≤ 8) → (0 ≤ Int32.toInt jG ∧ Int32.toInt jG ≤ 0) → (0 ≤ Int32.toInt dG ∧ Int32.toInt dG ≤ 0) → (jY = 1) → (1 ≤ Int32.toInt m_length ∧ Int32.toInt m_length ≤ 80) → (76 ≤ Int32.toInt qG ∧ Int32.toInt qG ≤ 76) → (0 ≤ Int32.toInt uW ∧ Int32.toInt uW ≤ 80) → (-1 ≤ Int32.toInt eY ∧ Int32.toInt eY ≤ -1) → (0 ≤ Int32.toInt aJ ∧ Int32.toInt aJ ≤ 16) → (0 ≤ Int32.toInt aB ∧ Int32.toInt aB ≤ 8) → (0 ≤ Int32.toInt bT ∧ Int32.toInt bT ≤ 12) → (∀ k : Nat, k = 17 → -1 ≤ Int32.toInt (rD k) ∧ Int32.toInt (rD k) ≤ SB) → (∀ k : Nat, k = 19 → 0 ≤ Int32.toInt (rD k) ∧ Int32.toInt (rD k) ≤ 9) → (∀ k : Nat, 0 ≤ Int32.toInt (m_x k) ∧ Int32.toInt (m_x k) ≤ 99) → (∀ k : Nat, 0 ≤ Int32.toInt (jA k) ∧ Int32.toInt (jA k) ≤ 99) → (∀ k : Nat, 0 ≤ Int32.toInt (pY k) ∧ Int32.toInt (pY k) ≤ 9) → (∀ k : Nat, 0 ≤ Int32.toInt (rW k) ∧ Int32.toInt (rW k) ≤ 9) → (∀ k : Nat, 0 ≤ Int32.toInt (oY k) ∧ Int32.toInt (oY k) ≤ 99) → (∀ k : Nat, 0 ≤ Int32.toInt (pR k) ∧ Int32.toInt (pR k) ≤ 99) → (∀ k : Nat, k % 4 = 0 → 0 ≤ Int32.toInt (qL k) ∧ Int32.toInt (qL k) ≤ 99) → (∀ k : Nat, k % 4 = 1 → 0 ≤ Int32.toInt (qL k) ∧ Int32.toInt (qL k) ≤ 99) → (∀ k : Nat, k % 4 = 2 → 0 ≤ Int32.toInt (qL k) ∧ Int32.toInt (qL k) ≤ 9) → (∀ k : Nat, k % 4 = 3 → 0 ≤ Int32.toInt (qL k) ∧ Int32.toInt (qL k) ≤ 9) → (∀ k : Nat, 0 ≤ Int32.toInt (qL k) ∧ Int32.toInt (qL k) ≤ 99) → (∀ k : Nat, 0 ≤ Int32.toInt (pL k) ∧ Int32.toInt (pL k) ≤ 99) → (Int32.toInt aG + Int32.toInt aB - Int32.toInt x2 ≤ 8) → (Int32.toInt zR ≤ Int32.toInt aG) → (8 - Int32.toInt x2 < n215) → next x2 bW aG jG dG jY m_length qG uW eY aJ aB bT pW rD m_x jA pY rW oY pR qL pL) (x2 bW aG jG dG : Int32) (jY : Nat) (m_length qG uW eY aJ aB bT pW : Int32) (rD m_x jA pY rW oY pR qL pL : Nat → Int32) (h_x2 : 0 ≤ Int32.toInt x2 ∧ Int32.toInt x2 ≤ 8) (h_m_fruits : 0 ≤ Int32.toInt bW ∧ Int32.toInt bW ≤ 16) (h_m_standings : 0 ≤ Int32.toInt aG ∧ Int32.toInt aG ≤ 8) (h_m_typed : 0 ≤ Int32.toInt jG ∧ Int32.toInt jG ≤ 0) (h_m_thrown : 0 ≤ Int32.toInt dG ∧ Int32.toInt dG ≤ 0) (h_m_read : jY = 1) (h_m_length : 1 ≤ Int32.toInt m_length ∧ Int32.toInt m_length ≤ 80) (h_m_top : 76 ≤ Int32.toInt qG ∧ Int32.toInt qG ≤ 76) (h_m_at : 0 ≤ Int32.toInt uW ∧ Int32.toInt uW ≤ 80) (h_m_wrong : -1 ≤ Int32.toInt eY ∧ Int32.toInt eY ≤ -1) (h_m_newFruitMany : 0 ≤ Int32.toInt aJ ∧ Int32.toInt aJ ≤ 16) (h_m_newStandingMany : 0 ≤ Int32.toInt aB ∧ Int32.toInt aB ≤ 8) (h_m_undoMany : 0 ≤ Int32.toInt bT ∧ Int32.toInt bT ≤ 12) (e0_m_now : ∀ k : Nat, k = 17 → -1 ≤ Int32.toInt (rD k) ∧ Int32.toInt (rD k) ≤ SB) (e1_m_now : ∀ k : Nat, k = 19 → 0 ≤ Int32.toInt (rD k) ∧ Int32.toInt (rD k) ≤ 9) (h_m_x : ∀ k : Nat, 0 ≤ Int32.toInt (m_x k) ∧ Int32.toInt (m_x k) ≤ 99) (h_m_height : ∀ k : Nat, 0 ≤ Int32.toInt (jA k) ∧ Int32.toInt (jA k) ≤ 99) (h_m_worth : ∀ k : Nat, 0 ≤ Int32.toInt (pY k) ∧ Int32.toInt (pY k) ≤ 9) (h_m_ripe : ∀ k : Nat, 0 ≤ Int32.toInt (rW k) ∧ Int32.toInt (rW k) ≤ 9) (h_m_foot : ∀ k : Nat, 0 ≤ Int32.toInt (oY k) ∧ Int32.toInt (oY k) ≤ 99) (h_m_fork : ∀ k : Nat, 0 ≤ Int32.toInt (pR k) ∧ Int32.toInt (pR k) ≤ 99) (e0_m_newFruits : ∀ k : Nat, k % 4 = 0 → 0 ≤ Int32.toInt (qL k) ∧ Int32.toInt (qL k) ≤ 99) (e1_m_newFruits : ∀ k : Nat, k % 4 = 1 → 0 ≤ Int32.toInt (qL k) ∧ Int32.toInt (qL k) ≤ 99) (e2_m_newFruits : ∀ k : Nat, k % 4 = 2 → 0 ≤ Int32.toInt (qL k) ∧ Int32.toInt (qL k) ≤ 9) (e3_m_newFruits : ∀ k : Nat, k % 4 = 3 → 0 ≤ Int32.toInt (qL k) ∧ Int32.toInt (qL k) ≤ 9) (h_m_newFruits : ∀ k : Nat, 0 ≤ Int32.toInt (qL k) ∧ Int32.toInt (qL k) ≤ 99) (h_m_newStandings : ∀ k : Nat, 0 ≤ Int32.toInt (pL k) ∧ Int32.toInt (pL k) ≤ 99) (hx0 : Int32.toInt aG + Int32.toInt aB - Int32.toInt x2 ≤ 8) (hx1 : Int32.toInt zR ≤ Int32.toInt aG) (hn215 : 8 - Int32.toInt x2 ≤ n215) : ws_X10_orchard_215 post next rG rQ x2 bW aG jG dG jY m_length qG uW eY aJ aB bT pW rD m_x jA pY rW oY pR qL pL := by
  have l0 := li_0
  have l1 := li_1
  have l2 := li_2
  refine And.intro (fun c1 => ?_) (fun c1 => ?_)
  · skip
    have c1 := (fa_le _ _).mp c1
    intro v2 ev2
    have hv2 := congrArg Int32.toInt ev2
    have f4 : Int32.toInt (aJ + aB) = Int32.toInt aJ + Int32.toInt aB := ta_add _ _ (by omega)
    exact hpost _ _ _ _ _ _ _ _ _ _ _ _ _ _ _ _ _ _ _ _ _ _ _ (by omega) h_m_fruits h_m_standings h_m_typed h_m_thrown h_m_read (by omega) h_m_top h_m_at (by omega) h_m_newFruitMany h_m_newStandingMany (by omega) e0_m_now e1_m_now h_m_x h_m_height h_m_worth h_m_ripe h_m_foot h_m_fork e0_m_newFruits e1_m_newFruits e2_m_newFruits e3_m_newFruits h_m_newFruits h_m_newStandings (by omega)
  · skip
    have c1 := mt (fa_le _ _).mpr c1
    intro v5 ev5
    have f6 : Int32.toInt (2 * x2) = Int32.toInt x2 * 2 := ta_cmul _ _ (by decide) (by omega)
    rw [← ev5] at f6
    refine And.intro (t_in (by omega)) ?_
    intro v7 ev7
    have f8 := h_m_newStandings v5.toNatClampNeg
    have hv7 := congrArg Int32.toInt ev7
    refine And.intro (t_in (by omega)) ?_
    have a9 : ∀ k : Nat, 0 ≤ Int32.toInt ((upd oY aG.toNatClampNeg v7) k) ∧ Int32.toInt ((upd oY aG.toNatClampNeg v7) k) ≤ 99 := t_upd (fun k => by have q9 := h_m_foot k; omega) (by omega)
    intro v10 ev10
    have hv10 := congrArg Int32.toInt (ev10.trans ev5.symm)
    intro v11 ev11
    have f12 : Int32.toInt (v10 + 1) = Int32.toInt v10 + Int32.toInt (1 : Int32) := ta_add _ _ (by omega)
    rw [← ev11] at f12
    refine And.intro (t_in (by omega)) ?_
    intro v13 ev13
    have f14 := h_m_newStandings v11.toNatClampNeg
    have hv13 := congrArg Int32.toInt ev13
    refine And.intro (t_in (by omega)) ?_
    have a15 : ∀ k : Nat, 0 ≤ Int32.toInt ((upd pR aG.toNatClampNeg v13) k) ∧ Int32.toInt ((upd pR aG.toNatClampNeg v13) k) ≤ 99 := t_upd (fun k => by have q9 := h_m_fork k; omega) (by omega)
    intro v16 ev16
    have f17 : Int32.toInt (aG + 1) = Int32.toInt aG + Int32.toInt (1 : Int32) := ta_add _ _ (by omega)
    rw [← ev16] at f17
    intro v18 ev18
    have f19 : Int32.toInt (x2 + 1) = Int32.toInt x2 + Int32.toInt (1 : Int32) := ta_add _ _ (by omega)
    rw [← ev18] at f19
    have f20 := tp_r pW
    exact hKn v18 bW v16 jG dG jY m_length qG uW eY aJ aB bT pW rD m_x jA pY rW (upd oY aG.toNatClampNeg v7) (upd pR aG.toNatClampNeg v13) qL pL (by omega) h_m_fruits (by omega) h_m_typed h_m_thrown h_m_read h_m_length h_m_top h_m_at h_m_wrong h_m_newFruitMany h_m_newStandingMany h_m_undoMany e0_m_now e1_m_now h_m_x h_m_height h_m_worth h_m_ripe (fun k => by have q9 := a9 k; omega) (fun k => by have q9 := a15 k; omega) e0_m_newFruits e1_m_newFruits e2_m_newFruits e3_m_newFruits h_m_newFruits h_m_newStandings (by omega) (by omega) (by omega)
set_option maxHeartbeats 8000000 in
set_option maxRecDepth 200000 in
theorem tb_X10_orchard_215 {post : Int32 → Int32 → Int32 → Int32 → Int32 → Nat → Int32 → Int32 → Int32 → Int32 → Int32 → Int32 → Int32 → Int32 → (Nat → Int32) → (Nat → Int32) → (Nat → Int32) → (Nat → Int32) → (Nat → Int32) → (Nat → Int32) → (Nat → Int32) → (Nat → Int32) → (Nat → Int32) → Prop} {SB : Int} {zR : Int32} (rG rQ : Nat → Int32) (h_m_text : ∀ k : Nat, -128 ≤ Int32.toInt (rG k) ∧ Int32.toInt (rG k) ≤ 127) (h_m_rule : ∀ k : Nat, -128 ≤ Int32.toInt (rQ k) ∧ Int32.toInt (rQ k) ≤ 127) (hc0 : -1 ≤ SB ∧ SB ≤ 7) (hpost : ∀ (r : Int32) (m_fruits' : Int32) (m_standings' : Int32) (m_typed' : Int32) (m_thrown' : Int32) (m_read' : Nat) (m_length' : Int32) (m_top' : Int32) (m_at' : Int32) (m_wrong' : Int32) (m_newFruitMany' : Int32) (m_newStandingMany' : Int32) (m_undoMany' : Int32) (m_came' : Int32) (m_now' : Nat → Int32) (m_x' : Nat → Int32) (m_height' : Nat → Int32) (m_worth' : Nat → Int32) (m_ripe' : Nat → Int32) (m_foot' : Nat → Int32) (m_fork' : Nat → Int32) (m_newFruits' : Nat → Int32) (m_newStandings' : Nat → Int32), (-100 ≤ Int32.toInt r ∧ Int32.toInt r ≤ 24) → (0 ≤ Int32.toInt m_fruits' ∧ Int32.toInt m_fruits' ≤ 16) → (0 ≤ Int32.toInt m_standings' ∧ Int32.toInt m_standings' ≤ 8) → (0 ≤ Int32.toInt m_typed' ∧ Int32.toInt m_typed' ≤ 0) → (0 ≤ Int32.toInt m_thrown' ∧ Int32.toInt m_thrown' ≤ 0) → (m_read' = 1) → (0 ≤ Int32.toInt m_length' ∧ Int32.toInt m_length' ≤ 80) → (76 ≤ Int32.toInt m_top' ∧ Int32.toInt m_top' ≤ 76) → (0 ≤ Int32.toInt m_at' ∧ Int32.toInt m_at' ≤ 80) → (-1 ≤ Int32.toInt m_wrong' ∧ Int32.toInt m_wrong' ≤ 80) → (0 ≤ Int32.toInt m_newFruitMany' ∧ Int32.toInt m_newFruitMany' ≤ 16) → (0 ≤ Int32.toInt m_newStandingMany' ∧ Int32.toInt m_newStandingMany' ≤ 8) → (0 ≤ Int32.toInt m_undoMany' ∧ Int32.toInt m_undoMany' ≤ 12) → (∀ k : Nat, k = 17 → -1 ≤ Int32.toInt (m_now' k) ∧ Int32.toInt (m_now' k) ≤ SB) → (∀ k : Nat, k = 19 → 0 ≤ Int32.toInt (m_now' k) ∧ Int32.toInt (m_now' k) ≤ 9) → (∀ k : Nat, 0 ≤ Int32.toInt (m_x' k) ∧ Int32.toInt (m_x' k) ≤ 99) → (∀ k : Nat, 0 ≤ Int32.toInt (m_height' k) ∧ Int32.toInt (m_height' k) ≤ 99) → (∀ k : Nat, 0 ≤ Int32.toInt (m_worth' k) ∧ Int32.toInt (m_worth' k) ≤ 9) → (∀ k : Nat, 0 ≤ Int32.toInt (m_ripe' k) ∧ Int32.toInt (m_ripe' k) ≤ 9) → (∀ k : Nat, 0 ≤ Int32.toInt (m_foot' k) ∧ Int32.toInt (m_foot' k) ≤ 99) → (∀ k : Nat, 0 ≤ Int32.toInt (m_fork' k) ∧ Int32.toInt (m_fork' k) ≤ 99) → (∀ k : Nat, k % 4 = 0 → 0 ≤ Int32.toInt (m_newFruits' k) ∧ Int32.toInt (m_newFruits' k) ≤ 99) → (∀ k : Nat, k % 4 = 1 → 0 ≤ Int32.toInt (m_newFruits' k) ∧ Int32.toInt (m_newFruits' k) ≤ 99) → (∀ k : Nat, k % 4 = 2 → 0 ≤ Int32.toInt (m_newFruits' k) ∧ Int32.toInt (m_newFruits' k) ≤ 9) → (∀ k : Nat, k % 4 = 3 → 0 ≤ Int32.toInt (m_newFruits' k) ∧ Int32.toInt (m_newFruits' k) ≤ 9) → (∀ k : Nat, 0 ≤ Int32.toInt (m_newFruits' k) ∧ Int32.toInt (m_newFruits' k) ≤ 99) → (∀ k : Nat, 0 ≤ Int32.toInt (m_newStandings' k) ∧ Int32.toInt (m_newStandings' k) ≤ 99) → (Int32.toInt zR ≤ Int32.toInt m_standings') → post r m_fruits' m_standings' m_typed' m_thrown' m_read' m_length' m_top' m_at' m_wrong' m_newFruitMany' m_newStandingMany' m_undoMany' m_came' m_now' m_x' m_height' m_worth' m_ripe' m_foot' m_fork' m_newFruits' m_newStandings') : ∀ (n : Nat) (x2 bW aG jG dG : Int32) (jY : Nat) (m_length qG uW eY aJ aB bT pW : Int32) (rD m_x jA pY rW oY pR qL pL : Nat → Int32), (0 ≤ Int32.toInt x2 ∧ Int32.toInt x2 ≤ 8) → (0 ≤ Int32.toInt bW ∧ Int32.toInt bW ≤ 16) → (0 ≤ Int32.toInt aG ∧ Int32.toInt aG ≤ 8) → (0 ≤ Int32.toInt jG ∧ Int32.toInt jG ≤ 0) → (0 ≤ Int32.toInt dG ∧ Int32.toInt dG ≤ 0) → (jY = 1) → (1 ≤ Int32.toInt m_length ∧ Int32.toInt m_length ≤ 80) → (76 ≤ Int32.toInt qG ∧ Int32.toInt qG ≤ 76) → (0 ≤ Int32.toInt uW ∧ Int32.toInt uW ≤ 80) → (-1 ≤ Int32.toInt eY ∧ Int32.toInt eY ≤ -1) → (0 ≤ Int32.toInt aJ ∧ Int32.toInt aJ ≤ 16) → (0 ≤ Int32.toInt aB ∧ Int32.toInt aB ≤ 8) → (0 ≤ Int32.toInt bT ∧ Int32.toInt bT ≤ 12) → (∀ k : Nat, k = 17 → -1 ≤ Int32.toInt (rD k) ∧ Int32.toInt (rD k) ≤ SB) → (∀ k : Nat, k = 19 → 0 ≤ Int32.toInt (rD k) ∧ Int32.toInt (rD k) ≤ 9) → (∀ k : Nat, 0 ≤ Int32.toInt (m_x k) ∧ Int32.toInt (m_x k) ≤ 99) → (∀ k : Nat, 0 ≤ Int32.toInt (jA k) ∧ Int32.toInt (jA k) ≤ 99) → (∀ k : Nat, 0 ≤ Int32.toInt (pY k) ∧ Int32.toInt (pY k) ≤ 9) → (∀ k : Nat, 0 ≤ Int32.toInt (rW k) ∧ Int32.toInt (rW k) ≤ 9) → (∀ k : Nat, 0 ≤ Int32.toInt (oY k) ∧ Int32.toInt (oY k) ≤ 99) → (∀ k : Nat, 0 ≤ Int32.toInt (pR k) ∧ Int32.toInt (pR k) ≤ 99) → (∀ k : Nat, k % 4 = 0 → 0 ≤ Int32.toInt (qL k) ∧ Int32.toInt (qL k) ≤ 99) → (∀ k : Nat, k % 4 = 1 → 0 ≤ Int32.toInt (qL k) ∧ Int32.toInt (qL k) ≤ 99) → (∀ k : Nat, k % 4 = 2 → 0 ≤ Int32.toInt (qL k) ∧ Int32.toInt (qL k) ≤ 9) → (∀ k : Nat, k % 4 = 3 → 0 ≤ Int32.toInt (qL k) ∧ Int32.toInt (qL k) ≤ 9) → (∀ k : Nat, 0 ≤ Int32.toInt (qL k) ∧ Int32.toInt (qL k) ≤ 99) → (∀ k : Nat, 0 ≤ Int32.toInt (pL k) ∧ Int32.toInt (pL k) ≤ 99) → (Int32.toInt aG + Int32.toInt aB - Int32.toInt x2 ≤ 8) → (Int32.toInt zR ≤ Int32.toInt aG) → (8 - Int32.toInt x2 < (n : Int)) → wb_X10_orchard_215 post rG rQ n x2 bW aG jG dG jY m_length qG uW eY aJ aB bT pW rD m_x jA pY rW oY pR qL pL := by
  intro n
  induction n with
  | zero =>
    intro x2 bW aG jG dG jY m_length qG uW eY aJ aB bT pW rD m_x jA pY rW oY pR qL pL h_x2 h_m_fruits h_m_standings h_m_typed h_m_thrown h_m_read h_m_length h_m_top h_m_at h_m_wrong h_m_newFruitMany h_m_newStandingMany h_m_undoMany e0_m_now e1_m_now h_m_x h_m_height h_m_worth h_m_ripe h_m_foot h_m_fork e0_m_newFruits e1_m_newFruits e2_m_newFruits e3_m_newFruits h_m_newFruits h_m_newStandings hx0 hx1 hm
    exfalso; omega
  | succ n ih =>
    intro x2 bW aG jG dG jY m_length qG uW eY aJ aB bT pW rD m_x jA pY rW oY pR qL pL h_x2 h_m_fruits h_m_standings h_m_typed h_m_thrown h_m_read h_m_length h_m_top h_m_at h_m_wrong h_m_newFruitMany h_m_newStandingMany h_m_undoMany e0_m_now e1_m_now h_m_x h_m_height h_m_worth h_m_ripe h_m_foot h_m_fork e0_m_newFruits e1_m_newFruits e2_m_newFruits e3_m_newFruits h_m_newFruits h_m_newStandings hx0 hx1 hm
    exact ts_X10_orchard_215 rG rQ h_m_text h_m_rule hc0 hpost ih x2 bW aG jG dG jY m_length qG uW eY aJ aB bT pW rD m_x jA pY rW oY pR qL pL h_x2 h_m_fruits h_m_standings h_m_typed h_m_thrown h_m_read h_m_length h_m_top h_m_at h_m_wrong h_m_newFruitMany h_m_newStandingMany h_m_undoMany e0_m_now e1_m_now h_m_x h_m_height h_m_worth h_m_ripe h_m_foot h_m_fork e0_m_newFruits e1_m_newFruits e2_m_newFruits e3_m_newFruits h_m_newFruits h_m_newStandings hx0 hx1 (by omega)
set_option maxHeartbeats 8000000 in
set_option maxRecDepth 200000 in
theorem ts_X10_orchard_105 {post : Int32 → Int32 → Int32 → Int32 → Int32 → Nat → Int32 → Int32 → Int32 → Int32 → Int32 → Int32 → Int32 → Int32 → (Nat → Int32) → (Nat → Int32) → (Nat → Int32) → (Nat → Int32) → (Nat → Int32) → (Nat → Int32) → (Nat → Int32) → (Nat → Int32) → (Nat → Int32) → Prop} {SB : Int} {zR : Int32} {next : Int32 → Int32 → Int32 → Int32 → Int32 → Nat → Int32 → Int32 → Int32 → Int32 → Int32 → Int32 → Int32 → Int32 → (Nat → Int32) → (Nat → Int32) → (Nat → Int32) → (Nat → Int32) → (Nat → Int32) → (Nat → Int32) → (Nat → Int32) → (Nat → Int32) → (Nat → Int32) → Prop} {n105 : Int} (rG rQ : Nat → Int32) (h_m_text : ∀ k : Nat, -128 ≤ Int32.toInt (rG k) ∧ Int32.toInt (rG k) ≤ 127) (h_m_rule : ∀ k : Nat, -128 ≤ Int32.toInt (rQ k) ∧ Int32.toInt (rQ k) ≤ 127) (hc0 : -1 ≤ SB ∧ SB ≤ 7) (hpost : ∀ (r : Int32) (m_fruits' : Int32) (m_standings' : Int32) (m_typed' : Int32) (m_thrown' : Int32) (m_read' : Nat) (m_length' : Int32) (m_top' : Int32) (m_at' : Int32) (m_wrong' : Int32) (m_newFruitMany' : Int32) (m_newStandingMany' : Int32) (m_undoMany' : Int32) (m_came' : Int32) (m_now' : Nat → Int32) (m_x' : Nat → Int32) (m_height' : Nat → Int32) (m_worth' : Nat → Int32) (m_ripe' : Nat → Int32) (m_foot' : Nat → Int32) (m_fork' : Nat → Int32) (m_newFruits' : Nat → Int32) (m_newStandings' : Nat → Int32), (-100 ≤ Int32.toInt r ∧ Int32.toInt r ≤ 24) → (0 ≤ Int32.toInt m_fruits' ∧ Int32.toInt m_fruits' ≤ 16) → (0 ≤ Int32.toInt m_standings' ∧ Int32.toInt m_standings' ≤ 8) → (0 ≤ Int32.toInt m_typed' ∧ Int32.toInt m_typed' ≤ 0) → (0 ≤ Int32.toInt m_thrown' ∧ Int32.toInt m_thrown' ≤ 0) → (m_read' = 1) → (0 ≤ Int32.toInt m_length' ∧ Int32.toInt m_length' ≤ 80) → (76 ≤ Int32.toInt m_top' ∧ Int32.toInt m_top' ≤ 76) → (0 ≤ Int32.toInt m_at' ∧ Int32.toInt m_at' ≤ 80) → (-1 ≤ Int32.toInt m_wrong' ∧ Int32.toInt m_wrong' ≤ 80) → (0 ≤ Int32.toInt m_newFruitMany' ∧ Int32.toInt m_newFruitMany' ≤ 16) → (0 ≤ Int32.toInt m_newStandingMany' ∧ Int32.toInt m_newStandingMany' ≤ 8) → (0 ≤ Int32.toInt m_undoMany' ∧ Int32.toInt m_undoMany' ≤ 12) → (∀ k : Nat, k = 17 → -1 ≤ Int32.toInt (m_now' k) ∧ Int32.toInt (m_now' k) ≤ SB) → (∀ k : Nat, k = 19 → 0 ≤ Int32.toInt (m_now' k) ∧ Int32.toInt (m_now' k) ≤ 9) → (∀ k : Nat, 0 ≤ Int32.toInt (m_x' k) ∧ Int32.toInt (m_x' k) ≤ 99) → (∀ k : Nat, 0 ≤ Int32.toInt (m_height' k) ∧ Int32.toInt (m_height' k) ≤ 99) → (∀ k : Nat, 0 ≤ Int32.toInt (m_worth' k) ∧ Int32.toInt (m_worth' k) ≤ 9) → (∀ k : Nat, 0 ≤ Int32.toInt (m_ripe' k) ∧ Int32.toInt (m_ripe' k) ≤ 9) → (∀ k : Nat, 0 ≤ Int32.toInt (m_foot' k) ∧ Int32.toInt (m_foot' k) ≤ 99) → (∀ k : Nat, 0 ≤ Int32.toInt (m_fork' k) ∧ Int32.toInt (m_fork' k) ≤ 99) → (∀ k : Nat, k % 4 = 0 → 0 ≤ Int32.toInt (m_newFruits' k) ∧ Int32.toInt (m_newFruits' k) ≤ 99) → (∀ k : Nat, k % 4 = 1 → 0 ≤ Int32.toInt (m_newFruits' k) ∧ Int32.toInt (m_newFruits' k) ≤ 99) → (∀ k : Nat, k % 4 = 2 → 0 ≤ Int32.toInt (m_newFruits' k) ∧ Int32.toInt (m_newFruits' k) ≤ 9) → (∀ k : Nat, k % 4 = 3 → 0 ≤ Int32.toInt (m_newFruits' k) ∧ Int32.toInt (m_newFruits' k) ≤ 9) → (∀ k : Nat, 0 ≤ Int32.toInt (m_newFruits' k) ∧ Int32.toInt (m_newFruits' k) ≤ 99) → (∀ k : Nat, 0 ≤ Int32.toInt (m_newStandings' k) ∧ Int32.toInt (m_newStandings' k) ≤ 99) → (Int32.toInt zR ≤ Int32.toInt m_standings') → post r m_fruits' m_standings' m_typed' m_thrown' m_read' m_length' m_top' m_at' m_wrong' m_newFruitMany' m_newStandingMany' m_undoMany' m_came' m_now' m_x' m_height' m_worth' m_ripe' m_foot' m_fork' m_newFruits' m_newStandings') (hKn : ∀ (x2 : Int32) (bW : Int32) (aG : Int32) (jG : Int32) (dG : Int32) (jY : Nat) (m_length : Int32) (qG : Int32) (uW : Int32) (eY : Int32) (aJ : Int32) (aB : Int32) (bT : Int32) (pW : Int32) (rD : Nat → Int32) (m_x : Nat → Int32) (jA : Nat → Int32) (pY : Nat → Int32) (rW : Nat → Int32) (oY : Nat → Int32) (pR : Nat → Int32) (qL : Nat → Int32) (pL : Nat → Int32), (0 ≤ Int32.toInt x2 ∧ Int32.toInt x2 ≤ 16) → (0 ≤ Int32.toInt bW ∧ Int32.toInt bW ≤ 16) → (0 ≤ Int32.toInt aG ∧ Int32.toInt aG ≤ 8) → (0 ≤ Int32.toInt jG ∧ Int32.toInt jG ≤ 0) → (0 ≤ Int32.toInt dG ∧ Int32.toInt dG ≤ 0) → (jY = 1) → (1 ≤ Int32.toInt m_length ∧ Int32.toInt m_length ≤ 80) → (76 ≤ Int32.toInt qG ∧ Int32.toInt qG ≤ 76) → (0 ≤ Int32.toInt uW ∧ Int32.toInt uW ≤ 80) → (-1 ≤ Int32.toInt eY ∧ Int32.toInt eY ≤ -1) → (0 ≤ Int32.toInt aJ ∧ Int32.toInt aJ ≤ 16) → (0 ≤ Int32.toInt aB ∧ Int32.toInt aB ≤ 8) → (0 ≤ Int32.toInt bT ∧ Int32.toInt bT ≤ 12) → (∀ k : Nat, k = 17 → -1 ≤ Int32.toInt (rD k) ∧ Int32.toInt (rD k) ≤ SB) → (∀ k : Nat, k = 19 → 0 ≤ Int32.toInt (rD k) ∧ Int32.toInt (rD k) ≤ 9) → (∀ k : Nat, 0 ≤ Int32.toInt (m_x k) ∧ Int32.toInt (m_x k) ≤ 99) → (∀ k : Nat, 0 ≤ Int32.toInt (jA k) ∧ Int32.toInt (jA k) ≤ 99) → (∀ k : Nat, 0 ≤ Int32.toInt (pY k) ∧ Int32.toInt (pY k) ≤ 9) → (∀ k : Nat, 0 ≤ Int32.toInt (rW k) ∧ Int32.toInt (rW k) ≤ 9) → (∀ k : Nat, 0 ≤ Int32.toInt (oY k) ∧ Int32.toInt (oY k) ≤ 99) → (∀ k : Nat, 0 ≤ Int32.toInt (pR k) ∧ Int32.toInt (pR k) ≤ 99) → (∀ k : Nat, k % 4 = 0 → 0 ≤ Int32.toInt (qL k) ∧ Int32.toInt (qL k) ≤ 99) → (∀ k : Nat, k % 4 = 1 → 0 ≤ Int32.toInt (qL k) ∧ Int32.toInt (qL k) ≤ 99) → (∀ k : Nat, k % 4 = 2 → 0 ≤ Int32.toInt (qL k) ∧ Int32.toInt (qL k) ≤ 9) → (∀ k : Nat, k % 4 = 3 → 0 ≤ Int32.toInt (qL k) ∧ Int32.toInt (qL k) ≤ 9) → (∀ k : Nat, 0 ≤ Int32.toInt (qL k) ∧ Int32.toInt (qL k) ≤ 99) → (∀ k : Nat, 0 ≤ Int32.toInt (pL k) ∧ Int32.toInt (pL k) ≤ 99) → (Int32.toInt bW + Int32.toInt aJ - Int32.toInt x2 ≤ 16) → (Int32.toInt aG + Int32.toInt aB ≤ 8) → (Int32.toInt zR ≤ Int32.toInt aG) → (16 - Int32.toInt x2 < n105) → next x2 bW aG jG dG jY m_length qG uW eY aJ aB bT pW rD m_x jA pY rW oY pR qL pL) (x2 bW aG jG dG : Int32) (jY : Nat) (m_length qG uW eY aJ aB bT pW : Int32) (rD m_x jA pY rW oY pR qL pL : Nat → Int32) (h_x2 : 0 ≤ Int32.toInt x2 ∧ Int32.toInt x2 ≤ 16) (h_m_fruits : 0 ≤ Int32.toInt bW ∧ Int32.toInt bW ≤ 16) (h_m_standings : 0 ≤ Int32.toInt aG ∧ Int32.toInt aG ≤ 8) (h_m_typed : 0 ≤ Int32.toInt jG ∧ Int32.toInt jG ≤ 0) (h_m_thrown : 0 ≤ Int32.toInt dG ∧ Int32.toInt dG ≤ 0) (h_m_read : jY = 1) (h_m_length : 1 ≤ Int32.toInt m_length ∧ Int32.toInt m_length ≤ 80) (h_m_top : 76 ≤ Int32.toInt qG ∧ Int32.toInt qG ≤ 76) (h_m_at : 0 ≤ Int32.toInt uW ∧ Int32.toInt uW ≤ 80) (h_m_wrong : -1 ≤ Int32.toInt eY ∧ Int32.toInt eY ≤ -1) (h_m_newFruitMany : 0 ≤ Int32.toInt aJ ∧ Int32.toInt aJ ≤ 16) (h_m_newStandingMany : 0 ≤ Int32.toInt aB ∧ Int32.toInt aB ≤ 8) (h_m_undoMany : 0 ≤ Int32.toInt bT ∧ Int32.toInt bT ≤ 12) (e0_m_now : ∀ k : Nat, k = 17 → -1 ≤ Int32.toInt (rD k) ∧ Int32.toInt (rD k) ≤ SB) (e1_m_now : ∀ k : Nat, k = 19 → 0 ≤ Int32.toInt (rD k) ∧ Int32.toInt (rD k) ≤ 9) (h_m_x : ∀ k : Nat, 0 ≤ Int32.toInt (m_x k) ∧ Int32.toInt (m_x k) ≤ 99) (h_m_height : ∀ k : Nat, 0 ≤ Int32.toInt (jA k) ∧ Int32.toInt (jA k) ≤ 99) (h_m_worth : ∀ k : Nat, 0 ≤ Int32.toInt (pY k) ∧ Int32.toInt (pY k) ≤ 9) (h_m_ripe : ∀ k : Nat, 0 ≤ Int32.toInt (rW k) ∧ Int32.toInt (rW k) ≤ 9) (h_m_foot : ∀ k : Nat, 0 ≤ Int32.toInt (oY k) ∧ Int32.toInt (oY k) ≤ 99) (h_m_fork : ∀ k : Nat, 0 ≤ Int32.toInt (pR k) ∧ Int32.toInt (pR k) ≤ 99) (e0_m_newFruits : ∀ k : Nat, k % 4 = 0 → 0 ≤ Int32.toInt (qL k) ∧ Int32.toInt (qL k) ≤ 99) (e1_m_newFruits : ∀ k : Nat, k % 4 = 1 → 0 ≤ Int32.toInt (qL k) ∧ Int32.toInt (qL k) ≤ 99) (e2_m_newFruits : ∀ k : Nat, k % 4 = 2 → 0 ≤ Int32.toInt (qL k) ∧ Int32.toInt (qL k) ≤ 9) (e3_m_newFruits : ∀ k : Nat, k % 4 = 3 → 0 ≤ Int32.toInt (qL k) ∧ Int32.toInt (qL k) ≤ 9) (h_m_newFruits : ∀ k : Nat, 0 ≤ Int32.toInt (qL k) ∧ Int32.toInt (qL k) ≤ 99) (h_m_newStandings : ∀ k : Nat, 0 ≤ Int32.toInt (pL k) ∧ Int32.toInt (pL k) ≤ 99) (hx0 : Int32.toInt bW + Int32.toInt aJ - Int32.toInt x2 ≤ 16) (hx1 : Int32.toInt aG + Int32.toInt aB ≤ 8) (hx2 : Int32.toInt zR ≤ Int32.toInt aG) (hn105 : 16 - Int32.toInt x2 ≤ n105) : ws_X10_orchard_105 post next rG rQ x2 bW aG jG dG jY m_length qG uW eY aJ aB bT pW rD m_x jA pY rW oY pR qL pL := by
  have l0 := li_0
  have l1 := li_1
  have l2 := li_2
  have l3 := li_3
  have l4 := li_4
  refine And.intro (fun c21 => ?_) (fun c21 => ?_)
  · skip
    have c21 := (fa_le _ _).mp c21
    have f22 := tp_r pW
    exact ⟨10, tb_X10_orchard_215 rG rQ h_m_text h_m_rule hc0 hpost _ 0 bW aG jG dG jY m_length qG uW eY aJ aB bT pW rD m_x jA pY rW oY pR qL pL (by omega) h_m_fruits h_m_standings h_m_typed h_m_thrown h_m_read h_m_length h_m_top h_m_at h_m_wrong h_m_newFruitMany h_m_newStandingMany h_m_undoMany e0_m_now e1_m_now h_m_x h_m_height h_m_worth h_m_ripe h_m_foot h_m_fork e0_m_newFruits e1_m_newFruits e2_m_newFruits e3_m_newFruits h_m_newFruits h_m_newStandings (by omega) hx2 (by omega)⟩
  · skip
    have c21 := mt (fa_le _ _).mpr c21
    intro v23 ev23
    have f24 : Int32.toInt (4 * x2) = Int32.toInt x2 * 4 := ta_cmul _ _ (by decide) (by omega)
    rw [← ev23] at f24
    refine And.intro (t_in (by omega)) ?_
    have q25 := e0_m_newFruits v23.toNatClampNeg (by have e9 : v23.toNatClampNeg = (Int32.toInt v23).toNat := rfl; omega)
    intro v26 ev26
    have hv26 := congrArg Int32.toInt ev26
    refine And.intro (t_in (by omega)) ?_
    have a28 : ∀ k : Nat, 0 ≤ Int32.toInt ((upd m_x bW.toNatClampNeg v26) k) ∧ Int32.toInt ((upd m_x bW.toNatClampNeg v26) k) ≤ 99 := t_upd (fun k => by have q9 := h_m_x k; omega) (by omega)
    intro v29 ev29
    have hv29 := congrArg Int32.toInt (ev29.trans ev23.symm)
    intro v30 ev30
    have f31 : Int32.toInt (v29 + 1) = Int32.toInt v29 + Int32.toInt (1 : Int32) := ta_add _ _ (by omega)
    rw [← ev30] at f31
    refine And.intro (t_in (by omega)) ?_
    have q32 := e1_m_newFruits v30.toNatClampNeg (by have e9 : v30.toNatClampNeg = (Int32.toInt v30).toNat := rfl; omega)
    intro v33 ev33
    have hv33 := congrArg Int32.toInt ev33
    refine And.intro (t_in (by omega)) ?_
    have a35 : ∀ k : Nat, 0 ≤ Int32.toInt ((upd jA bW.toNatClampNeg v33) k) ∧ Int32.toInt ((upd jA bW.toNatClampNeg v33) k) ≤ 99 := t_upd (fun k => by have q9 := h_m_height k; omega) (by omega)
    intro v36 ev36
    have hv36 := congrArg Int32.toInt (ev36.trans ev23.symm)
    intro v37 ev37
    have f38 : Int32.toInt (v36 + 2) = Int32.toInt v36 + Int32.toInt (2 : Int32) := ta_add _ _ (by omega)
    rw [← ev37] at f38
    refine And.intro (t_in (by omega)) ?_
    have q39 := e2_m_newFruits v37.toNatClampNeg (by have e9 : v37.toNatClampNeg = (Int32.toInt v37).toNat := rfl; omega)
    intro v40 ev40
    have hv40 := congrArg Int32.toInt ev40
    refine And.intro (t_in (by omega)) ?_
    have a42 : ∀ k : Nat, 0 ≤ Int32.toInt ((upd pY bW.toNatClampNeg v40) k) ∧ Int32.toInt ((upd pY bW.toNatClampNeg v40) k) ≤ 9 := t_upd (fun k => by have q9 := h_m_worth k; omega) (by omega)
    intro v43 ev43
    have hv43 := congrArg Int32.toInt (ev43.trans ev23.symm)
    intro v44 ev44
    have f45 : Int32.toInt (v43 + 3) = Int32.toInt v43 + Int32.toInt (3 : Int32) := ta_add _ _ (by omega)
    rw [← ev44] at f45
    refine And.intro (t_in (by omega)) ?_
    have q46 := e3_m_newFruits v44.toNatClampNeg (by have e9 : v44.toNatClampNeg = (Int32.toInt v44).toNat := rfl; omega)
    intro v47 ev47
    have hv47 := congrArg Int32.toInt ev47
    refine And.intro (t_in (by omega)) ?_
    have a49 : ∀ k : Nat, 0 ≤ Int32.toInt ((upd rW bW.toNatClampNeg v47) k) ∧ Int32.toInt ((upd rW bW.toNatClampNeg v47) k) ≤ 9 := t_upd (fun k => by have q9 := h_m_ripe k; omega) (by omega)
    refine And.intro (t_in (by omega)) ?_
    have e50 : ∀ k : Nat, k = 17 → -1 ≤ Int32.toInt ((upd rD bW.toNatClampNeg 0) k) ∧ Int32.toInt ((upd rD bW.toNatClampNeg 0) k) ≤ SB := t_updc (C := fun k => k = 17) e0_m_now (fun hk => by have e9 : bW.toNatClampNeg = (Int32.toInt bW).toNat := rfl; have hk : bW.toNatClampNeg = 17 := hk; omega)
    have e51 : ∀ k : Nat, k = 19 → 0 ≤ Int32.toInt ((upd rD bW.toNatClampNeg 0) k) ∧ Int32.toInt ((upd rD bW.toNatClampNeg 0) k) ≤ 9 := t_updc (C := fun k => k = 19) e1_m_now (fun hk => by have e9 : bW.toNatClampNeg = (Int32.toInt bW).toNat := rfl; have hk : bW.toNatClampNeg = 19 := hk; omega)
    intro v52 ev52
    have f53 : Int32.toInt (bW + 1) = Int32.toInt bW + Int32.toInt (1 : Int32) := ta_add _ _ (by omega)
    rw [← ev52] at f53
    intro v54 ev54
    have f55 : Int32.toInt (x2 + 1) = Int32.toInt x2 + Int32.toInt (1 : Int32) := ta_add _ _ (by omega)
    rw [← ev54] at f55
    have f56 := tp_r pW
    exact hKn v54 v52 aG jG dG jY m_length qG uW eY aJ aB bT pW (upd rD bW.toNatClampNeg 0) (upd m_x bW.toNatClampNeg v26) (upd jA bW.toNatClampNeg v33) (upd pY bW.toNatClampNeg v40) (upd rW bW.toNatClampNeg v47) oY pR qL pL (by omega) (by omega) h_m_standings h_m_typed h_m_thrown h_m_read h_m_length h_m_top h_m_at h_m_wrong h_m_newFruitMany h_m_newStandingMany h_m_undoMany e50 e51 (fun k => by have q9 := a28 k; omega) (fun k => by have q9 := a35 k; omega) (fun k => by have q9 := a42 k; omega) (fun k => by have q9 := a49 k; omega) h_m_foot h_m_fork e0_m_newFruits e1_m_newFruits e2_m_newFruits e3_m_newFruits h_m_newFruits h_m_newStandings (by omega) hx1 hx2 (by omega)
set_option maxHeartbeats 8000000 in
set_option maxRecDepth 200000 in
theorem tb_X10_orchard_105 {post : Int32 → Int32 → Int32 → Int32 → Int32 → Nat → Int32 → Int32 → Int32 → Int32 → Int32 → Int32 → Int32 → Int32 → (Nat → Int32) → (Nat → Int32) → (Nat → Int32) → (Nat → Int32) → (Nat → Int32) → (Nat → Int32) → (Nat → Int32) → (Nat → Int32) → (Nat → Int32) → Prop} {SB : Int} {zR : Int32} (rG rQ : Nat → Int32) (h_m_text : ∀ k : Nat, -128 ≤ Int32.toInt (rG k) ∧ Int32.toInt (rG k) ≤ 127) (h_m_rule : ∀ k : Nat, -128 ≤ Int32.toInt (rQ k) ∧ Int32.toInt (rQ k) ≤ 127) (hc0 : -1 ≤ SB ∧ SB ≤ 7) (hpost : ∀ (r : Int32) (m_fruits' : Int32) (m_standings' : Int32) (m_typed' : Int32) (m_thrown' : Int32) (m_read' : Nat) (m_length' : Int32) (m_top' : Int32) (m_at' : Int32) (m_wrong' : Int32) (m_newFruitMany' : Int32) (m_newStandingMany' : Int32) (m_undoMany' : Int32) (m_came' : Int32) (m_now' : Nat → Int32) (m_x' : Nat → Int32) (m_height' : Nat → Int32) (m_worth' : Nat → Int32) (m_ripe' : Nat → Int32) (m_foot' : Nat → Int32) (m_fork' : Nat → Int32) (m_newFruits' : Nat → Int32) (m_newStandings' : Nat → Int32), (-100 ≤ Int32.toInt r ∧ Int32.toInt r ≤ 24) → (0 ≤ Int32.toInt m_fruits' ∧ Int32.toInt m_fruits' ≤ 16) → (0 ≤ Int32.toInt m_standings' ∧ Int32.toInt m_standings' ≤ 8) → (0 ≤ Int32.toInt m_typed' ∧ Int32.toInt m_typed' ≤ 0) → (0 ≤ Int32.toInt m_thrown' ∧ Int32.toInt m_thrown' ≤ 0) → (m_read' = 1) → (0 ≤ Int32.toInt m_length' ∧ Int32.toInt m_length' ≤ 80) → (76 ≤ Int32.toInt m_top' ∧ Int32.toInt m_top' ≤ 76) → (0 ≤ Int32.toInt m_at' ∧ Int32.toInt m_at' ≤ 80) → (-1 ≤ Int32.toInt m_wrong' ∧ Int32.toInt m_wrong' ≤ 80) → (0 ≤ Int32.toInt m_newFruitMany' ∧ Int32.toInt m_newFruitMany' ≤ 16) → (0 ≤ Int32.toInt m_newStandingMany' ∧ Int32.toInt m_newStandingMany' ≤ 8) → (0 ≤ Int32.toInt m_undoMany' ∧ Int32.toInt m_undoMany' ≤ 12) → (∀ k : Nat, k = 17 → -1 ≤ Int32.toInt (m_now' k) ∧ Int32.toInt (m_now' k) ≤ SB) → (∀ k : Nat, k = 19 → 0 ≤ Int32.toInt (m_now' k) ∧ Int32.toInt (m_now' k) ≤ 9) → (∀ k : Nat, 0 ≤ Int32.toInt (m_x' k) ∧ Int32.toInt (m_x' k) ≤ 99) → (∀ k : Nat, 0 ≤ Int32.toInt (m_height' k) ∧ Int32.toInt (m_height' k) ≤ 99) → (∀ k : Nat, 0 ≤ Int32.toInt (m_worth' k) ∧ Int32.toInt (m_worth' k) ≤ 9) → (∀ k : Nat, 0 ≤ Int32.toInt (m_ripe' k) ∧ Int32.toInt (m_ripe' k) ≤ 9) → (∀ k : Nat, 0 ≤ Int32.toInt (m_foot' k) ∧ Int32.toInt (m_foot' k) ≤ 99) → (∀ k : Nat, 0 ≤ Int32.toInt (m_fork' k) ∧ Int32.toInt (m_fork' k) ≤ 99) → (∀ k : Nat, k % 4 = 0 → 0 ≤ Int32.toInt (m_newFruits' k) ∧ Int32.toInt (m_newFruits' k) ≤ 99) → (∀ k : Nat, k % 4 = 1 → 0 ≤ Int32.toInt (m_newFruits' k) ∧ Int32.toInt (m_newFruits' k) ≤ 99) → (∀ k : Nat, k % 4 = 2 → 0 ≤ Int32.toInt (m_newFruits' k) ∧ Int32.toInt (m_newFruits' k) ≤ 9) → (∀ k : Nat, k % 4 = 3 → 0 ≤ Int32.toInt (m_newFruits' k) ∧ Int32.toInt (m_newFruits' k) ≤ 9) → (∀ k : Nat, 0 ≤ Int32.toInt (m_newFruits' k) ∧ Int32.toInt (m_newFruits' k) ≤ 99) → (∀ k : Nat, 0 ≤ Int32.toInt (m_newStandings' k) ∧ Int32.toInt (m_newStandings' k) ≤ 99) → (Int32.toInt zR ≤ Int32.toInt m_standings') → post r m_fruits' m_standings' m_typed' m_thrown' m_read' m_length' m_top' m_at' m_wrong' m_newFruitMany' m_newStandingMany' m_undoMany' m_came' m_now' m_x' m_height' m_worth' m_ripe' m_foot' m_fork' m_newFruits' m_newStandings') : ∀ (n : Nat) (x2 bW aG jG dG : Int32) (jY : Nat) (m_length qG uW eY aJ aB bT pW : Int32) (rD m_x jA pY rW oY pR qL pL : Nat → Int32), (0 ≤ Int32.toInt x2 ∧ Int32.toInt x2 ≤ 16) → (0 ≤ Int32.toInt bW ∧ Int32.toInt bW ≤ 16) → (0 ≤ Int32.toInt aG ∧ Int32.toInt aG ≤ 8) → (0 ≤ Int32.toInt jG ∧ Int32.toInt jG ≤ 0) → (0 ≤ Int32.toInt dG ∧ Int32.toInt dG ≤ 0) → (jY = 1) → (1 ≤ Int32.toInt m_length ∧ Int32.toInt m_length ≤ 80) → (76 ≤ Int32.toInt qG ∧ Int32.toInt qG ≤ 76) → (0 ≤ Int32.toInt uW ∧ Int32.toInt uW ≤ 80) → (-1 ≤ Int32.toInt eY ∧ Int32.toInt eY ≤ -1) → (0 ≤ Int32.toInt aJ ∧ Int32.toInt aJ ≤ 16) → (0 ≤ Int32.toInt aB ∧ Int32.toInt aB ≤ 8) → (0 ≤ Int32.toInt bT ∧ Int32.toInt bT ≤ 12) → (∀ k : Nat, k = 17 → -1 ≤ Int32.toInt (rD k) ∧ Int32.toInt (rD k) ≤ SB) → (∀ k : Nat, k = 19 → 0 ≤ Int32.toInt (rD k) ∧ Int32.toInt (rD k) ≤ 9) → (∀ k : Nat, 0 ≤ Int32.toInt (m_x k) ∧ Int32.toInt (m_x k) ≤ 99) → (∀ k : Nat, 0 ≤ Int32.toInt (jA k) ∧ Int32.toInt (jA k) ≤ 99) → (∀ k : Nat, 0 ≤ Int32.toInt (pY k) ∧ Int32.toInt (pY k) ≤ 9) → (∀ k : Nat, 0 ≤ Int32.toInt (rW k) ∧ Int32.toInt (rW k) ≤ 9) → (∀ k : Nat, 0 ≤ Int32.toInt (oY k) ∧ Int32.toInt (oY k) ≤ 99) → (∀ k : Nat, 0 ≤ Int32.toInt (pR k) ∧ Int32.toInt (pR k) ≤ 99) → (∀ k : Nat, k % 4 = 0 → 0 ≤ Int32.toInt (qL k) ∧ Int32.toInt (qL k) ≤ 99) → (∀ k : Nat, k % 4 = 1 → 0 ≤ Int32.toInt (qL k) ∧ Int32.toInt (qL k) ≤ 99) → (∀ k : Nat, k % 4 = 2 → 0 ≤ Int32.toInt (qL k) ∧ Int32.toInt (qL k) ≤ 9) → (∀ k : Nat, k % 4 = 3 → 0 ≤ Int32.toInt (qL k) ∧ Int32.toInt (qL k) ≤ 9) → (∀ k : Nat, 0 ≤ Int32.toInt (qL k) ∧ Int32.toInt (qL k) ≤ 99) → (∀ k : Nat, 0 ≤ Int32.toInt (pL k) ∧ Int32.toInt (pL k) ≤ 99) → (Int32.toInt bW + Int32.toInt aJ - Int32.toInt x2 ≤ 16) → (Int32.toInt aG + Int32.toInt aB ≤ 8) → (Int32.toInt zR ≤ Int32.toInt aG) → (16 - Int32.toInt x2 < (n : Int)) → wb_X10_orchard_105 post rG rQ n x2 bW aG jG dG jY m_length qG uW eY aJ aB bT pW rD m_x jA pY rW oY pR qL pL := by
  intro n
  induction n with
  | zero =>
    intro x2 bW aG jG dG jY m_length qG uW eY aJ aB bT pW rD m_x jA pY rW oY pR qL pL h_x2 h_m_fruits h_m_standings h_m_typed h_m_thrown h_m_read h_m_length h_m_top h_m_at h_m_wrong h_m_newFruitMany h_m_newStandingMany h_m_undoMany e0_m_now e1_m_now h_m_x h_m_height h_m_worth h_m_ripe h_m_foot h_m_fork e0_m_newFruits e1_m_newFruits e2_m_newFruits e3_m_newFruits h_m_newFruits h_m_newStandings hx0 hx1 hx2 hm
    exfalso; omega
  | succ n ih =>
    intro x2 bW aG jG dG jY m_length qG uW eY aJ aB bT pW rD m_x jA pY rW oY pR qL pL h_x2 h_m_fruits h_m_standings h_m_typed h_m_thrown h_m_read h_m_length h_m_top h_m_at h_m_wrong h_m_newFruitMany h_m_newStandingMany h_m_undoMany e0_m_now e1_m_now h_m_x h_m_height h_m_worth h_m_ripe h_m_foot h_m_fork e0_m_newFruits e1_m_newFruits e2_m_newFruits e3_m_newFruits h_m_newFruits h_m_newStandings hx0 hx1 hx2 hm
    exact ts_X10_orchard_105 rG rQ h_m_text h_m_rule hc0 hpost ih x2 bW aG jG dG jY m_length qG uW eY aJ aB bT pW rD m_x jA pY rW oY pR qL pL h_x2 h_m_fruits h_m_standings h_m_typed h_m_thrown h_m_read h_m_length h_m_top h_m_at h_m_wrong h_m_newFruitMany h_m_newStandingMany h_m_undoMany e0_m_now e1_m_now h_m_x h_m_height h_m_worth h_m_ripe h_m_foot h_m_fork e0_m_newFruits e1_m_newFruits e2_m_newFruits e3_m_newFruits h_m_newFruits h_m_newStandings hx0 hx1 hx2 (by omega)
set_option maxHeartbeats 8000000 in
set_option maxRecDepth 200000 in
theorem ts_X10_orchard_89 {post : Int32 → Int32 → Int32 → Int32 → Int32 → Nat → Int32 → Int32 → Int32 → Int32 → Int32 → Int32 → Int32 → Int32 → (Nat → Int32) → (Nat → Int32) → (Nat → Int32) → (Nat → Int32) → (Nat → Int32) → (Nat → Int32) → (Nat → Int32) → (Nat → Int32) → (Nat → Int32) → Prop} {SB : Int} {zR : Int32} (rG rQ : Nat → Int32) (h_m_text : ∀ k : Nat, -128 ≤ Int32.toInt (rG k) ∧ Int32.toInt (rG k) ≤ 127) (h_m_rule : ∀ k : Nat, -128 ≤ Int32.toInt (rQ k) ∧ Int32.toInt (rQ k) ≤ 127) (hc0 : -1 ≤ SB ∧ SB ≤ 7) (hpost : ∀ (r : Int32) (m_fruits' : Int32) (m_standings' : Int32) (m_typed' : Int32) (m_thrown' : Int32) (m_read' : Nat) (m_length' : Int32) (m_top' : Int32) (m_at' : Int32) (m_wrong' : Int32) (m_newFruitMany' : Int32) (m_newStandingMany' : Int32) (m_undoMany' : Int32) (m_came' : Int32) (m_now' : Nat → Int32) (m_x' : Nat → Int32) (m_height' : Nat → Int32) (m_worth' : Nat → Int32) (m_ripe' : Nat → Int32) (m_foot' : Nat → Int32) (m_fork' : Nat → Int32) (m_newFruits' : Nat → Int32) (m_newStandings' : Nat → Int32), (-100 ≤ Int32.toInt r ∧ Int32.toInt r ≤ 24) → (0 ≤ Int32.toInt m_fruits' ∧ Int32.toInt m_fruits' ≤ 16) → (0 ≤ Int32.toInt m_standings' ∧ Int32.toInt m_standings' ≤ 8) → (0 ≤ Int32.toInt m_typed' ∧ Int32.toInt m_typed' ≤ 0) → (0 ≤ Int32.toInt m_thrown' ∧ Int32.toInt m_thrown' ≤ 0) → (m_read' = 1) → (0 ≤ Int32.toInt m_length' ∧ Int32.toInt m_length' ≤ 80) → (76 ≤ Int32.toInt m_top' ∧ Int32.toInt m_top' ≤ 76) → (0 ≤ Int32.toInt m_at' ∧ Int32.toInt m_at' ≤ 80) → (-1 ≤ Int32.toInt m_wrong' ∧ Int32.toInt m_wrong' ≤ 80) → (0 ≤ Int32.toInt m_newFruitMany' ∧ Int32.toInt m_newFruitMany' ≤ 16) → (0 ≤ Int32.toInt m_newStandingMany' ∧ Int32.toInt m_newStandingMany' ≤ 8) → (0 ≤ Int32.toInt m_undoMany' ∧ Int32.toInt m_undoMany' ≤ 12) → (∀ k : Nat, k = 17 → -1 ≤ Int32.toInt (m_now' k) ∧ Int32.toInt (m_now' k) ≤ SB) → (∀ k : Nat, k = 19 → 0 ≤ Int32.toInt (m_now' k) ∧ Int32.toInt (m_now' k) ≤ 9) → (∀ k : Nat, 0 ≤ Int32.toInt (m_x' k) ∧ Int32.toInt (m_x' k) ≤ 99) → (∀ k : Nat, 0 ≤ Int32.toInt (m_height' k) ∧ Int32.toInt (m_height' k) ≤ 99) → (∀ k : Nat, 0 ≤ Int32.toInt (m_worth' k) ∧ Int32.toInt (m_worth' k) ≤ 9) → (∀ k : Nat, 0 ≤ Int32.toInt (m_ripe' k) ∧ Int32.toInt (m_ripe' k) ≤ 9) → (∀ k : Nat, 0 ≤ Int32.toInt (m_foot' k) ∧ Int32.toInt (m_foot' k) ≤ 99) → (∀ k : Nat, 0 ≤ Int32.toInt (m_fork' k) ∧ Int32.toInt (m_fork' k) ≤ 99) → (∀ k : Nat, k % 4 = 0 → 0 ≤ Int32.toInt (m_newFruits' k) ∧ Int32.toInt (m_newFruits' k) ≤ 99) → (∀ k : Nat, k % 4 = 1 → 0 ≤ Int32.toInt (m_newFruits' k) ∧ Int32.toInt (m_newFruits' k) ≤ 99) → (∀ k : Nat, k % 4 = 2 → 0 ≤ Int32.toInt (m_newFruits' k) ∧ Int32.toInt (m_newFruits' k) ≤ 9) → (∀ k : Nat, k % 4 = 3 → 0 ≤ Int32.toInt (m_newFruits' k) ∧ Int32.toInt (m_newFruits' k) ≤ 9) → (∀ k : Nat, 0 ≤ Int32.toInt (m_newFruits' k) ∧ Int32.toInt (m_newFruits' k) ≤ 99) → (∀ k : Nat, 0 ≤ Int32.toInt (m_newStandings' k) ∧ Int32.toInt (m_newStandings' k) ≤ 99) → (Int32.toInt zR ≤ Int32.toInt m_standings') → post r m_fruits' m_standings' m_typed' m_thrown' m_read' m_length' m_top' m_at' m_wrong' m_newFruitMany' m_newStandingMany' m_undoMany' m_came' m_now' m_x' m_height' m_worth' m_ripe' m_foot' m_fork' m_newFruits' m_newStandings') (bW aG jG dG : Int32) (jY : Nat) (m_length qG uW eY aJ aB bT pW : Int32) (rD m_x jA pY rW oY pR qL pL : Nat → Int32) (h_m_fruits : 0 ≤ Int32.toInt bW ∧ Int32.toInt bW ≤ 16) (h_m_standings : 0 ≤ Int32.toInt aG ∧ Int32.toInt aG ≤ 8) (h_m_typed : 0 ≤ Int32.toInt jG ∧ Int32.toInt jG ≤ 0) (h_m_thrown : 0 ≤ Int32.toInt dG ∧ Int32.toInt dG ≤ 0) (h_m_read : jY = 1) (h_m_length : 1 ≤ Int32.toInt m_length ∧ Int32.toInt m_length ≤ 80) (h_m_top : 76 ≤ Int32.toInt qG ∧ Int32.toInt qG ≤ 76) (h_m_at : 0 ≤ Int32.toInt uW ∧ Int32.toInt uW ≤ 80) (h_m_wrong : -1 ≤ Int32.toInt eY ∧ Int32.toInt eY ≤ 80) (h_m_newFruitMany : 0 ≤ Int32.toInt aJ ∧ Int32.toInt aJ ≤ 16) (h_m_newStandingMany : 0 ≤ Int32.toInt aB ∧ Int32.toInt aB ≤ 8) (h_m_undoMany : 0 ≤ Int32.toInt bT ∧ Int32.toInt bT ≤ 12) (e0_m_now : ∀ k : Nat, k = 17 → -1 ≤ Int32.toInt (rD k) ∧ Int32.toInt (rD k) ≤ SB) (e1_m_now : ∀ k : Nat, k = 19 → 0 ≤ Int32.toInt (rD k) ∧ Int32.toInt (rD k) ≤ 9) (h_m_x : ∀ k : Nat, 0 ≤ Int32.toInt (m_x k) ∧ Int32.toInt (m_x k) ≤ 99) (h_m_height : ∀ k : Nat, 0 ≤ Int32.toInt (jA k) ∧ Int32.toInt (jA k) ≤ 99) (h_m_worth : ∀ k : Nat, 0 ≤ Int32.toInt (pY k) ∧ Int32.toInt (pY k) ≤ 9) (h_m_ripe : ∀ k : Nat, 0 ≤ Int32.toInt (rW k) ∧ Int32.toInt (rW k) ≤ 9) (h_m_foot : ∀ k : Nat, 0 ≤ Int32.toInt (oY k) ∧ Int32.toInt (oY k) ≤ 99) (h_m_fork : ∀ k : Nat, 0 ≤ Int32.toInt (pR k) ∧ Int32.toInt (pR k) ≤ 99) (e0_m_newFruits : ∀ k : Nat, k % 4 = 0 → 0 ≤ Int32.toInt (qL k) ∧ Int32.toInt (qL k) ≤ 99) (e1_m_newFruits : ∀ k : Nat, k % 4 = 1 → 0 ≤ Int32.toInt (qL k) ∧ Int32.toInt (qL k) ≤ 99) (e2_m_newFruits : ∀ k : Nat, k % 4 = 2 → 0 ≤ Int32.toInt (qL k) ∧ Int32.toInt (qL k) ≤ 9) (e3_m_newFruits : ∀ k : Nat, k % 4 = 3 → 0 ≤ Int32.toInt (qL k) ∧ Int32.toInt (qL k) ≤ 9) (h_m_newFruits : ∀ k : Nat, 0 ≤ Int32.toInt (qL k) ∧ Int32.toInt (qL k) ≤ 99) (h_m_newStandings : ∀ k : Nat, 0 ≤ Int32.toInt (pL k) ∧ Int32.toInt (pL k) ≤ 99) (hx0 : Int32.toInt bW + Int32.toInt aJ ≤ 16) (hx1 : Int32.toInt aG + Int32.toInt aB ≤ 8) (hx2 : Int32.toInt zR ≤ Int32.toInt aG) : ws_X10_orchard_89 post rG rQ bW aG jG dG jY m_length qG uW eY aJ aB bT pW rD m_x jA pY rW oY pR qL pL := by
  have l0 := li_m1
  have l1 := li_0
  refine And.intro (fun c57 => ?_) (fun c57 => ?_)
  · skip
    have c57 := mt (fa_eq _ _).mpr c57
    refine And.intro (fun h9 => absurd h9 (by decide)) (fun _ => ?_)
    have f58 : Int32.toInt ((-1) - eY) = Int32.toInt ((-1) : Int32) - Int32.toInt eY := ta_sub _ _ (by omega)
    obtain ⟨w59, ew59⟩ : ∃ w9 : Int32, w9 = (-1) - eY := ⟨_, rfl⟩
    rw [← ew59] at f58
    have key9 := hpost w59 bW aG jG dG jY m_length qG uW eY aJ aB bT pW rD m_x jA pY rW oY pR qL pL (by omega) h_m_fruits h_m_standings h_m_typed h_m_thrown h_m_read (by omega) h_m_top h_m_at h_m_wrong h_m_newFruitMany h_m_newStandingMany h_m_undoMany e0_m_now e1_m_now h_m_x h_m_height h_m_worth h_m_ripe h_m_foot h_m_fork e0_m_newFruits e1_m_newFruits e2_m_newFruits e3_m_newFruits h_m_newFruits h_m_newStandings (by omega)
    subst ew59
    exact key9
  · skip
    have c57 := (fa_eq _ _).mp c57
    refine And.intro (fun _ => ?_) (fun h9 => absurd h9 (by decide))
    have f60 := tp_r pW
    exact ⟨18, tb_X10_orchard_105 rG rQ h_m_text h_m_rule hc0 hpost _ 0 bW aG jG dG jY m_length qG uW eY aJ aB bT pW rD m_x jA pY rW oY pR qL pL (by omega) h_m_fruits h_m_standings h_m_typed h_m_thrown h_m_read h_m_length h_m_top h_m_at (by omega) h_m_newFruitMany h_m_newStandingMany h_m_undoMany e0_m_now e1_m_now h_m_x h_m_height h_m_worth h_m_ripe h_m_foot h_m_fork e0_m_newFruits e1_m_newFruits e2_m_newFruits e3_m_newFruits h_m_newFruits h_m_newStandings (by omega) hx1 hx2 (by omega)⟩
set_option maxHeartbeats 8000000 in
set_option maxRecDepth 200000 in
theorem ts_X10_orchard_70 {post : Int32 → Int32 → Int32 → Int32 → Int32 → Nat → Int32 → Int32 → Int32 → Int32 → Int32 → Int32 → Int32 → Int32 → (Nat → Int32) → (Nat → Int32) → (Nat → Int32) → (Nat → Int32) → (Nat → Int32) → (Nat → Int32) → (Nat → Int32) → (Nat → Int32) → (Nat → Int32) → Prop} {SB : Int} {zR : Int32} (rG rQ : Nat → Int32) (h_m_text : ∀ k : Nat, -128 ≤ Int32.toInt (rG k) ∧ Int32.toInt (rG k) ≤ 127) (h_m_rule : ∀ k : Nat, -128 ≤ Int32.toInt (rQ k) ∧ Int32.toInt (rQ k) ≤ 127) (hc0 : -1 ≤ SB ∧ SB ≤ 7) (hpost : ∀ (r : Int32) (m_fruits' : Int32) (m_standings' : Int32) (m_typed' : Int32) (m_thrown' : Int32) (m_read' : Nat) (m_length' : Int32) (m_top' : Int32) (m_at' : Int32) (m_wrong' : Int32) (m_newFruitMany' : Int32) (m_newStandingMany' : Int32) (m_undoMany' : Int32) (m_came' : Int32) (m_now' : Nat → Int32) (m_x' : Nat → Int32) (m_height' : Nat → Int32) (m_worth' : Nat → Int32) (m_ripe' : Nat → Int32) (m_foot' : Nat → Int32) (m_fork' : Nat → Int32) (m_newFruits' : Nat → Int32) (m_newStandings' : Nat → Int32), (-100 ≤ Int32.toInt r ∧ Int32.toInt r ≤ 24) → (0 ≤ Int32.toInt m_fruits' ∧ Int32.toInt m_fruits' ≤ 16) → (0 ≤ Int32.toInt m_standings' ∧ Int32.toInt m_standings' ≤ 8) → (0 ≤ Int32.toInt m_typed' ∧ Int32.toInt m_typed' ≤ 0) → (0 ≤ Int32.toInt m_thrown' ∧ Int32.toInt m_thrown' ≤ 0) → (m_read' = 1) → (0 ≤ Int32.toInt m_length' ∧ Int32.toInt m_length' ≤ 80) → (76 ≤ Int32.toInt m_top' ∧ Int32.toInt m_top' ≤ 76) → (0 ≤ Int32.toInt m_at' ∧ Int32.toInt m_at' ≤ 80) → (-1 ≤ Int32.toInt m_wrong' ∧ Int32.toInt m_wrong' ≤ 80) → (0 ≤ Int32.toInt m_newFruitMany' ∧ Int32.toInt m_newFruitMany' ≤ 16) → (0 ≤ Int32.toInt m_newStandingMany' ∧ Int32.toInt m_newStandingMany' ≤ 8) → (0 ≤ Int32.toInt m_undoMany' ∧ Int32.toInt m_undoMany' ≤ 12) → (∀ k : Nat, k = 17 → -1 ≤ Int32.toInt (m_now' k) ∧ Int32.toInt (m_now' k) ≤ SB) → (∀ k : Nat, k = 19 → 0 ≤ Int32.toInt (m_now' k) ∧ Int32.toInt (m_now' k) ≤ 9) → (∀ k : Nat, 0 ≤ Int32.toInt (m_x' k) ∧ Int32.toInt (m_x' k) ≤ 99) → (∀ k : Nat, 0 ≤ Int32.toInt (m_height' k) ∧ Int32.toInt (m_height' k) ≤ 99) → (∀ k : Nat, 0 ≤ Int32.toInt (m_worth' k) ∧ Int32.toInt (m_worth' k) ≤ 9) → (∀ k : Nat, 0 ≤ Int32.toInt (m_ripe' k) ∧ Int32.toInt (m_ripe' k) ≤ 9) → (∀ k : Nat, 0 ≤ Int32.toInt (m_foot' k) ∧ Int32.toInt (m_foot' k) ≤ 99) → (∀ k : Nat, 0 ≤ Int32.toInt (m_fork' k) ∧ Int32.toInt (m_fork' k) ≤ 99) → (∀ k : Nat, k % 4 = 0 → 0 ≤ Int32.toInt (m_newFruits' k) ∧ Int32.toInt (m_newFruits' k) ≤ 99) → (∀ k : Nat, k % 4 = 1 → 0 ≤ Int32.toInt (m_newFruits' k) ∧ Int32.toInt (m_newFruits' k) ≤ 99) → (∀ k : Nat, k % 4 = 2 → 0 ≤ Int32.toInt (m_newFruits' k) ∧ Int32.toInt (m_newFruits' k) ≤ 9) → (∀ k : Nat, k % 4 = 3 → 0 ≤ Int32.toInt (m_newFruits' k) ∧ Int32.toInt (m_newFruits' k) ≤ 9) → (∀ k : Nat, 0 ≤ Int32.toInt (m_newFruits' k) ∧ Int32.toInt (m_newFruits' k) ≤ 99) → (∀ k : Nat, 0 ≤ Int32.toInt (m_newStandings' k) ∧ Int32.toInt (m_newStandings' k) ≤ 99) → (Int32.toInt zR ≤ Int32.toInt m_standings') → post r m_fruits' m_standings' m_typed' m_thrown' m_read' m_length' m_top' m_at' m_wrong' m_newFruitMany' m_newStandingMany' m_undoMany' m_came' m_now' m_x' m_height' m_worth' m_ripe' m_foot' m_fork' m_newFruits' m_newStandings') (bW aG jG dG : Int32) (jY : Nat) (m_length qG uW eY aJ aB bT pW : Int32) (rD m_x jA pY rW oY pR qL pL : Nat → Int32) (h_m_fruits : 0 ≤ Int32.toInt bW ∧ Int32.toInt bW ≤ 16) (h_m_standings : 0 ≤ Int32.toInt aG ∧ Int32.toInt aG ≤ 8) (h_m_typed : 0 ≤ Int32.toInt jG ∧ Int32.toInt jG ≤ 0) (h_m_thrown : 0 ≤ Int32.toInt dG ∧ Int32.toInt dG ≤ 0) (h_m_read : jY = 1) (h_m_length : 1 ≤ Int32.toInt m_length ∧ Int32.toInt m_length ≤ 80) (h_m_top : 76 ≤ Int32.toInt qG ∧ Int32.toInt qG ≤ 76) (h_m_at : 0 ≤ Int32.toInt uW ∧ Int32.toInt uW ≤ 80) (h_m_wrong : -1 ≤ Int32.toInt eY ∧ Int32.toInt eY ≤ 80) (h_m_newFruitMany : 0 ≤ Int32.toInt aJ ∧ Int32.toInt aJ ≤ 16) (h_m_newStandingMany : 0 ≤ Int32.toInt aB ∧ Int32.toInt aB ≤ 8) (h_m_undoMany : 0 ≤ Int32.toInt bT ∧ Int32.toInt bT ≤ 12) (e0_m_now : ∀ k : Nat, k = 17 → -1 ≤ Int32.toInt (rD k) ∧ Int32.toInt (rD k) ≤ SB) (e1_m_now : ∀ k : Nat, k = 19 → 0 ≤ Int32.toInt (rD k) ∧ Int32.toInt (rD k) ≤ 9) (h_m_x : ∀ k : Nat, 0 ≤ Int32.toInt (m_x k) ∧ Int32.toInt (m_x k) ≤ 99) (h_m_height : ∀ k : Nat, 0 ≤ Int32.toInt (jA k) ∧ Int32.toInt (jA k) ≤ 99) (h_m_worth : ∀ k : Nat, 0 ≤ Int32.toInt (pY k) ∧ Int32.toInt (pY k) ≤ 9) (h_m_ripe : ∀ k : Nat, 0 ≤ Int32.toInt (rW k) ∧ Int32.toInt (rW k) ≤ 9) (h_m_foot : ∀ k : Nat, 0 ≤ Int32.toInt (oY k) ∧ Int32.toInt (oY k) ≤ 99) (h_m_fork : ∀ k : Nat, 0 ≤ Int32.toInt (pR k) ∧ Int32.toInt (pR k) ≤ 99) (e0_m_newFruits : ∀ k : Nat, k % 4 = 0 → 0 ≤ Int32.toInt (qL k) ∧ Int32.toInt (qL k) ≤ 99) (e1_m_newFruits : ∀ k : Nat, k % 4 = 1 → 0 ≤ Int32.toInt (qL k) ∧ Int32.toInt (qL k) ≤ 99) (e2_m_newFruits : ∀ k : Nat, k % 4 = 2 → 0 ≤ Int32.toInt (qL k) ∧ Int32.toInt (qL k) ≤ 9) (e3_m_newFruits : ∀ k : Nat, k % 4 = 3 → 0 ≤ Int32.toInt (qL k) ∧ Int32.toInt (qL k) ≤ 9) (h_m_newFruits : ∀ k : Nat, 0 ≤ Int32.toInt (qL k) ∧ Int32.toInt (qL k) ≤ 99) (h_m_newStandings : ∀ k : Nat, 0 ≤ Int32.toInt (pL k) ∧ Int32.toInt (pL k) ≤ 99) (hx0 : Int32.toInt bW + Int32.toInt aJ ≤ 16) (hx1 : Int32.toInt aG + Int32.toInt aB ≤ 8) (hx2 : Int32.toInt zR ≤ Int32.toInt aG) : ws_X10_orchard_70 post rG rQ bW aG jG dG jY m_length qG uW eY aJ aB bT pW rD m_x jA pY rW oY pR qL pL := by
  have l0 := li_m1
  refine And.intro (fun c61 => ?_) (fun c61 => ?_)
  · skip
    have c61 := (fa_le _ _).mp c61
    have f62 := tp_r pW
    exact ts_X10_orchard_89 rG rQ h_m_text h_m_rule hc0 hpost bW aG jG dG jY m_length qG uW eY aJ aB bT pW rD m_x jA pY rW oY pR qL pL h_m_fruits h_m_standings h_m_typed h_m_thrown h_m_read h_m_length h_m_top h_m_at h_m_wrong h_m_newFruitMany h_m_newStandingMany h_m_undoMany e0_m_now e1_m_now h_m_x h_m_height h_m_worth h_m_ripe h_m_foot h_m_fork e0_m_newFruits e1_m_newFruits e2_m_newFruits e3_m_newFruits h_m_newFruits h_m_newStandings hx0 hx1 hx2
  · skip
    have c61 := mt (fa_le _ _).mpr c61
    refine And.intro (fun c63 => ?_) (fun c63 => ?_)
    · skip
      have c63 := mt (fa_eq _ _).mpr c63
      refine And.intro (fun _ => ?_) (fun h9 => absurd h9 (by decide))
      have f64 := tp_r pW
      exact ts_X10_orchard_89 rG rQ h_m_text h_m_rule hc0 hpost bW aG jG dG jY m_length qG uW eY aJ aB bT pW rD m_x jA pY rW oY pR qL pL h_m_fruits h_m_standings h_m_typed h_m_thrown h_m_read h_m_length h_m_top h_m_at h_m_wrong h_m_newFruitMany h_m_newStandingMany h_m_undoMany e0_m_now e1_m_now h_m_x h_m_height h_m_worth h_m_ripe h_m_foot h_m_fork e0_m_newFruits e1_m_newFruits e2_m_newFruits e3_m_newFruits h_m_newFruits h_m_newStandings hx0 hx1 hx2
    · skip
      have c63 := (fa_eq _ _).mp c63
      refine And.intro (fun h9 => absurd h9 (by decide)) (fun _ => ?_)
      have f65 := tp_r pW
      exact ts_X10_orchard_89 rG rQ h_m_text h_m_rule hc0 hpost bW aG jG dG jY m_length qG uW uW aJ aB bT pW rD m_x jA pY rW oY pR qL pL h_m_fruits h_m_standings h_m_typed h_m_thrown h_m_read h_m_length h_m_top h_m_at (by omega) h_m_newFruitMany h_m_newStandingMany h_m_undoMany e0_m_now e1_m_now h_m_x h_m_height h_m_worth h_m_ripe h_m_foot h_m_fork e0_m_newFruits e1_m_newFruits e2_m_newFruits e3_m_newFruits h_m_newFruits h_m_newStandings hx0 hx1 hx2
set_option maxHeartbeats 8000000 in
set_option maxRecDepth 200000 in
theorem ts_X10_orchard_45 {post : Int32 → Int32 → Int32 → Int32 → Int32 → Nat → Int32 → Int32 → Int32 → Int32 → Int32 → Int32 → Int32 → Int32 → (Nat → Int32) → (Nat → Int32) → (Nat → Int32) → (Nat → Int32) → (Nat → Int32) → (Nat → Int32) → (Nat → Int32) → (Nat → Int32) → (Nat → Int32) → Prop} {SB : Int} {zR : Int32} {next : Int32 → Int32 → Int32 → Int32 → Int32 → Nat → Int32 → Int32 → Int32 → Int32 → Int32 → Int32 → Int32 → Int32 → (Nat → Int32) → (Nat → Int32) → (Nat → Int32) → (Nat → Int32) → (Nat → Int32) → (Nat → Int32) → (Nat → Int32) → (Nat → Int32) → (Nat → Int32) → Prop} {n45 : Int} (rG rQ : Nat → Int32) (h_m_text : ∀ k : Nat, -128 ≤ Int32.toInt (rG k) ∧ Int32.toInt (rG k) ≤ 127) (h_m_rule : ∀ k : Nat, -128 ≤ Int32.toInt (rQ k) ∧ Int32.toInt (rQ k) ≤ 127) (hc0 : -1 ≤ SB ∧ SB ≤ 7) (hpost : ∀ (r : Int32) (m_fruits' : Int32) (m_standings' : Int32) (m_typed' : Int32) (m_thrown' : Int32) (m_read' : Nat) (m_length' : Int32) (m_top' : Int32) (m_at' : Int32) (m_wrong' : Int32) (m_newFruitMany' : Int32) (m_newStandingMany' : Int32) (m_undoMany' : Int32) (m_came' : Int32) (m_now' : Nat → Int32) (m_x' : Nat → Int32) (m_height' : Nat → Int32) (m_worth' : Nat → Int32) (m_ripe' : Nat → Int32) (m_foot' : Nat → Int32) (m_fork' : Nat → Int32) (m_newFruits' : Nat → Int32) (m_newStandings' : Nat → Int32), (-100 ≤ Int32.toInt r ∧ Int32.toInt r ≤ 24) → (0 ≤ Int32.toInt m_fruits' ∧ Int32.toInt m_fruits' ≤ 16) → (0 ≤ Int32.toInt m_standings' ∧ Int32.toInt m_standings' ≤ 8) → (0 ≤ Int32.toInt m_typed' ∧ Int32.toInt m_typed' ≤ 0) → (0 ≤ Int32.toInt m_thrown' ∧ Int32.toInt m_thrown' ≤ 0) → (m_read' = 1) → (0 ≤ Int32.toInt m_length' ∧ Int32.toInt m_length' ≤ 80) → (76 ≤ Int32.toInt m_top' ∧ Int32.toInt m_top' ≤ 76) → (0 ≤ Int32.toInt m_at' ∧ Int32.toInt m_at' ≤ 80) → (-1 ≤ Int32.toInt m_wrong' ∧ Int32.toInt m_wrong' ≤ 80) → (0 ≤ Int32.toInt m_newFruitMany' ∧ Int32.toInt m_newFruitMany' ≤ 16) → (0 ≤ Int32.toInt m_newStandingMany' ∧ Int32.toInt m_newStandingMany' ≤ 8) → (0 ≤ Int32.toInt m_undoMany' ∧ Int32.toInt m_undoMany' ≤ 12) → (∀ k : Nat, k = 17 → -1 ≤ Int32.toInt (m_now' k) ∧ Int32.toInt (m_now' k) ≤ SB) → (∀ k : Nat, k = 19 → 0 ≤ Int32.toInt (m_now' k) ∧ Int32.toInt (m_now' k) ≤ 9) → (∀ k : Nat, 0 ≤ Int32.toInt (m_x' k) ∧ Int32.toInt (m_x' k) ≤ 99) → (∀ k : Nat, 0 ≤ Int32.toInt (m_height' k) ∧ Int32.toInt (m_height' k) ≤ 99) → (∀ k : Nat, 0 ≤ Int32.toInt (m_worth' k) ∧ Int32.toInt (m_worth' k) ≤ 9) → (∀ k : Nat, 0 ≤ Int32.toInt (m_ripe' k) ∧ Int32.toInt (m_ripe' k) ≤ 9) → (∀ k : Nat, 0 ≤ Int32.toInt (m_foot' k) ∧ Int32.toInt (m_foot' k) ≤ 99) → (∀ k : Nat, 0 ≤ Int32.toInt (m_fork' k) ∧ Int32.toInt (m_fork' k) ≤ 99) → (∀ k : Nat, k % 4 = 0 → 0 ≤ Int32.toInt (m_newFruits' k) ∧ Int32.toInt (m_newFruits' k) ≤ 99) → (∀ k : Nat, k % 4 = 1 → 0 ≤ Int32.toInt (m_newFruits' k) ∧ Int32.toInt (m_newFruits' k) ≤ 99) → (∀ k : Nat, k % 4 = 2 → 0 ≤ Int32.toInt (m_newFruits' k) ∧ Int32.toInt (m_newFruits' k) ≤ 9) → (∀ k : Nat, k % 4 = 3 → 0 ≤ Int32.toInt (m_newFruits' k) ∧ Int32.toInt (m_newFruits' k) ≤ 9) → (∀ k : Nat, 0 ≤ Int32.toInt (m_newFruits' k) ∧ Int32.toInt (m_newFruits' k) ≤ 99) → (∀ k : Nat, 0 ≤ Int32.toInt (m_newStandings' k) ∧ Int32.toInt (m_newStandings' k) ≤ 99) → (Int32.toInt zR ≤ Int32.toInt m_standings') → post r m_fruits' m_standings' m_typed' m_thrown' m_read' m_length' m_top' m_at' m_wrong' m_newFruitMany' m_newStandingMany' m_undoMany' m_came' m_now' m_x' m_height' m_worth' m_ripe' m_foot' m_fork' m_newFruits' m_newStandings') (hKn : ∀ (x1 : Int32) (bW : Int32) (aG : Int32) (jG : Int32) (dG : Int32) (jY : Nat) (m_length : Int32) (qG : Int32) (uW : Int32) (eY : Int32) (aJ : Int32) (aB : Int32) (bT : Int32) (pW : Int32) (rD : Nat → Int32) (m_x : Nat → Int32) (jA : Nat → Int32) (pY : Nat → Int32) (rW : Nat → Int32) (oY : Nat → Int32) (pR : Nat → Int32) (qL : Nat → Int32) (pL : Nat → Int32), (0 ≤ Int32.toInt x1 ∧ Int32.toInt x1 ≤ 1) → (0 ≤ Int32.toInt bW ∧ Int32.toInt bW ≤ 16) → (0 ≤ Int32.toInt aG ∧ Int32.toInt aG ≤ 8) → (0 ≤ Int32.toInt jG ∧ Int32.toInt jG ≤ 0) → (0 ≤ Int32.toInt dG ∧ Int32.toInt dG ≤ 0) → (jY = 1) → (1 ≤ Int32.toInt m_length ∧ Int32.toInt m_length ≤ 80) → (76 ≤ Int32.toInt qG ∧ Int32.toInt qG ≤ 76) → (0 ≤ Int32.toInt uW ∧ Int32.toInt uW ≤ 80) → (-1 ≤ Int32.toInt eY ∧ Int32.toInt eY ≤ 80) → (0 ≤ Int32.toInt aJ ∧ Int32.toInt aJ ≤ 16) → (0 ≤ Int32.toInt aB ∧ Int32.toInt aB ≤ 8) → (0 ≤ Int32.toInt bT ∧ Int32.toInt bT ≤ 12) → (∀ k : Nat, k = 17 → -1 ≤ Int32.toInt (rD k) ∧ Int32.toInt (rD k) ≤ SB) → (∀ k : Nat, k = 19 → 0 ≤ Int32.toInt (rD k) ∧ Int32.toInt (rD k) ≤ 9) → (∀ k : Nat, 0 ≤ Int32.toInt (m_x k) ∧ Int32.toInt (m_x k) ≤ 99) → (∀ k : Nat, 0 ≤ Int32.toInt (jA k) ∧ Int32.toInt (jA k) ≤ 99) → (∀ k : Nat, 0 ≤ Int32.toInt (pY k) ∧ Int32.toInt (pY k) ≤ 9) → (∀ k : Nat, 0 ≤ Int32.toInt (rW k) ∧ Int32.toInt (rW k) ≤ 9) → (∀ k : Nat, 0 ≤ Int32.toInt (oY k) ∧ Int32.toInt (oY k) ≤ 99) → (∀ k : Nat, 0 ≤ Int32.toInt (pR k) ∧ Int32.toInt (pR k) ≤ 99) → (∀ k : Nat, k % 4 = 0 → 0 ≤ Int32.toInt (qL k) ∧ Int32.toInt (qL k) ≤ 99) → (∀ k : Nat, k % 4 = 1 → 0 ≤ Int32.toInt (qL k) ∧ Int32.toInt (qL k) ≤ 99) → (∀ k : Nat, k % 4 = 2 → 0 ≤ Int32.toInt (qL k) ∧ Int32.toInt (qL k) ≤ 9) → (∀ k : Nat, k % 4 = 3 → 0 ≤ Int32.toInt (qL k) ∧ Int32.toInt (qL k) ≤ 9) → (∀ k : Nat, 0 ≤ Int32.toInt (qL k) ∧ Int32.toInt (qL k) ≤ 99) → (∀ k : Nat, 0 ≤ Int32.toInt (pL k) ∧ Int32.toInt (pL k) ≤ 99) → (Int32.toInt bW + Int32.toInt aJ ≤ 16) → (Int32.toInt aG + Int32.toInt aB ≤ 8) → (Int32.toInt zR ≤ Int32.toInt aG) → (80 - Int32.toInt uW + Int32.toInt x1 < n45) → next x1 bW aG jG dG jY m_length qG uW eY aJ aB bT pW rD m_x jA pY rW oY pR qL pL) (x1 bW aG jG dG : Int32) (jY : Nat) (m_length qG uW eY aJ aB bT pW : Int32) (rD m_x jA pY rW oY pR qL pL : Nat → Int32) (h_x1 : 0 ≤ Int32.toInt x1 ∧ Int32.toInt x1 ≤ 1) (h_m_fruits : 0 ≤ Int32.toInt bW ∧ Int32.toInt bW ≤ 16) (h_m_standings : 0 ≤ Int32.toInt aG ∧ Int32.toInt aG ≤ 8) (h_m_typed : 0 ≤ Int32.toInt jG ∧ Int32.toInt jG ≤ 0) (h_m_thrown : 0 ≤ Int32.toInt dG ∧ Int32.toInt dG ≤ 0) (h_m_read : jY = 1) (h_m_length : 1 ≤ Int32.toInt m_length ∧ Int32.toInt m_length ≤ 80) (h_m_top : 76 ≤ Int32.toInt qG ∧ Int32.toInt qG ≤ 76) (h_m_at : 0 ≤ Int32.toInt uW ∧ Int32.toInt uW ≤ 80) (h_m_wrong : -1 ≤ Int32.toInt eY ∧ Int32.toInt eY ≤ 80) (h_m_newFruitMany : 0 ≤ Int32.toInt aJ ∧ Int32.toInt aJ ≤ 16) (h_m_newStandingMany : 0 ≤ Int32.toInt aB ∧ Int32.toInt aB ≤ 8) (h_m_undoMany : 0 ≤ Int32.toInt bT ∧ Int32.toInt bT ≤ 12) (e0_m_now : ∀ k : Nat, k = 17 → -1 ≤ Int32.toInt (rD k) ∧ Int32.toInt (rD k) ≤ SB) (e1_m_now : ∀ k : Nat, k = 19 → 0 ≤ Int32.toInt (rD k) ∧ Int32.toInt (rD k) ≤ 9) (h_m_x : ∀ k : Nat, 0 ≤ Int32.toInt (m_x k) ∧ Int32.toInt (m_x k) ≤ 99) (h_m_height : ∀ k : Nat, 0 ≤ Int32.toInt (jA k) ∧ Int32.toInt (jA k) ≤ 99) (h_m_worth : ∀ k : Nat, 0 ≤ Int32.toInt (pY k) ∧ Int32.toInt (pY k) ≤ 9) (h_m_ripe : ∀ k : Nat, 0 ≤ Int32.toInt (rW k) ∧ Int32.toInt (rW k) ≤ 9) (h_m_foot : ∀ k : Nat, 0 ≤ Int32.toInt (oY k) ∧ Int32.toInt (oY k) ≤ 99) (h_m_fork : ∀ k : Nat, 0 ≤ Int32.toInt (pR k) ∧ Int32.toInt (pR k) ≤ 99) (e0_m_newFruits : ∀ k : Nat, k % 4 = 0 → 0 ≤ Int32.toInt (qL k) ∧ Int32.toInt (qL k) ≤ 99) (e1_m_newFruits : ∀ k : Nat, k % 4 = 1 → 0 ≤ Int32.toInt (qL k) ∧ Int32.toInt (qL k) ≤ 99) (e2_m_newFruits : ∀ k : Nat, k % 4 = 2 → 0 ≤ Int32.toInt (qL k) ∧ Int32.toInt (qL k) ≤ 9) (e3_m_newFruits : ∀ k : Nat, k % 4 = 3 → 0 ≤ Int32.toInt (qL k) ∧ Int32.toInt (qL k) ≤ 9) (h_m_newFruits : ∀ k : Nat, 0 ≤ Int32.toInt (qL k) ∧ Int32.toInt (qL k) ≤ 99) (h_m_newStandings : ∀ k : Nat, 0 ≤ Int32.toInt (pL k) ∧ Int32.toInt (pL k) ≤ 99) (hx0 : Int32.toInt bW + Int32.toInt aJ ≤ 16) (hx1 : Int32.toInt aG + Int32.toInt aB ≤ 8) (hx2 : Int32.toInt zR ≤ Int32.toInt aG) (hn45 : 80 - Int32.toInt uW + Int32.toInt x1 ≤ n45) : ws_X10_orchard_45 post next rG rQ x1 bW aG jG dG jY m_length qG uW eY aJ aB bT pW rD m_x jA pY rW oY pR qL pL := by
  have l0 := li_m1
  have l1 := li_0
  have l2 := li_1
  have l3 := li_59
  refine And.intro (fun c66 => ?_) (fun c66 => ?_)
  · skip
    have c66 := (fa_eq _ _).mp c66
    have f67 := tp_r pW
    exact ts_X10_orchard_70 rG rQ h_m_text h_m_rule hc0 hpost bW aG jG dG jY m_length qG uW eY aJ aB bT pW rD m_x jA pY rW oY pR qL pL h_m_fruits h_m_standings h_m_typed h_m_thrown h_m_read h_m_length h_m_top h_m_at h_m_wrong h_m_newFruitMany h_m_newStandingMany h_m_undoMany e0_m_now e1_m_now h_m_x h_m_height h_m_worth h_m_ripe h_m_foot h_m_fork e0_m_newFruits e1_m_newFruits e2_m_newFruits e3_m_newFruits h_m_newFruits h_m_newStandings hx0 hx1 hx2
  · skip
    have c66 := mt (fa_eq _ _).mpr c66
    refine And.intro (fun c68 => ?_) (fun c68 => ?_)
    · skip
      have c68 := mt (fa_eq _ _).mpr c68
      refine And.intro (fun _ => ?_) (fun h9 => absurd h9 (by decide))
      have f69 := tp_r pW
      exact ts_X10_orchard_70 rG rQ h_m_text h_m_rule hc0 hpost bW aG jG dG jY m_length qG uW eY aJ aB bT pW rD m_x jA pY rW oY pR qL pL h_m_fruits h_m_standings h_m_typed h_m_thrown h_m_read h_m_length h_m_top h_m_at h_m_wrong h_m_newFruitMany h_m_newStandingMany h_m_undoMany e0_m_now e1_m_now h_m_x h_m_height h_m_worth h_m_ripe h_m_foot h_m_fork e0_m_newFruits e1_m_newFruits e2_m_newFruits e3_m_newFruits h_m_newFruits h_m_newStandings hx0 hx1 hx2
    · skip
      have c68 := (fa_eq _ _).mp c68
      refine And.intro (fun h9 => absurd h9 (by decide)) (fun _ => ?_)
      refine t_X10_readLine h_m_fruits h_m_standings h_m_read h_m_length h_m_top h_m_at (by omega) h_m_newFruitMany h_m_newStandingMany h_m_text e0_m_newFruits e1_m_newFruits e2_m_newFruits e3_m_newFruits h_m_newFruits h_m_newStandings h_m_rule (by omega) (by omega) (fun m_at_70 m_wrong_71 m_newFruitMany_72 aIu m_newFruits_74 m_newStandings_75 h_m_at_70 h_m_wrong_71 h_m_newFruitMany_72 h_m_newStandingMany_73 e0_m_newFruits_74 e1_m_newFruits_74 e2_m_newFruits_74 e3_m_newFruits_74 h_m_newFruits_74 h_m_newStandings_75 ox76 ox77 ox78 => ?_)
      refine And.intro (fun c79 => ?_) (fun c79 => ?_)
      · skip
        have c79 := mt (fa_eq _ _).mpr c79
        refine And.intro (fun _ => ?_) (fun h9 => absurd h9 (by decide))
        have f80 := tp_r pW
        exact hKn 0 bW aG jG dG jY m_length qG m_at_70 m_wrong_71 m_newFruitMany_72 aIu bT pW rD m_x jA pY rW oY pR m_newFruits_74 m_newStandings_75 (by omega) h_m_fruits h_m_standings h_m_typed h_m_thrown h_m_read h_m_length h_m_top h_m_at_70 h_m_wrong_71 h_m_newFruitMany_72 h_m_newStandingMany_73 h_m_undoMany e0_m_now e1_m_now h_m_x h_m_height h_m_worth h_m_ripe h_m_foot h_m_fork e0_m_newFruits_74 e1_m_newFruits_74 e2_m_newFruits_74 e3_m_newFruits_74 h_m_newFruits_74 h_m_newStandings_75 (by omega) (by omega) hx2 (by omega)
      · skip
        have c79 := (fa_eq _ _).mp c79
        refine And.intro (fun h9 => absurd h9 (by decide)) (fun _ => ?_)
        refine t_X10_here (by first | exact h_m_read | exact Or.inl rfl | exact Or.inr rfl | omega) (by omega) (by omega) h_m_at_70 h_m_text h_m_rule (by omega) (fun r81 h_r81 ox82 ox83 => ?_)
        refine And.intro (fun c84 => ?_) (fun c84 => ?_)
        · skip
          have c84 := (fa_eq _ _).mp c84
          intro v85 ev85
          have f86 : Int32.toInt (m_at_70 + 1) = Int32.toInt m_at_70 + Int32.toInt (1 : Int32) := ta_add _ _ (by omega)
          rw [← ev85] at f86
          have f87 := tp_r pW
          exact hKn 1 bW aG jG dG jY m_length qG v85 m_wrong_71 m_newFruitMany_72 aIu bT pW rD m_x jA pY rW oY pR m_newFruits_74 m_newStandings_75 (by omega) h_m_fruits h_m_standings h_m_typed h_m_thrown h_m_read h_m_length h_m_top (by omega) h_m_wrong_71 h_m_newFruitMany_72 h_m_newStandingMany_73 h_m_undoMany e0_m_now e1_m_now h_m_x h_m_height h_m_worth h_m_ripe h_m_foot h_m_fork e0_m_newFruits_74 e1_m_newFruits_74 e2_m_newFruits_74 e3_m_newFruits_74 h_m_newFruits_74 h_m_newStandings_75 (by omega) (by omega) hx2 (by omega)
        · skip
          have c84 := mt (fa_eq _ _).mpr c84
          have f88 := tp_r pW
          exact hKn 0 bW aG jG dG jY m_length qG m_at_70 m_wrong_71 m_newFruitMany_72 aIu bT pW rD m_x jA pY rW oY pR m_newFruits_74 m_newStandings_75 (by omega) h_m_fruits h_m_standings h_m_typed h_m_thrown h_m_read h_m_length h_m_top h_m_at_70 h_m_wrong_71 h_m_newFruitMany_72 h_m_newStandingMany_73 h_m_undoMany e0_m_now e1_m_now h_m_x h_m_height h_m_worth h_m_ripe h_m_foot h_m_fork e0_m_newFruits_74 e1_m_newFruits_74 e2_m_newFruits_74 e3_m_newFruits_74 h_m_newFruits_74 h_m_newStandings_75 (by omega) (by omega) hx2 (by omega)
set_option maxHeartbeats 8000000 in
set_option maxRecDepth 200000 in
theorem tb_X10_orchard_45 {post : Int32 → Int32 → Int32 → Int32 → Int32 → Nat → Int32 → Int32 → Int32 → Int32 → Int32 → Int32 → Int32 → Int32 → (Nat → Int32) → (Nat → Int32) → (Nat → Int32) → (Nat → Int32) → (Nat → Int32) → (Nat → Int32) → (Nat → Int32) → (Nat → Int32) → (Nat → Int32) → Prop} {SB : Int} {zR : Int32} (rG rQ : Nat → Int32) (h_m_text : ∀ k : Nat, -128 ≤ Int32.toInt (rG k) ∧ Int32.toInt (rG k) ≤ 127) (h_m_rule : ∀ k : Nat, -128 ≤ Int32.toInt (rQ k) ∧ Int32.toInt (rQ k) ≤ 127) (hc0 : -1 ≤ SB ∧ SB ≤ 7) (hpost : ∀ (r : Int32) (m_fruits' : Int32) (m_standings' : Int32) (m_typed' : Int32) (m_thrown' : Int32) (m_read' : Nat) (m_length' : Int32) (m_top' : Int32) (m_at' : Int32) (m_wrong' : Int32) (m_newFruitMany' : Int32) (m_newStandingMany' : Int32) (m_undoMany' : Int32) (m_came' : Int32) (m_now' : Nat → Int32) (m_x' : Nat → Int32) (m_height' : Nat → Int32) (m_worth' : Nat → Int32) (m_ripe' : Nat → Int32) (m_foot' : Nat → Int32) (m_fork' : Nat → Int32) (m_newFruits' : Nat → Int32) (m_newStandings' : Nat → Int32), (-100 ≤ Int32.toInt r ∧ Int32.toInt r ≤ 24) → (0 ≤ Int32.toInt m_fruits' ∧ Int32.toInt m_fruits' ≤ 16) → (0 ≤ Int32.toInt m_standings' ∧ Int32.toInt m_standings' ≤ 8) → (0 ≤ Int32.toInt m_typed' ∧ Int32.toInt m_typed' ≤ 0) → (0 ≤ Int32.toInt m_thrown' ∧ Int32.toInt m_thrown' ≤ 0) → (m_read' = 1) → (0 ≤ Int32.toInt m_length' ∧ Int32.toInt m_length' ≤ 80) → (76 ≤ Int32.toInt m_top' ∧ Int32.toInt m_top' ≤ 76) → (0 ≤ Int32.toInt m_at' ∧ Int32.toInt m_at' ≤ 80) → (-1 ≤ Int32.toInt m_wrong' ∧ Int32.toInt m_wrong' ≤ 80) → (0 ≤ Int32.toInt m_newFruitMany' ∧ Int32.toInt m_newFruitMany' ≤ 16) → (0 ≤ Int32.toInt m_newStandingMany' ∧ Int32.toInt m_newStandingMany' ≤ 8) → (0 ≤ Int32.toInt m_undoMany' ∧ Int32.toInt m_undoMany' ≤ 12) → (∀ k : Nat, k = 17 → -1 ≤ Int32.toInt (m_now' k) ∧ Int32.toInt (m_now' k) ≤ SB) → (∀ k : Nat, k = 19 → 0 ≤ Int32.toInt (m_now' k) ∧ Int32.toInt (m_now' k) ≤ 9) → (∀ k : Nat, 0 ≤ Int32.toInt (m_x' k) ∧ Int32.toInt (m_x' k) ≤ 99) → (∀ k : Nat, 0 ≤ Int32.toInt (m_height' k) ∧ Int32.toInt (m_height' k) ≤ 99) → (∀ k : Nat, 0 ≤ Int32.toInt (m_worth' k) ∧ Int32.toInt (m_worth' k) ≤ 9) → (∀ k : Nat, 0 ≤ Int32.toInt (m_ripe' k) ∧ Int32.toInt (m_ripe' k) ≤ 9) → (∀ k : Nat, 0 ≤ Int32.toInt (m_foot' k) ∧ Int32.toInt (m_foot' k) ≤ 99) → (∀ k : Nat, 0 ≤ Int32.toInt (m_fork' k) ∧ Int32.toInt (m_fork' k) ≤ 99) → (∀ k : Nat, k % 4 = 0 → 0 ≤ Int32.toInt (m_newFruits' k) ∧ Int32.toInt (m_newFruits' k) ≤ 99) → (∀ k : Nat, k % 4 = 1 → 0 ≤ Int32.toInt (m_newFruits' k) ∧ Int32.toInt (m_newFruits' k) ≤ 99) → (∀ k : Nat, k % 4 = 2 → 0 ≤ Int32.toInt (m_newFruits' k) ∧ Int32.toInt (m_newFruits' k) ≤ 9) → (∀ k : Nat, k % 4 = 3 → 0 ≤ Int32.toInt (m_newFruits' k) ∧ Int32.toInt (m_newFruits' k) ≤ 9) → (∀ k : Nat, 0 ≤ Int32.toInt (m_newFruits' k) ∧ Int32.toInt (m_newFruits' k) ≤ 99) → (∀ k : Nat, 0 ≤ Int32.toInt (m_newStandings' k) ∧ Int32.toInt (m_newStandings' k) ≤ 99) → (Int32.toInt zR ≤ Int32.toInt m_standings') → post r m_fruits' m_standings' m_typed' m_thrown' m_read' m_length' m_top' m_at' m_wrong' m_newFruitMany' m_newStandingMany' m_undoMany' m_came' m_now' m_x' m_height' m_worth' m_ripe' m_foot' m_fork' m_newFruits' m_newStandings') : ∀ (n : Nat) (x1 bW aG jG dG : Int32) (jY : Nat) (m_length qG uW eY aJ aB bT pW : Int32) (rD m_x jA pY rW oY pR qL pL : Nat → Int32), (0 ≤ Int32.toInt x1 ∧ Int32.toInt x1 ≤ 1) → (0 ≤ Int32.toInt bW ∧ Int32.toInt bW ≤ 16) → (0 ≤ Int32.toInt aG ∧ Int32.toInt aG ≤ 8) → (0 ≤ Int32.toInt jG ∧ Int32.toInt jG ≤ 0) → (0 ≤ Int32.toInt dG ∧ Int32.toInt dG ≤ 0) → (jY = 1) → (1 ≤ Int32.toInt m_length ∧ Int32.toInt m_length ≤ 80) → (76 ≤ Int32.toInt qG ∧ Int32.toInt qG ≤ 76) → (0 ≤ Int32.toInt uW ∧ Int32.toInt uW ≤ 80) → (-1 ≤ Int32.toInt eY ∧ Int32.toInt eY ≤ 80) → (0 ≤ Int32.toInt aJ ∧ Int32.toInt aJ ≤ 16) → (0 ≤ Int32.toInt aB ∧ Int32.toInt aB ≤ 8) → (0 ≤ Int32.toInt bT ∧ Int32.toInt bT ≤ 12) → (∀ k : Nat, k = 17 → -1 ≤ Int32.toInt (rD k) ∧ Int32.toInt (rD k) ≤ SB) → (∀ k : Nat, k = 19 → 0 ≤ Int32.toInt (rD k) ∧ Int32.toInt (rD k) ≤ 9) → (∀ k : Nat, 0 ≤ Int32.toInt (m_x k) ∧ Int32.toInt (m_x k) ≤ 99) → (∀ k : Nat, 0 ≤ Int32.toInt (jA k) ∧ Int32.toInt (jA k) ≤ 99) → (∀ k : Nat, 0 ≤ Int32.toInt (pY k) ∧ Int32.toInt (pY k) ≤ 9) → (∀ k : Nat, 0 ≤ Int32.toInt (rW k) ∧ Int32.toInt (rW k) ≤ 9) → (∀ k : Nat, 0 ≤ Int32.toInt (oY k) ∧ Int32.toInt (oY k) ≤ 99) → (∀ k : Nat, 0 ≤ Int32.toInt (pR k) ∧ Int32.toInt (pR k) ≤ 99) → (∀ k : Nat, k % 4 = 0 → 0 ≤ Int32.toInt (qL k) ∧ Int32.toInt (qL k) ≤ 99) → (∀ k : Nat, k % 4 = 1 → 0 ≤ Int32.toInt (qL k) ∧ Int32.toInt (qL k) ≤ 99) → (∀ k : Nat, k % 4 = 2 → 0 ≤ Int32.toInt (qL k) ∧ Int32.toInt (qL k) ≤ 9) → (∀ k : Nat, k % 4 = 3 → 0 ≤ Int32.toInt (qL k) ∧ Int32.toInt (qL k) ≤ 9) → (∀ k : Nat, 0 ≤ Int32.toInt (qL k) ∧ Int32.toInt (qL k) ≤ 99) → (∀ k : Nat, 0 ≤ Int32.toInt (pL k) ∧ Int32.toInt (pL k) ≤ 99) → (Int32.toInt bW + Int32.toInt aJ ≤ 16) → (Int32.toInt aG + Int32.toInt aB ≤ 8) → (Int32.toInt zR ≤ Int32.toInt aG) → (80 - Int32.toInt uW + Int32.toInt x1 < (n : Int)) → wb_X10_orchard_45 post rG rQ n x1 bW aG jG dG jY m_length qG uW eY aJ aB bT pW rD m_x jA pY rW oY pR qL pL := by
  intro n
  induction n with
  | zero =>
    intro x1 bW aG jG dG jY m_length qG uW eY aJ aB bT pW rD m_x jA pY rW oY pR qL pL h_x1 h_m_fruits h_m_standings h_m_typed h_m_thrown h_m_read h_m_length h_m_top h_m_at h_m_wrong h_m_newFruitMany h_m_newStandingMany h_m_undoMany e0_m_now e1_m_now h_m_x h_m_height h_m_worth h_m_ripe h_m_foot h_m_fork e0_m_newFruits e1_m_newFruits e2_m_newFruits e3_m_newFruits h_m_newFruits h_m_newStandings hx0 hx1 hx2 hm
    exfalso; omega
  | succ n ih =>
    intro x1 bW aG jG dG jY m_length qG uW eY aJ aB bT pW rD m_x jA pY rW oY pR qL pL h_x1 h_m_fruits h_m_standings h_m_typed h_m_thrown h_m_read h_m_length h_m_top h_m_at h_m_wrong h_m_newFruitMany h_m_newStandingMany h_m_undoMany e0_m_now e1_m_now h_m_x h_m_height h_m_worth h_m_ripe h_m_foot h_m_fork e0_m_newFruits e1_m_newFruits e2_m_newFruits e3_m_newFruits h_m_newFruits h_m_newStandings hx0 hx1 hx2 hm
    exact ts_X10_orchard_45 rG rQ h_m_text h_m_rule hc0 hpost ih x1 bW aG jG dG jY m_length qG uW eY aJ aB bT pW rD m_x jA pY rW oY pR qL pL h_x1 h_m_fruits h_m_standings h_m_typed h_m_thrown h_m_read h_m_length h_m_top h_m_at h_m_wrong h_m_newFruitMany h_m_newStandingMany h_m_undoMany e0_m_now e1_m_now h_m_x h_m_height h_m_worth h_m_ripe h_m_foot h_m_fork e0_m_newFruits e1_m_newFruits e2_m_newFruits e3_m_newFruits h_m_newFruits h_m_newStandings hx0 hx1 hx2 (by omega)
set_option maxHeartbeats 8000000 in
set_option maxRecDepth 200000 in
theorem t_X10_orchard {post : Int32 → Int32 → Int32 → Int32 → Int32 → Nat → Int32 → Int32 → Int32 → Int32 → Int32 → Int32 → Int32 → Int32 → (Nat → Int32) → (Nat → Int32) → (Nat → Int32) → (Nat → Int32) → (Nat → Int32) → (Nat → Int32) → (Nat → Int32) → (Nat → Int32) → (Nat → Int32) → Prop} {SB : Int} {bW aG jG dG : Int32} {jY : Nat} {m_length qG uW eY aJ aB bT pW : Int32} {rD m_x jA pY rW oY pR rG qL pL rQ : Nat → Int32} (h_m_fruits : 0 ≤ Int32.toInt bW ∧ Int32.toInt bW ≤ 16) (h_m_standings : 0 ≤ Int32.toInt aG ∧ Int32.toInt aG ≤ 8) (h_m_typed : 0 ≤ Int32.toInt jG ∧ Int32.toInt jG ≤ 80) (h_m_thrown : 0 ≤ Int32.toInt dG ∧ Int32.toInt dG ≤ 1) (h_m_read : jY = 0 ∨ jY = 1 ∨ jY = 2) (h_m_length : 0 ≤ Int32.toInt m_length ∧ Int32.toInt m_length ≤ 80) (h_m_top : 0 ≤ Int32.toInt qG ∧ Int32.toInt qG ≤ 80) (h_m_at : 0 ≤ Int32.toInt uW ∧ Int32.toInt uW ≤ 80) (h_m_wrong : -1 ≤ Int32.toInt eY ∧ Int32.toInt eY ≤ 80) (h_m_newFruitMany : 0 ≤ Int32.toInt aJ ∧ Int32.toInt aJ ≤ 16) (h_m_newStandingMany : 0 ≤ Int32.toInt aB ∧ Int32.toInt aB ≤ 8) (h_m_undoMany : 0 ≤ Int32.toInt bT ∧ Int32.toInt bT ≤ 12) (e0_m_now : ∀ k : Nat, k = 17 → -1 ≤ Int32.toInt (rD k) ∧ Int32.toInt (rD k) ≤ SB) (e1_m_now : ∀ k : Nat, k = 19 → 0 ≤ Int32.toInt (rD k) ∧ Int32.toInt (rD k) ≤ 9) (h_m_x : ∀ k : Nat, 0 ≤ Int32.toInt (m_x k) ∧ Int32.toInt (m_x k) ≤ 99) (h_m_height : ∀ k : Nat, 0 ≤ Int32.toInt (jA k) ∧ Int32.toInt (jA k) ≤ 99) (h_m_worth : ∀ k : Nat, 0 ≤ Int32.toInt (pY k) ∧ Int32.toInt (pY k) ≤ 9) (h_m_ripe : ∀ k : Nat, 0 ≤ Int32.toInt (rW k) ∧ Int32.toInt (rW k) ≤ 9) (h_m_foot : ∀ k : Nat, 0 ≤ Int32.toInt (oY k) ∧ Int32.toInt (oY k) ≤ 99) (h_m_fork : ∀ k : Nat, 0 ≤ Int32.toInt (pR k) ∧ Int32.toInt (pR k) ≤ 99) (h_m_text : ∀ k : Nat, -128 ≤ Int32.toInt (rG k) ∧ Int32.toInt (rG k) ≤ 127) (e0_m_newFruits : ∀ k : Nat, k % 4 = 0 → 0 ≤ Int32.toInt (qL k) ∧ Int32.toInt (qL k) ≤ 99) (e1_m_newFruits : ∀ k : Nat, k % 4 = 1 → 0 ≤ Int32.toInt (qL k) ∧ Int32.toInt (qL k) ≤ 99) (e2_m_newFruits : ∀ k : Nat, k % 4 = 2 → 0 ≤ Int32.toInt (qL k) ∧ Int32.toInt (qL k) ≤ 9) (e3_m_newFruits : ∀ k : Nat, k % 4 = 3 → 0 ≤ Int32.toInt (qL k) ∧ Int32.toInt (qL k) ≤ 9) (h_m_newFruits : ∀ k : Nat, 0 ≤ Int32.toInt (qL k) ∧ Int32.toInt (qL k) ≤ 99) (h_m_newStandings : ∀ k : Nat, 0 ≤ Int32.toInt (pL k) ∧ Int32.toInt (pL k) ≤ 99) (h_m_rule : ∀ k : Nat, -128 ≤ Int32.toInt (rQ k) ∧ Int32.toInt (rQ k) ≤ 127) (hc0 : -1 ≤ SB ∧ SB ≤ 7) (hpost : ∀ (r : Int32) (m_fruits' : Int32) (m_standings' : Int32) (m_typed' : Int32) (m_thrown' : Int32) (m_read' : Nat) (m_length' : Int32) (m_top' : Int32) (m_at' : Int32) (m_wrong' : Int32) (m_newFruitMany' : Int32) (m_newStandingMany' : Int32) (m_undoMany' : Int32) (m_came' : Int32) (m_now' : Nat → Int32) (m_x' : Nat → Int32) (m_height' : Nat → Int32) (m_worth' : Nat → Int32) (m_ripe' : Nat → Int32) (m_foot' : Nat → Int32) (m_fork' : Nat → Int32) (m_newFruits' : Nat → Int32) (m_newStandings' : Nat → Int32), (-100 ≤ Int32.toInt r ∧ Int32.toInt r ≤ 24) → (0 ≤ Int32.toInt m_fruits' ∧ Int32.toInt m_fruits' ≤ 16) → (0 ≤ Int32.toInt m_standings' ∧ Int32.toInt m_standings' ≤ 8) → (0 ≤ Int32.toInt m_typed' ∧ Int32.toInt m_typed' ≤ 0) → (0 ≤ Int32.toInt m_thrown' ∧ Int32.toInt m_thrown' ≤ 0) → (m_read' = 1) → (0 ≤ Int32.toInt m_length' ∧ Int32.toInt m_length' ≤ 80) → (76 ≤ Int32.toInt m_top' ∧ Int32.toInt m_top' ≤ 76) → (0 ≤ Int32.toInt m_at' ∧ Int32.toInt m_at' ≤ 80) → (-1 ≤ Int32.toInt m_wrong' ∧ Int32.toInt m_wrong' ≤ 80) → (0 ≤ Int32.toInt m_newFruitMany' ∧ Int32.toInt m_newFruitMany' ≤ 16) → (0 ≤ Int32.toInt m_newStandingMany' ∧ Int32.toInt m_newStandingMany' ≤ 8) → (0 ≤ Int32.toInt m_undoMany' ∧ Int32.toInt m_undoMany' ≤ 12) → (∀ k : Nat, k = 17 → -1 ≤ Int32.toInt (m_now' k) ∧ Int32.toInt (m_now' k) ≤ SB) → (∀ k : Nat, k = 19 → 0 ≤ Int32.toInt (m_now' k) ∧ Int32.toInt (m_now' k) ≤ 9) → (∀ k : Nat, 0 ≤ Int32.toInt (m_x' k) ∧ Int32.toInt (m_x' k) ≤ 99) → (∀ k : Nat, 0 ≤ Int32.toInt (m_height' k) ∧ Int32.toInt (m_height' k) ≤ 99) → (∀ k : Nat, 0 ≤ Int32.toInt (m_worth' k) ∧ Int32.toInt (m_worth' k) ≤ 9) → (∀ k : Nat, 0 ≤ Int32.toInt (m_ripe' k) ∧ Int32.toInt (m_ripe' k) ≤ 9) → (∀ k : Nat, 0 ≤ Int32.toInt (m_foot' k) ∧ Int32.toInt (m_foot' k) ≤ 99) → (∀ k : Nat, 0 ≤ Int32.toInt (m_fork' k) ∧ Int32.toInt (m_fork' k) ≤ 99) → (∀ k : Nat, k % 4 = 0 → 0 ≤ Int32.toInt (m_newFruits' k) ∧ Int32.toInt (m_newFruits' k) ≤ 99) → (∀ k : Nat, k % 4 = 1 → 0 ≤ Int32.toInt (m_newFruits' k) ∧ Int32.toInt (m_newFruits' k) ≤ 99) → (∀ k : Nat, k % 4 = 2 → 0 ≤ Int32.toInt (m_newFruits' k) ∧ Int32.toInt (m_newFruits' k) ≤ 9) → (∀ k : Nat, k % 4 = 3 → 0 ≤ Int32.toInt (m_newFruits' k) ∧ Int32.toInt (m_newFruits' k) ≤ 9) → (∀ k : Nat, 0 ≤ Int32.toInt (m_newFruits' k) ∧ Int32.toInt (m_newFruits' k) ≤ 99) → (∀ k : Nat, 0 ≤ Int32.toInt (m_newStandings' k) ∧ Int32.toInt (m_newStandings' k) ≤ 99) → (Int32.toInt aG ≤ Int32.toInt m_standings') → post r m_fruits' m_standings' m_typed' m_thrown' m_read' m_length' m_top' m_at' m_wrong' m_newFruitMany' m_newStandingMany' m_undoMany' m_came' m_now' m_x' m_height' m_worth' m_ripe' m_foot' m_fork' m_newFruits' m_newStandings') : wp_X10_orchard post bW aG jG dG jY m_length qG uW eY aJ aB bT pW rD m_x jA pY rW oY pR rG qL pL rQ := by
  have l0 := li_m1
  have l1 := li_0
  have l2 := li_1
  have l3 := li_76
  refine And.intro (fun c89 => ?_) (fun c89 => ?_)
  · skip
    have c89 := mt (fa_eq _ _).mpr c89
    have f90 := tp_r pW
    exact ⟨83, tb_X10_orchard_45 rG rQ h_m_text h_m_rule hc0 hpost _ 1 bW aG 0 0 1 jG 76 0 (-1) 0 0 bT pW rD m_x jA pY rW oY pR qL pL (by omega) h_m_fruits h_m_standings (by omega) (by omega) (by first | exact h_m_read | exact Or.inl rfl | exact Or.inr rfl | omega) (by omega) (by omega) (by omega) (by omega) (by omega) (by omega) h_m_undoMany e0_m_now e1_m_now h_m_x h_m_height h_m_worth h_m_ripe h_m_foot h_m_fork e0_m_newFruits e1_m_newFruits e2_m_newFruits e3_m_newFruits h_m_newFruits h_m_newStandings (by omega) (by omega) (by omega) (by omega)⟩
  · skip
    have c89 := (fa_eq _ _).mp c89
    exact hpost _ _ _ _ _ _ _ _ _ _ _ _ _ _ _ _ _ _ _ _ _ _ _ (by omega) h_m_fruits h_m_standings (by omega) (by omega) (by first | exact h_m_read | exact Or.inl rfl | exact Or.inr rfl | omega) h_m_typed (by omega) (by omega) (by omega) h_m_newFruitMany h_m_newStandingMany h_m_undoMany e0_m_now e1_m_now h_m_x h_m_height h_m_worth h_m_ripe h_m_foot h_m_fork e0_m_newFruits e1_m_newFruits e2_m_newFruits e3_m_newFruits h_m_newFruits h_m_newStandings (by omega)
noncomputable def TT_X10_thing (W : TY_X10) (rn : Int) : Prop := ∀ {post : Int32 → Int32 → Int32 → Prop} {p0 : Int32} {jY : Nat} {m_length qG uW eY dN aR aE bJ aW : Int32} {m_x jA pY oY pR rG rQ : Nat → Int32} (h_p0 : 0 ≤ Int32.toInt p0 ∧ Int32.toInt p0 ≤ 4) (h_m_read : jY = 1 ∨ jY = 2) (h_m_length : 1 ≤ Int32.toInt m_length ∧ Int32.toInt m_length ≤ 80) (h_m_top : 40 ≤ Int32.toInt qG ∧ Int32.toInt qG ≤ 40) (h_m_at : 0 ≤ Int32.toInt uW ∧ Int32.toInt uW ≤ 80) (h_m_wrong : -1 ≤ Int32.toInt eY ∧ Int32.toInt eY ≤ -1) (h_m_isAsked : 0 ≤ Int32.toInt dN ∧ Int32.toInt dN ≤ 1) (h_m_askedFruit : 0 ≤ Int32.toInt aR ∧ Int32.toInt aR ≤ 15) (h_m_askedStanding : 0 ≤ Int32.toInt aE ∧ Int32.toInt aE ≤ 7) (h_m_askedHook : 0 ≤ Int32.toInt bJ ∧ Int32.toInt bJ ≤ 1) (h_m_askedApron : 0 ≤ Int32.toInt aW ∧ Int32.toInt aW ≤ 63) (h_m_x : ∀ k : Nat, 0 ≤ Int32.toInt (m_x k) ∧ Int32.toInt (m_x k) ≤ 99) (h_m_height : ∀ k : Nat, 0 ≤ Int32.toInt (jA k) ∧ Int32.toInt (jA k) ≤ 99) (h_m_worth : ∀ k : Nat, 0 ≤ Int32.toInt (pY k) ∧ Int32.toInt (pY k) ≤ 9) (h_m_foot : ∀ k : Nat, 0 ≤ Int32.toInt (oY k) ∧ Int32.toInt (oY k) ≤ 99) (h_m_fork : ∀ k : Nat, 0 ≤ Int32.toInt (pR k) ∧ Int32.toInt (pR k) ≤ 99) (h_m_text : ∀ k : Nat, -128 ≤ Int32.toInt (rG k) ∧ Int32.toInt (rG k) ≤ 127) (h_m_rule : ∀ k : Nat, -128 ≤ Int32.toInt (rQ k) ∧ Int32.toInt (rQ k) ≤ 127) (hc0 : jY = 2 → Int32.toInt qG ≤ 40) (hx0 : Int32.toInt uW ≤ Int32.toInt qG) (hx1 : Int32.toInt qG - Int32.toInt uW < rn) (hpost : ∀ (r : Int32) (m_at' : Int32) (m_wrong' : Int32), (0 ≤ Int32.toInt m_at' ∧ Int32.toInt m_at' ≤ 80) → (-1 ≤ Int32.toInt m_wrong' ∧ Int32.toInt m_wrong' ≤ 80) → (Int32.toInt uW ≤ Int32.toInt m_at') → (Int32.toInt m_at' ≤ Int32.toInt qG) → post r m_at' m_wrong'), W post p0 jY m_length qG uW eY dN aR aE bJ aW m_x jA pY oY pR rG rQ
noncomputable def TT_X10_held (W : TY_X10) (rn : Int) : Prop := ∀ {post : Int32 → Int32 → Int32 → Prop} {p0 : Int32} {jY : Nat} {m_length qG uW eY dN aR aE bJ aW : Int32} {m_x jA pY oY pR rG rQ : Nat → Int32} (h_p0 : 0 ≤ Int32.toInt p0 ∧ Int32.toInt p0 ≤ 4) (h_m_read : jY = 1 ∨ jY = 2) (h_m_length : 1 ≤ Int32.toInt m_length ∧ Int32.toInt m_length ≤ 80) (h_m_top : 40 ≤ Int32.toInt qG ∧ Int32.toInt qG ≤ 40) (h_m_at : 0 ≤ Int32.toInt uW ∧ Int32.toInt uW ≤ 80) (h_m_wrong : -1 ≤ Int32.toInt eY ∧ Int32.toInt eY ≤ -1) (h_m_isAsked : 0 ≤ Int32.toInt dN ∧ Int32.toInt dN ≤ 1) (h_m_askedFruit : 0 ≤ Int32.toInt aR ∧ Int32.toInt aR ≤ 15) (h_m_askedStanding : 0 ≤ Int32.toInt aE ∧ Int32.toInt aE ≤ 7) (h_m_askedHook : 0 ≤ Int32.toInt bJ ∧ Int32.toInt bJ ≤ 1) (h_m_askedApron : 0 ≤ Int32.toInt aW ∧ Int32.toInt aW ≤ 63) (h_m_x : ∀ k : Nat, 0 ≤ Int32.toInt (m_x k) ∧ Int32.toInt (m_x k) ≤ 99) (h_m_height : ∀ k : Nat, 0 ≤ Int32.toInt (jA k) ∧ Int32.toInt (jA k) ≤ 99) (h_m_worth : ∀ k : Nat, 0 ≤ Int32.toInt (pY k) ∧ Int32.toInt (pY k) ≤ 9) (h_m_foot : ∀ k : Nat, 0 ≤ Int32.toInt (oY k) ∧ Int32.toInt (oY k) ≤ 99) (h_m_fork : ∀ k : Nat, 0 ≤ Int32.toInt (pR k) ∧ Int32.toInt (pR k) ≤ 99) (h_m_text : ∀ k : Nat, -128 ≤ Int32.toInt (rG k) ∧ Int32.toInt (rG k) ≤ 127) (h_m_rule : ∀ k : Nat, -128 ≤ Int32.toInt (rQ k) ∧ Int32.toInt (rQ k) ≤ 127) (hc0 : jY = 2 → Int32.toInt qG ≤ 40) (hx0 : Int32.toInt uW ≤ Int32.toInt qG) (hx1 : Int32.toInt qG - Int32.toInt uW < rn) (hpost : ∀ (r : Int32) (m_at' : Int32) (m_wrong' : Int32), (0 ≤ Int32.toInt m_at' ∧ Int32.toInt m_at' ≤ 80) → (-1 ≤ Int32.toInt m_wrong' ∧ Int32.toInt m_wrong' ≤ 80) → (Int32.toInt uW ≤ Int32.toInt m_at') → (Int32.toInt m_at' ≤ Int32.toInt qG) → post r m_at' m_wrong'), W post p0 jY m_length qG uW eY dN aR aE bJ aW m_x jA pY oY pR rG rQ
set_option maxHeartbeats 8000000 in
set_option maxRecDepth 200000 in
theorem ts_X10_thing_136 {post : Int32 → Int32 → Int32 → Prop} {WT WH : TY_X10} {rn : Int} (hT : TT_X10_thing WT rn) (hH : TT_X10_held WH rn) {aAJ : Int32} (jY : Nat) (m_length qG dN aR aE bJ aW : Int32) (m_x jA pY oY pR rG rQ : Nat → Int32) (h_m_read : jY = 1 ∨ jY = 2) (h_m_length : 1 ≤ Int32.toInt m_length ∧ Int32.toInt m_length ≤ 80) (h_m_top : 40 ≤ Int32.toInt qG ∧ Int32.toInt qG ≤ 40) (h_m_isAsked : 0 ≤ Int32.toInt dN ∧ Int32.toInt dN ≤ 1) (h_m_askedFruit : 0 ≤ Int32.toInt aR ∧ Int32.toInt aR ≤ 15) (h_m_askedStanding : 0 ≤ Int32.toInt aE ∧ Int32.toInt aE ≤ 7) (h_m_askedHook : 0 ≤ Int32.toInt bJ ∧ Int32.toInt bJ ≤ 1) (h_m_askedApron : 0 ≤ Int32.toInt aW ∧ Int32.toInt aW ≤ 63) (h_m_x : ∀ k : Nat, 0 ≤ Int32.toInt (m_x k) ∧ Int32.toInt (m_x k) ≤ 99) (h_m_height : ∀ k : Nat, 0 ≤ Int32.toInt (jA k) ∧ Int32.toInt (jA k) ≤ 99) (h_m_worth : ∀ k : Nat, 0 ≤ Int32.toInt (pY k) ∧ Int32.toInt (pY k) ≤ 9) (h_m_foot : ∀ k : Nat, 0 ≤ Int32.toInt (oY k) ∧ Int32.toInt (oY k) ≤ 99) (h_m_fork : ∀ k : Nat, 0 ≤ Int32.toInt (pR k) ∧ Int32.toInt (pR k) ≤ 99) (h_m_text : ∀ k : Nat, -128 ≤ Int32.toInt (rG k) ∧ Int32.toInt (rG k) ≤ 127) (h_m_rule : ∀ k : Nat, -128 ≤ Int32.toInt (rQ k) ∧ Int32.toInt (rQ k) ≤ 127) (hc0 : jY = 2 → Int32.toInt qG ≤ 40) (hpost : ∀ (r : Int32) (m_at' : Int32) (m_wrong' : Int32), (0 ≤ Int32.toInt m_at' ∧ Int32.toInt m_at' ≤ 80) → (-1 ≤ Int32.toInt m_wrong' ∧ Int32.toInt m_wrong' ≤ 80) → (Int32.toInt aAJ ≤ Int32.toInt m_at') → (Int32.toInt m_at' ≤ Int32.toInt qG) → post r m_at' m_wrong') (x2 uW eY : Int32) (h_x2 : 100 ≤ Int32.toInt x2 ∧ Int32.toInt x2 ≤ 121) (h_m_at : 0 ≤ Int32.toInt uW ∧ Int32.toInt uW ≤ 80) (h_m_wrong : -1 ≤ Int32.toInt eY ∧ Int32.toInt eY ≤ -1) (hx0 : Int32.toInt uW ≤ Int32.toInt qG) (hx1 : Int32.toInt qG - Int32.toInt uW < rn + 1) (hx2 : Int32.toInt aAJ ≤ Int32.toInt uW) (hx3 : Int32.toInt uW < Int32.toInt qG) : ws_X10_thing_136 WT WH post jY m_length qG dN aR aE bJ aW m_x jA pY oY pR rG rQ x2 uW eY := by
  have l0 := li_0
  have l1 := li_1
  have l2 := li_100
  have l3 := li_107
  have l4 := li_115
  have l5 := li_117
  have l6 := li_119
  have l7 := li_121
  intro v1 ev1
  have f2 : Int32.toInt (uW + 1) = Int32.toInt uW + Int32.toInt (1 : Int32) := ta_add _ _ (by omega)
  rw [← ev1] at f2
  refine And.intro (fun c3 => ?_) (fun c3 => ?_)
  · skip
    have c3 := (fa_eq _ _).mp c3
    exact hpost _ _ _ (by omega) (by omega) (by omega) (by omega)
  · skip
    have c3 := mt (fa_eq _ _).mpr c3
    refine And.intro (fun c4 => ?_) ?_
    · skip
      have c4 := (fa_eq _ _).mp c4
      refine And.intro (t_in (by omega)) ?_
      intro v5 ev5
      have f6 := h_m_x aR.toNatClampNeg
      have hv5 := congrArg Int32.toInt ev5
      refine And.intro (t_in (by omega)) ?_
      intro v7 ev7
      have f9 := h_m_foot aE.toNatClampNeg
      have f8 : Int32.toInt (v5 - (oY aE.toNatClampNeg)) = Int32.toInt v5 - Int32.toInt (oY aE.toNatClampNeg) := ta_sub _ _ (by omega)
      rw [← ev7] at f8
      intro v10 ev10
      have f11 := ti_abs v7 (by omega)
      have hv10 := congrArg Int32.toInt ev10
      exact hpost _ _ _ (by omega) (by omega) (by omega) (by omega)
    refine And.intro (fun c12 => ?_) ?_
    · skip
      have c12 := (fa_eq _ _).mp c12
      exact hpost _ _ _ (by omega) (by omega) (by omega) (by omega)
    refine And.intro (fun c13 => ?_) ?_
    · skip
      have c13 := (fa_eq _ _).mp c13
      exact hpost _ _ _ (by omega) (by omega) (by omega) (by omega)
    refine And.intro (fun c14 => ?_) ?_
    · skip
      have c14 := (fa_eq _ _).mp c14
      refine And.intro (t_in (by omega)) ?_
      intro v15 ev15
      have f16 := h_m_height aR.toNatClampNeg
      have hv15 := congrArg Int32.toInt ev15
      refine And.intro (t_in (by omega)) ?_
      intro v17 ev17
      have f19 := h_m_fork aE.toNatClampNeg
      have f18 : Int32.toInt (v15 - (pR aE.toNatClampNeg)) = Int32.toInt v15 - Int32.toInt (pR aE.toNatClampNeg) := ta_sub _ _ (by omega)
      rw [← ev17] at f18
      intro v20 ev20
      have f21 := ti_max (0 : Int32) v17
      have hv20 := congrArg Int32.toInt ev20
      exact hpost _ _ _ (by omega) (by omega) (by omega) (by omega)
    refine And.intro (fun c22 => ?_) ?_
    · skip
      have c22 := (fa_eq _ _).mp c22
      refine And.intro (t_in (by omega)) ?_
      exact hpost _ _ _ (by omega) (by omega) (by omega) (by omega)
    refine And.intro (fun c23 => ?_) ?_
    · skip
      have c23 := (fa_eq _ _).mp c23
      refine And.intro (t_in (by omega)) ?_
      exact hpost _ _ _ (by omega) (by omega) (by omega) (by omega)
    intro c24 c25 c26 c27 c28 c29
    have c24 := mt (fa_eq _ _).mpr c24
    have c25 := mt (fa_eq _ _).mpr c25
    have c26 := mt (fa_eq _ _).mpr c26
    have c27 := mt (fa_eq _ _).mpr c27
    have c28 := mt (fa_eq _ _).mpr c28
    have c29 := mt (fa_eq _ _).mpr c29
    exact hpost _ _ _ (by omega) (by omega) (by omega) (by omega)
set_option maxHeartbeats 8000000 in
set_option maxRecDepth 200000 in
theorem ts_X10_thing_67 {post : Int32 → Int32 → Int32 → Prop} {WT WH : TY_X10} {rn : Int} (hT : TT_X10_thing WT rn) (hH : TT_X10_held WH rn) {aAJ : Int32} (jY : Nat) (m_length qG dN aR aE bJ aW : Int32) (m_x jA pY oY pR rG rQ : Nat → Int32) (h_m_read : jY = 1 ∨ jY = 2) (h_m_length : 1 ≤ Int32.toInt m_length ∧ Int32.toInt m_length ≤ 80) (h_m_top : 40 ≤ Int32.toInt qG ∧ Int32.toInt qG ≤ 40) (h_m_isAsked : 0 ≤ Int32.toInt dN ∧ Int32.toInt dN ≤ 1) (h_m_askedFruit : 0 ≤ Int32.toInt aR ∧ Int32.toInt aR ≤ 15) (h_m_askedStanding : 0 ≤ Int32.toInt aE ∧ Int32.toInt aE ≤ 7) (h_m_askedHook : 0 ≤ Int32.toInt bJ ∧ Int32.toInt bJ ≤ 1) (h_m_askedApron : 0 ≤ Int32.toInt aW ∧ Int32.toInt aW ≤ 63) (h_m_x : ∀ k : Nat, 0 ≤ Int32.toInt (m_x k) ∧ Int32.toInt (m_x k) ≤ 99) (h_m_height : ∀ k : Nat, 0 ≤ Int32.toInt (jA k) ∧ Int32.toInt (jA k) ≤ 99) (h_m_worth : ∀ k : Nat, 0 ≤ Int32.toInt (pY k) ∧ Int32.toInt (pY k) ≤ 9) (h_m_foot : ∀ k : Nat, 0 ≤ Int32.toInt (oY k) ∧ Int32.toInt (oY k) ≤ 99) (h_m_fork : ∀ k : Nat, 0 ≤ Int32.toInt (pR k) ∧ Int32.toInt (pR k) ≤ 99) (h_m_text : ∀ k : Nat, -128 ≤ Int32.toInt (rG k) ∧ Int32.toInt (rG k) ≤ 127) (h_m_rule : ∀ k : Nat, -128 ≤ Int32.toInt (rQ k) ∧ Int32.toInt (rQ k) ≤ 127) (hc0 : jY = 2 → Int32.toInt qG ≤ 40) (hpost : ∀ (r : Int32) (m_at' : Int32) (m_wrong' : Int32), (0 ≤ Int32.toInt m_at' ∧ Int32.toInt m_at' ≤ 80) → (-1 ≤ Int32.toInt m_wrong' ∧ Int32.toInt m_wrong' ≤ 80) → (Int32.toInt aAJ ≤ Int32.toInt m_at') → (Int32.toInt m_at' ≤ Int32.toInt qG) → post r m_at' m_wrong') (x2 uW eY : Int32) (h_x2 : -1 ≤ Int32.toInt x2 ∧ Int32.toInt x2 ≤ 255) (h_m_at : 0 ≤ Int32.toInt uW ∧ Int32.toInt uW ≤ 80) (h_m_wrong : -1 ≤ Int32.toInt eY ∧ Int32.toInt eY ≤ -1) (hx0 : Int32.toInt uW ≤ Int32.toInt qG) (hx1 : Int32.toInt qG - Int32.toInt uW < rn + 1) (hx2 : Int32.toInt aAJ ≤ Int32.toInt uW) (hx3 : Int32.toInt x2 = -1 ∨ Int32.toInt uW < Int32.toInt qG) : ws_X10_thing_67 WT WH post jY m_length qG dN aR aE bJ aW m_x jA pY oY pR rG rQ x2 uW eY := by
  have l0 := li_m1
  have l1 := li_100
  have l2 := li_107
  have l3 := li_111
  have l4 := li_115
  have l5 := li_117
  have l6 := li_119
  have l7 := li_121
  have l8 := li_3
  have l9 := li_48
  have l10 := li_57
  refine And.intro (fun c30 => ?_) (fun c30 => ?_)
  · skip
    have c30 := (fa_lt _ _).mp c30
    refine And.intro (fun _ => ?_) (fun h9 => absurd h9 (by decide))
    refine And.intro (fun c31 => ?_) (fun c31 => ?_)
    · skip
      have c31 := (fa_eq _ _).mp c31
      exfalso; omega
    · skip
      have c31 := mt (fa_eq _ _).mpr c31
      refine And.intro (fun c32 => ?_) (fun c32 => ?_)
      · skip
        have c32 := (fa_eq _ _).mp c32
        exfalso; omega
      · skip
        have c32 := mt (fa_eq _ _).mpr c32
        refine And.intro (fun c33 => ?_) (fun c33 => ?_)
        · skip
          have c33 := (fa_eq _ _).mp c33
          exfalso; omega
        · skip
          have c33 := mt (fa_eq _ _).mpr c33
          refine And.intro (fun c34 => ?_) (fun c34 => ?_)
          · skip
            have c34 := (fa_eq _ _).mp c34
            exfalso; omega
          · skip
            have c34 := mt (fa_eq _ _).mpr c34
            refine And.intro (fun c35 => ?_) (fun c35 => ?_)
            · skip
              have c35 := (fa_eq _ _).mp c35
              exfalso; omega
            · skip
              have c35 := mt (fa_eq _ _).mpr c35
              refine And.intro (fun c36 => ?_) (fun c36 => ?_)
              · skip
                have c36 := (fa_eq _ _).mp c36
                exfalso; omega
              · skip
                have c36 := mt (fa_eq _ _).mpr c36
                refine And.intro (fun c37 => ?_) (fun c37 => ?_)
                · skip
                  have c37 := (fa_eq _ _).mp c37
                  exfalso; omega
                · skip
                  have c37 := mt (fa_eq _ _).mpr c37
                  refine And.intro (fun c38 => ?_) (fun c38 => ?_)
                  · skip
                    have c38 := mt (fa_eq _ _).mpr c38
                    exfalso; omega
                  · skip
                    have c38 := (fa_eq _ _).mp c38
                    refine And.intro (fun h9 => absurd h9 (by decide)) (fun _ => ?_)
                    exact hpost _ _ _ h_m_at (by omega) (by omega) (by omega)
  · skip
    have c30 := mt (fa_lt _ _).mpr c30
    refine And.intro (fun c39 => ?_) (fun c39 => ?_)
    · skip
      have c39 := (fa_lt _ _).mp c39
      refine And.intro (fun _ => ?_) (fun h9 => absurd h9 (by decide))
      refine And.intro (fun c40 => ?_) (fun c40 => ?_)
      · skip
        have c40 := (fa_eq _ _).mp c40
        exact ts_X10_thing_136 hT hH jY m_length qG dN aR aE bJ aW m_x jA pY oY pR rG rQ h_m_read h_m_length h_m_top h_m_isAsked h_m_askedFruit h_m_askedStanding h_m_askedHook h_m_askedApron h_m_x h_m_height h_m_worth h_m_foot h_m_fork h_m_text h_m_rule hc0 hpost x2 uW eY (by omega) h_m_at h_m_wrong hx0 hx1 hx2 (by omega)
      · skip
        have c40 := mt (fa_eq _ _).mpr c40
        refine And.intro (fun c41 => ?_) (fun c41 => ?_)
        · skip
          have c41 := (fa_eq _ _).mp c41
          exact ts_X10_thing_136 hT hH jY m_length qG dN aR aE bJ aW m_x jA pY oY pR rG rQ h_m_read h_m_length h_m_top h_m_isAsked h_m_askedFruit h_m_askedStanding h_m_askedHook h_m_askedApron h_m_x h_m_height h_m_worth h_m_foot h_m_fork h_m_text h_m_rule hc0 hpost x2 uW eY (by omega) h_m_at h_m_wrong hx0 hx1 hx2 (by omega)
        · skip
          have c41 := mt (fa_eq _ _).mpr c41
          refine And.intro (fun c42 => ?_) (fun c42 => ?_)
          · skip
            have c42 := (fa_eq _ _).mp c42
            exact ts_X10_thing_136 hT hH jY m_length qG dN aR aE bJ aW m_x jA pY oY pR rG rQ h_m_read h_m_length h_m_top h_m_isAsked h_m_askedFruit h_m_askedStanding h_m_askedHook h_m_askedApron h_m_x h_m_height h_m_worth h_m_foot h_m_fork h_m_text h_m_rule hc0 hpost x2 uW eY (by omega) h_m_at h_m_wrong hx0 hx1 hx2 (by omega)
          · skip
            have c42 := mt (fa_eq _ _).mpr c42
            refine And.intro (fun c43 => ?_) (fun c43 => ?_)
            · skip
              have c43 := (fa_eq _ _).mp c43
              exact ts_X10_thing_136 hT hH jY m_length qG dN aR aE bJ aW m_x jA pY oY pR rG rQ h_m_read h_m_length h_m_top h_m_isAsked h_m_askedFruit h_m_askedStanding h_m_askedHook h_m_askedApron h_m_x h_m_height h_m_worth h_m_foot h_m_fork h_m_text h_m_rule hc0 hpost x2 uW eY (by omega) h_m_at h_m_wrong hx0 hx1 hx2 (by omega)
            · skip
              have c43 := mt (fa_eq _ _).mpr c43
              refine And.intro (fun c44 => ?_) (fun c44 => ?_)
              · skip
                have c44 := (fa_eq _ _).mp c44
                exact ts_X10_thing_136 hT hH jY m_length qG dN aR aE bJ aW m_x jA pY oY pR rG rQ h_m_read h_m_length h_m_top h_m_isAsked h_m_askedFruit h_m_askedStanding h_m_askedHook h_m_askedApron h_m_x h_m_height h_m_worth h_m_foot h_m_fork h_m_text h_m_rule hc0 hpost x2 uW eY (by omega) h_m_at h_m_wrong hx0 hx1 hx2 (by omega)
              · skip
                have c44 := mt (fa_eq _ _).mpr c44
                refine And.intro (fun c45 => ?_) (fun c45 => ?_)
                · skip
                  have c45 := (fa_eq _ _).mp c45
                  exact ts_X10_thing_136 hT hH jY m_length qG dN aR aE bJ aW m_x jA pY oY pR rG rQ h_m_read h_m_length h_m_top h_m_isAsked h_m_askedFruit h_m_askedStanding h_m_askedHook h_m_askedApron h_m_x h_m_height h_m_worth h_m_foot h_m_fork h_m_text h_m_rule hc0 hpost x2 uW eY (by omega) h_m_at h_m_wrong hx0 hx1 hx2 (by omega)
                · skip
                  have c45 := mt (fa_eq _ _).mpr c45
                  refine And.intro (fun c46 => ?_) (fun c46 => ?_)
                  · skip
                    have c46 := (fa_eq _ _).mp c46
                    exact ts_X10_thing_136 hT hH jY m_length qG dN aR aE bJ aW m_x jA pY oY pR rG rQ h_m_read h_m_length h_m_top h_m_isAsked h_m_askedFruit h_m_askedStanding h_m_askedHook h_m_askedApron h_m_x h_m_height h_m_worth h_m_foot h_m_fork h_m_text h_m_rule hc0 hpost x2 uW eY (by omega) h_m_at h_m_wrong hx0 hx1 hx2 (by omega)
                  · skip
                    have c46 := mt (fa_eq _ _).mpr c46
                    refine And.intro (fun c47 => ?_) (fun c47 => ?_)
                    · skip
                      have c47 := mt (fa_eq _ _).mpr c47
                      exfalso; omega
                    · skip
                      have c47 := (fa_eq _ _).mp c47
                      refine And.intro (fun h9 => absurd h9 (by decide)) (fun _ => ?_)
                      exact hpost _ _ _ h_m_at (by omega) (by omega) (by omega)
    · skip
      have c39 := mt (fa_lt _ _).mpr c39
      refine And.intro (fun h9 => absurd h9 (by decide)) (fun _ => ?_)
      refine t_X10_number (by omega) h_m_read (by omega) (by omega) h_m_at (by omega) h_m_text h_m_rule (by omega) (fun r50 m_at_48 m_wrong_49 h_r50 h_m_at_48 h_m_wrong_49 ox51 ox52 ox53 ox54 => ?_)
      exact hpost _ _ _ h_m_at_48 h_m_wrong_49 (by omega) (by omega)
set_option maxHeartbeats 8000000 in
set_option maxRecDepth 200000 in
theorem t_X10_thing {post : Int32 → Int32 → Int32 → Prop} {WT WH : TY_X10} {rn : Int} (hT : TT_X10_thing WT rn) (hH : TT_X10_held WH rn) {p0 : Int32} {jY : Nat} {m_length qG uW eY dN aR aE bJ aW : Int32} {m_x jA pY oY pR rG rQ : Nat → Int32} (h_p0 : 0 ≤ Int32.toInt p0 ∧ Int32.toInt p0 ≤ 4) (h_m_read : jY = 1 ∨ jY = 2) (h_m_length : 1 ≤ Int32.toInt m_length ∧ Int32.toInt m_length ≤ 80) (h_m_top : 40 ≤ Int32.toInt qG ∧ Int32.toInt qG ≤ 40) (h_m_at : 0 ≤ Int32.toInt uW ∧ Int32.toInt uW ≤ 80) (h_m_wrong : -1 ≤ Int32.toInt eY ∧ Int32.toInt eY ≤ -1) (h_m_isAsked : 0 ≤ Int32.toInt dN ∧ Int32.toInt dN ≤ 1) (h_m_askedFruit : 0 ≤ Int32.toInt aR ∧ Int32.toInt aR ≤ 15) (h_m_askedStanding : 0 ≤ Int32.toInt aE ∧ Int32.toInt aE ≤ 7) (h_m_askedHook : 0 ≤ Int32.toInt bJ ∧ Int32.toInt bJ ≤ 1) (h_m_askedApron : 0 ≤ Int32.toInt aW ∧ Int32.toInt aW ≤ 63) (h_m_x : ∀ k : Nat, 0 ≤ Int32.toInt (m_x k) ∧ Int32.toInt (m_x k) ≤ 99) (h_m_height : ∀ k : Nat, 0 ≤ Int32.toInt (jA k) ∧ Int32.toInt (jA k) ≤ 99) (h_m_worth : ∀ k : Nat, 0 ≤ Int32.toInt (pY k) ∧ Int32.toInt (pY k) ≤ 9) (h_m_foot : ∀ k : Nat, 0 ≤ Int32.toInt (oY k) ∧ Int32.toInt (oY k) ≤ 99) (h_m_fork : ∀ k : Nat, 0 ≤ Int32.toInt (pR k) ∧ Int32.toInt (pR k) ≤ 99) (h_m_text : ∀ k : Nat, -128 ≤ Int32.toInt (rG k) ∧ Int32.toInt (rG k) ≤ 127) (h_m_rule : ∀ k : Nat, -128 ≤ Int32.toInt (rQ k) ∧ Int32.toInt (rQ k) ≤ 127) (hc0 : jY = 2 → Int32.toInt qG ≤ 40) (hx0 : Int32.toInt uW ≤ Int32.toInt qG) (hx1 : Int32.toInt qG - Int32.toInt uW < rn + 1) (hpost : ∀ (r : Int32) (m_at' : Int32) (m_wrong' : Int32), (0 ≤ Int32.toInt m_at' ∧ Int32.toInt m_at' ≤ 80) → (-1 ≤ Int32.toInt m_wrong' ∧ Int32.toInt m_wrong' ≤ 80) → (Int32.toInt uW ≤ Int32.toInt m_at') → (Int32.toInt m_at' ≤ Int32.toInt qG) → post r m_at' m_wrong') : wp_X10_thing WT WH post p0 jY m_length qG uW eY dN aR aE bJ aW m_x jA pY oY pR rG rQ := by
  have l0 := li_m1
  have l1 := li_1
  have l2 := li_4
  have l3 := li_40
  have l4 := li_41
  have l5 := li_45
  refine And.intro (fun c55 => ?_) (fun c55 => ?_)
  · skip
    have c55 := mt (fa_eq _ _).mpr c55
    exfalso; omega
  · skip
    have c55 := (fa_eq _ _).mp c55
    refine And.intro (fun h9 => absurd h9 (by decide)) (fun _ => ?_)
    refine t_X10_here h_m_read (by omega) (by omega) h_m_at h_m_text h_m_rule (by omega) (fun r56 h_r56 ox57 ox58 => ?_)
    refine And.intro (fun c59 => ?_) (fun c59 => ?_)
    · skip
      have c59 := (fa_eq _ _).mp c59
      intro v60 ev60
      have f61 : Int32.toInt (uW + 1) = Int32.toInt uW + Int32.toInt (1 : Int32) := ta_add _ _ (by omega)
      rw [← ev60] at f61
      refine And.intro (fun h9 => absurd h9 (by decide)) (fun _ => ?_)
      refine hT h_p0 h_m_read h_m_length h_m_top (by omega) h_m_wrong h_m_isAsked h_m_askedFruit h_m_askedStanding h_m_askedHook h_m_askedApron h_m_x h_m_height h_m_worth h_m_foot h_m_fork h_m_text h_m_rule (by omega) (by omega) (by omega) (fun r64 m_at_62 m_wrong_63 h_m_at_62 h_m_wrong_63 ox65 ox66 => ?_)
      exact hpost _ _ _ h_m_at_62 h_m_wrong_63 (by omega) (by omega)
    · skip
      have c59 := mt (fa_eq _ _).mpr c59
      refine And.intro (fun _ => ?_) (fun h9 => absurd h9 (by decide))
      refine And.intro (fun c67 => ?_) (fun c67 => ?_)
      · skip
        have c67 := mt (fa_eq _ _).mpr c67
        exfalso; omega
      · skip
        have c67 := (fa_eq _ _).mp c67
        refine And.intro (fun _ => ?_) (fun h9 => absurd h9 (by decide))
        refine t_X10_here h_m_read (by omega) (by omega) h_m_at h_m_text h_m_rule (by omega) (fun r68 h_r68 ox69 ox70 => ?_)
        refine And.intro (fun c71 => ?_) (fun c71 => ?_)
        · skip
          have c71 := mt (fa_eq _ _).mpr c71
          exact ts_X10_thing_67 hT hH jY m_length qG dN aR aE bJ aW m_x jA pY oY pR rG rQ h_m_read h_m_length h_m_top h_m_isAsked h_m_askedFruit h_m_askedStanding h_m_askedHook h_m_askedApron h_m_x h_m_height h_m_worth h_m_foot h_m_fork h_m_text h_m_rule hc0 hpost r68 uW eY h_r68 h_m_at h_m_wrong (by omega) (by omega) (by omega) (by omega)
        · skip
          have c71 := (fa_eq _ _).mp c71
          refine And.intro (fun c72 => ?_) (fun c72 => ?_)
          · skip
            have c72 := (fa_le _ _).mp c72
            exact ts_X10_thing_67 hT hH jY m_length qG dN aR aE bJ aW m_x jA pY oY pR rG rQ h_m_read h_m_length h_m_top h_m_isAsked h_m_askedFruit h_m_askedStanding h_m_askedHook h_m_askedApron h_m_x h_m_height h_m_worth h_m_foot h_m_fork h_m_text h_m_rule hc0 hpost r68 uW eY h_r68 h_m_at h_m_wrong (by omega) (by omega) (by omega) (by omega)
          · skip
            have c72 := mt (fa_le _ _).mpr c72
            intro v73 ev73
            have f74 : Int32.toInt (uW + 1) = Int32.toInt uW + Int32.toInt (1 : Int32) := ta_add _ _ (by omega)
            rw [← ev73] at f74
            intro v75 ev75
            have f76 : Int32.toInt (p0 + 1) = Int32.toInt p0 + Int32.toInt (1 : Int32) := ta_add _ _ (by omega)
            rw [← ev75] at f76
            refine hH (by omega) h_m_read h_m_length h_m_top (by omega) h_m_wrong h_m_isAsked h_m_askedFruit h_m_askedStanding h_m_askedHook h_m_askedApron h_m_x h_m_height h_m_worth h_m_foot h_m_fork h_m_text h_m_rule (by omega) (by omega) (by omega) (fun r79 m_at_77 m_wrong_78 h_m_at_77 h_m_wrong_78 ox80 ox81 => ?_)
            refine And.intro (fun c82 => ?_) (fun c82 => ?_)
            · skip
              have c82 := mt (fa_eq _ _).mpr c82
              refine And.intro (fun _ => ?_) (fun h9 => absurd h9 (by decide))
              refine And.intro (fun h9 => absurd h9 (by decide)) (fun _ => ?_)
              refine And.intro (fun c83 => ?_) (fun c83 => ?_)
              · skip
                have c83 := mt (fa_eq _ _).mpr c83
                refine And.intro (fun _ => ?_) (fun h9 => absurd h9 (by decide))
                exact hpost _ _ _ h_m_at_77 h_m_wrong_78 (by omega) (by omega)
              · skip
                have c83 := (fa_eq _ _).mp c83
                exfalso; omega
            · skip
              have c82 := (fa_eq _ _).mp c82
              refine And.intro (fun h9 => absurd h9 (by decide)) (fun _ => ?_)
              refine t_X10_here h_m_read (by omega) (by omega) h_m_at_77 h_m_text h_m_rule (by omega) (fun r84 h_r84 ox85 ox86 => ?_)
              refine And.intro (fun c87 => ?_) (fun c87 => ?_)
              · skip
                have c87 := (fa_eq _ _).mp c87
                intro v88 ev88
                have f89 : Int32.toInt (m_at_77 + 1) = Int32.toInt m_at_77 + Int32.toInt (1 : Int32) := ta_add _ _ (by omega)
                rw [← ev88] at f89
                refine And.intro (fun _ => ?_) (fun h9 => absurd h9 (by decide))
                exact hpost _ _ _ (by omega) h_m_wrong_78 (by omega) (by omega)
              · skip
                have c87 := mt (fa_eq _ _).mpr c87
                refine And.intro (fun h9 => absurd h9 (by decide)) (fun _ => ?_)
                refine And.intro (fun c90 => ?_) (fun c90 => ?_)
                · skip
                  have c90 := mt (fa_eq _ _).mpr c90
                  exfalso; omega
                · skip
                  have c90 := (fa_eq _ _).mp c90
                  refine And.intro (fun h9 => absurd h9 (by decide)) (fun _ => ?_)
                  exact hpost _ _ _ h_m_at_77 (by omega) (by omega) (by omega)
set_option maxHeartbeats 8000000 in
set_option maxRecDepth 200000 in
theorem ts_X10_product_87 {post : Int32 → Int32 → Int32 → Prop} {WT WH : TY_X10} {rn : Int} (hT : TT_X10_thing WT rn) (hH : TT_X10_held WH rn) {aAJ : Int32} {K6 : Int32 → Int32 → Int32 → Int32 → Prop} {n6 : Int} (jY : Nat) (m_length qG dN aR aE bJ aW : Int32) (m_x jA pY oY pR rG rQ : Nat → Int32) (h_m_read : jY = 1 ∨ jY = 2) (h_m_length : 1 ≤ Int32.toInt m_length ∧ Int32.toInt m_length ≤ 80) (h_m_top : 40 ≤ Int32.toInt qG ∧ Int32.toInt qG ≤ 40) (h_m_isAsked : 0 ≤ Int32.toInt dN ∧ Int32.toInt dN ≤ 1) (h_m_askedFruit : 0 ≤ Int32.toInt aR ∧ Int32.toInt aR ≤ 15) (h_m_askedStanding : 0 ≤ Int32.toInt aE ∧ Int32.toInt aE ≤ 7) (h_m_askedHook : 0 ≤ Int32.toInt bJ ∧ Int32.toInt bJ ≤ 1) (h_m_askedApron : 0 ≤ Int32.toInt aW ∧ Int32.toInt aW ≤ 63) (h_m_x : ∀ k : Nat, 0 ≤ Int32.toInt (m_x k) ∧ Int32.toInt (m_x k) ≤ 99) (h_m_height : ∀ k : Nat, 0 ≤ Int32.toInt (jA k) ∧ Int32.toInt (jA k) ≤ 99) (h_m_worth : ∀ k : Nat, 0 ≤ Int32.toInt (pY k) ∧ Int32.toInt (pY k) ≤ 9) (h_m_foot : ∀ k : Nat, 0 ≤ Int32.toInt (oY k) ∧ Int32.toInt (oY k) ≤ 99) (h_m_fork : ∀ k : Nat, 0 ≤ Int32.toInt (pR k) ∧ Int32.toInt (pR k) ≤ 99) (h_m_text : ∀ k : Nat, -128 ≤ Int32.toInt (rG k) ∧ Int32.toInt (rG k) ≤ 127) (h_m_rule : ∀ k : Nat, -128 ≤ Int32.toInt (rQ k) ∧ Int32.toInt (rQ k) ≤ 127) (hc0 : jY = 2 → Int32.toInt qG ≤ 40) (hpost : ∀ (r : Int32) (m_at' : Int32) (m_wrong' : Int32), (0 ≤ Int32.toInt m_at' ∧ Int32.toInt m_at' ≤ 80) → (-1 ≤ Int32.toInt m_wrong' ∧ Int32.toInt m_wrong' ≤ 80) → (Int32.toInt aAJ ≤ Int32.toInt m_at') → (Int32.toInt m_at' ≤ Int32.toInt qG) → post r m_at' m_wrong') (hK6 : ∀ (x1 : Int32) (x2 : Int32) (uW : Int32) (eY : Int32), (0 ≤ Int32.toInt x1 ∧ Int32.toInt x1 ≤ 4) → (0 ≤ Int32.toInt uW ∧ Int32.toInt uW ≤ 80) → (-1 ≤ Int32.toInt eY ∧ Int32.toInt eY ≤ 80) → (Int32.toInt uW ≤ Int32.toInt qG) → (Int32.toInt qG - Int32.toInt uW < rn + 1) → (Int32.toInt aAJ ≤ Int32.toInt uW) → (Int32.toInt qG - Int32.toInt uW < n6) → K6 x1 x2 uW eY) (x1 k0 uW eY : Int32) (h_x1 : 0 ≤ Int32.toInt x1 ∧ Int32.toInt x1 ≤ 4) (h_m_at : 0 ≤ Int32.toInt uW ∧ Int32.toInt uW ≤ 80) (h_m_wrong : -1 ≤ Int32.toInt eY ∧ Int32.toInt eY ≤ 80) (hx0 : Int32.toInt uW ≤ Int32.toInt qG) (hx1 : Int32.toInt qG - Int32.toInt uW < rn + 1) (hx2 : Int32.toInt aAJ ≤ Int32.toInt uW) (hx3 : Int32.toInt qG - Int32.toInt uW < n6) (hn6 : Int32.toInt qG - Int32.toInt uW ≤ n6) : ws_X10_product_87 WT WH post K6 jY m_length qG dN aR aE bJ aW m_x jA pY oY pR rG rQ x1 k0 uW eY := by
  have f1 := tp_r k0
  exact hK6 x1 k0 uW eY h_x1 h_m_at h_m_wrong hx0 hx1 hx2 (by omega)
set_option maxHeartbeats 8000000 in
set_option maxRecDepth 200000 in
theorem ts_X10_product_45 {post : Int32 → Int32 → Int32 → Prop} {WT WH : TY_X10} {rn : Int} (hT : TT_X10_thing WT rn) (hH : TT_X10_held WH rn) {aAJ : Int32} {K6 : Int32 → Int32 → Int32 → Int32 → Prop} {n6 : Int} (jY : Nat) (m_length qG dN aR aE bJ aW : Int32) (m_x jA pY oY pR rG rQ : Nat → Int32) (h_m_read : jY = 1 ∨ jY = 2) (h_m_length : 1 ≤ Int32.toInt m_length ∧ Int32.toInt m_length ≤ 80) (h_m_top : 40 ≤ Int32.toInt qG ∧ Int32.toInt qG ≤ 40) (h_m_isAsked : 0 ≤ Int32.toInt dN ∧ Int32.toInt dN ≤ 1) (h_m_askedFruit : 0 ≤ Int32.toInt aR ∧ Int32.toInt aR ≤ 15) (h_m_askedStanding : 0 ≤ Int32.toInt aE ∧ Int32.toInt aE ≤ 7) (h_m_askedHook : 0 ≤ Int32.toInt bJ ∧ Int32.toInt bJ ≤ 1) (h_m_askedApron : 0 ≤ Int32.toInt aW ∧ Int32.toInt aW ≤ 63) (h_m_x : ∀ k : Nat, 0 ≤ Int32.toInt (m_x k) ∧ Int32.toInt (m_x k) ≤ 99) (h_m_height : ∀ k : Nat, 0 ≤ Int32.toInt (jA k) ∧ Int32.toInt (jA k) ≤ 99) (h_m_worth : ∀ k : Nat, 0 ≤ Int32.toInt (pY k) ∧ Int32.toInt (pY k) ≤ 9) (h_m_foot : ∀ k : Nat, 0 ≤ Int32.toInt (oY k) ∧ Int32.toInt (oY k) ≤ 99) (h_m_fork : ∀ k : Nat, 0 ≤ Int32.toInt (pR k) ∧ Int32.toInt (pR k) ≤ 99) (h_m_text : ∀ k : Nat, -128 ≤ Int32.toInt (rG k) ∧ Int32.toInt (rG k) ≤ 127) (h_m_rule : ∀ k : Nat, -128 ≤ Int32.toInt (rQ k) ∧ Int32.toInt (rQ k) ≤ 127) (hc0 : jY = 2 → Int32.toInt qG ≤ 40) (hpost : ∀ (r : Int32) (m_at' : Int32) (m_wrong' : Int32), (0 ≤ Int32.toInt m_at' ∧ Int32.toInt m_at' ≤ 80) → (-1 ≤ Int32.toInt m_wrong' ∧ Int32.toInt m_wrong' ≤ 80) → (Int32.toInt aAJ ≤ Int32.toInt m_at') → (Int32.toInt m_at' ≤ Int32.toInt qG) → post r m_at' m_wrong') (hK6 : ∀ (x1 : Int32) (x2 : Int32) (uW : Int32) (eY : Int32), (0 ≤ Int32.toInt x1 ∧ Int32.toInt x1 ≤ 4) → (0 ≤ Int32.toInt uW ∧ Int32.toInt uW ≤ 80) → (-1 ≤ Int32.toInt eY ∧ Int32.toInt eY ≤ 80) → (Int32.toInt uW ≤ Int32.toInt qG) → (Int32.toInt qG - Int32.toInt uW < rn + 1) → (Int32.toInt aAJ ≤ Int32.toInt uW) → (Int32.toInt qG - Int32.toInt uW < n6) → K6 x1 x2 uW eY) (x1 x2 k0 uW eY : Int32) (h_x1 : 0 ≤ Int32.toInt x1 ∧ Int32.toInt x1 ≤ 4) (h_k0 : 0 ≤ Int32.toInt k0 ∧ Int32.toInt k0 ≤ 1) (h_m_at : 0 ≤ Int32.toInt uW ∧ Int32.toInt uW ≤ 80) (h_m_wrong : -1 ≤ Int32.toInt eY ∧ Int32.toInt eY ≤ -1) (hx0 : Int32.toInt uW ≤ Int32.toInt qG) (hx1 : Int32.toInt qG - Int32.toInt uW < rn + 1) (hx2 : Int32.toInt aAJ ≤ Int32.toInt uW) (hx3 : Int32.toInt uW < Int32.toInt qG) (hn6 : Int32.toInt qG - Int32.toInt uW ≤ n6) : ws_X10_product_45 WT WH post K6 jY m_length qG dN aR aE bJ aW m_x jA pY oY pR rG rQ x1 x2 k0 uW eY := by
  have l0 := li_0
  have l1 := li_1
  intro v2 ev2
  have f3 : Int32.toInt (uW + 1) = Int32.toInt uW + Int32.toInt (1 : Int32) := ta_add _ _ (by omega)
  rw [← ev2] at f3
  refine t_X10_thing hT hH h_x1 h_m_read h_m_length h_m_top (by omega) h_m_wrong h_m_isAsked h_m_askedFruit h_m_askedStanding h_m_askedHook h_m_askedApron h_m_x h_m_height h_m_worth h_m_foot h_m_fork h_m_text h_m_rule (by omega) (by omega) (by omega) (fun r6 aAU yX h_m_at_4 h_m_wrong_5 ox7 ox8 => ?_)
  refine And.intro (fun c9 => ?_) (fun c9 => ?_)
  · skip
    have c9 := (fa_eq _ _).mp c9
    have f11 := tp_r r6
    refine And.intro (fun c10 => ?_) (fun c10 => ?_)
    · skip
      have c10 := mt (fa_eq _ _).mpr c10
      refine And.intro (mt (fa_eq _ _).mp (by omega)) ?_
      intro v12 ev12
      have f13 := tp_r v12
      exact ts_X10_product_87 hT hH jY m_length qG dN aR aE bJ aW m_x jA pY oY pR rG rQ h_m_read h_m_length h_m_top h_m_isAsked h_m_askedFruit h_m_askedStanding h_m_askedHook h_m_askedApron h_m_x h_m_height h_m_worth h_m_foot h_m_fork h_m_text h_m_rule hc0 hpost hK6 x1 v12 aAU yX h_x1 h_m_at_4 h_m_wrong_5 (by omega) (by omega) (by omega) (by omega) (by omega)
    · skip
      have c10 := (fa_eq _ _).mp c10
      exact ts_X10_product_87 hT hH jY m_length qG dN aR aE bJ aW m_x jA pY oY pR rG rQ h_m_read h_m_length h_m_top h_m_isAsked h_m_askedFruit h_m_askedStanding h_m_askedHook h_m_askedApron h_m_x h_m_height h_m_worth h_m_foot h_m_fork h_m_text h_m_rule hc0 hpost hK6 x1 0 aAU yX h_x1 h_m_at_4 h_m_wrong_5 (by omega) (by omega) (by omega) (by omega) (by omega)
  · skip
    have c9 := mt (fa_eq _ _).mpr c9
    intro v14 ev14
    have hv14 := congrArg Int32.toInt ev14
    have f16 := tp_r v14
    exact ts_X10_product_87 hT hH jY m_length qG dN aR aE bJ aW m_x jA pY oY pR rG rQ h_m_read h_m_length h_m_top h_m_isAsked h_m_askedFruit h_m_askedStanding h_m_askedHook h_m_askedApron h_m_x h_m_height h_m_worth h_m_foot h_m_fork h_m_text h_m_rule hc0 hpost hK6 x1 v14 aAU yX h_x1 h_m_at_4 h_m_wrong_5 (by omega) (by omega) (by omega) (by omega) (by omega)
set_option maxHeartbeats 8000000 in
set_option maxRecDepth 200000 in
theorem ts_X10_product_31 {post : Int32 → Int32 → Int32 → Prop} {WT WH : TY_X10} {rn : Int} (hT : TT_X10_thing WT rn) (hH : TT_X10_held WH rn) {aAJ : Int32} {K6 : Int32 → Int32 → Int32 → Int32 → Prop} {n6 : Int} (jY : Nat) (m_length qG dN aR aE bJ aW : Int32) (m_x jA pY oY pR rG rQ : Nat → Int32) (h_m_read : jY = 1 ∨ jY = 2) (h_m_length : 1 ≤ Int32.toInt m_length ∧ Int32.toInt m_length ≤ 80) (h_m_top : 40 ≤ Int32.toInt qG ∧ Int32.toInt qG ≤ 40) (h_m_isAsked : 0 ≤ Int32.toInt dN ∧ Int32.toInt dN ≤ 1) (h_m_askedFruit : 0 ≤ Int32.toInt aR ∧ Int32.toInt aR ≤ 15) (h_m_askedStanding : 0 ≤ Int32.toInt aE ∧ Int32.toInt aE ≤ 7) (h_m_askedHook : 0 ≤ Int32.toInt bJ ∧ Int32.toInt bJ ≤ 1) (h_m_askedApron : 0 ≤ Int32.toInt aW ∧ Int32.toInt aW ≤ 63) (h_m_x : ∀ k : Nat, 0 ≤ Int32.toInt (m_x k) ∧ Int32.toInt (m_x k) ≤ 99) (h_m_height : ∀ k : Nat, 0 ≤ Int32.toInt (jA k) ∧ Int32.toInt (jA k) ≤ 99) (h_m_worth : ∀ k : Nat, 0 ≤ Int32.toInt (pY k) ∧ Int32.toInt (pY k) ≤ 9) (h_m_foot : ∀ k : Nat, 0 ≤ Int32.toInt (oY k) ∧ Int32.toInt (oY k) ≤ 99) (h_m_fork : ∀ k : Nat, 0 ≤ Int32.toInt (pR k) ∧ Int32.toInt (pR k) ≤ 99) (h_m_text : ∀ k : Nat, -128 ≤ Int32.toInt (rG k) ∧ Int32.toInt (rG k) ≤ 127) (h_m_rule : ∀ k : Nat, -128 ≤ Int32.toInt (rQ k) ∧ Int32.toInt (rQ k) ≤ 127) (hc0 : jY = 2 → Int32.toInt qG ≤ 40) (hpost : ∀ (r : Int32) (m_at' : Int32) (m_wrong' : Int32), (0 ≤ Int32.toInt m_at' ∧ Int32.toInt m_at' ≤ 80) → (-1 ≤ Int32.toInt m_wrong' ∧ Int32.toInt m_wrong' ≤ 80) → (Int32.toInt aAJ ≤ Int32.toInt m_at') → (Int32.toInt m_at' ≤ Int32.toInt qG) → post r m_at' m_wrong') (hK6 : ∀ (x1 : Int32) (x2 : Int32) (uW : Int32) (eY : Int32), (0 ≤ Int32.toInt x1 ∧ Int32.toInt x1 ≤ 4) → (0 ≤ Int32.toInt uW ∧ Int32.toInt uW ≤ 80) → (-1 ≤ Int32.toInt eY ∧ Int32.toInt eY ≤ 80) → (Int32.toInt uW ≤ Int32.toInt qG) → (Int32.toInt qG - Int32.toInt uW < rn + 1) → (Int32.toInt aAJ ≤ Int32.toInt uW) → (Int32.toInt qG - Int32.toInt uW < n6) → K6 x1 x2 uW eY) (x1 x2 uW eY : Int32) (h_x1 : 0 ≤ Int32.toInt x1 ∧ Int32.toInt x1 ≤ 4) (h_m_at : 0 ≤ Int32.toInt uW ∧ Int32.toInt uW ≤ 80) (h_m_wrong : -1 ≤ Int32.toInt eY ∧ Int32.toInt eY ≤ -1) (hx0 : Int32.toInt uW ≤ Int32.toInt qG) (hx1 : Int32.toInt qG - Int32.toInt uW < rn + 1) (hx2 : Int32.toInt aAJ ≤ Int32.toInt uW) (hx3 : Int32.toInt uW < Int32.toInt qG) (hn6 : Int32.toInt qG - Int32.toInt uW ≤ n6) : ws_X10_product_31 WT WH post K6 jY m_length qG dN aR aE bJ aW m_x jA pY oY pR rG rQ x1 x2 uW eY := by
  have l0 := li_0
  have l1 := li_1
  have l2 := li_42
  refine t_X10_here h_m_read (by omega) (by omega) h_m_at h_m_text h_m_rule (by omega) (fun r17 h_r17 ox18 ox19 => ?_)
  refine And.intro (fun c20 => ?_) (fun c20 => ?_)
  · skip
    have c20 := mt (fa_eq _ _).mpr c20
    have f21 := tp_r x2
    exact ts_X10_product_45 hT hH jY m_length qG dN aR aE bJ aW m_x jA pY oY pR rG rQ h_m_read h_m_length h_m_top h_m_isAsked h_m_askedFruit h_m_askedStanding h_m_askedHook h_m_askedApron h_m_x h_m_height h_m_worth h_m_foot h_m_fork h_m_text h_m_rule hc0 hpost hK6 x1 x2 0 uW eY h_x1 (by omega) h_m_at h_m_wrong hx0 hx1 hx2 hx3 hn6
  · skip
    have c20 := (fa_eq _ _).mp c20
    have f22 := tp_r x2
    exact ts_X10_product_45 hT hH jY m_length qG dN aR aE bJ aW m_x jA pY oY pR rG rQ h_m_read h_m_length h_m_top h_m_isAsked h_m_askedFruit h_m_askedStanding h_m_askedHook h_m_askedApron h_m_x h_m_height h_m_worth h_m_foot h_m_fork h_m_text h_m_rule hc0 hpost hK6 x1 x2 1 uW eY h_x1 (by omega) h_m_at h_m_wrong hx0 hx1 hx2 hx3 hn6
set_option maxHeartbeats 8000000 in
set_option maxRecDepth 200000 in
theorem ts_X10_product_6 {post : Int32 → Int32 → Int32 → Prop} {WT WH : TY_X10} {rn : Int} (hT : TT_X10_thing WT rn) (hH : TT_X10_held WH rn) {aAJ : Int32} {next : Int32 → Int32 → Int32 → Int32 → Prop} {n6 : Int} (jY : Nat) (m_length qG dN aR aE bJ aW : Int32) (m_x jA pY oY pR rG rQ : Nat → Int32) (h_m_read : jY = 1 ∨ jY = 2) (h_m_length : 1 ≤ Int32.toInt m_length ∧ Int32.toInt m_length ≤ 80) (h_m_top : 40 ≤ Int32.toInt qG ∧ Int32.toInt qG ≤ 40) (h_m_isAsked : 0 ≤ Int32.toInt dN ∧ Int32.toInt dN ≤ 1) (h_m_askedFruit : 0 ≤ Int32.toInt aR ∧ Int32.toInt aR ≤ 15) (h_m_askedStanding : 0 ≤ Int32.toInt aE ∧ Int32.toInt aE ≤ 7) (h_m_askedHook : 0 ≤ Int32.toInt bJ ∧ Int32.toInt bJ ≤ 1) (h_m_askedApron : 0 ≤ Int32.toInt aW ∧ Int32.toInt aW ≤ 63) (h_m_x : ∀ k : Nat, 0 ≤ Int32.toInt (m_x k) ∧ Int32.toInt (m_x k) ≤ 99) (h_m_height : ∀ k : Nat, 0 ≤ Int32.toInt (jA k) ∧ Int32.toInt (jA k) ≤ 99) (h_m_worth : ∀ k : Nat, 0 ≤ Int32.toInt (pY k) ∧ Int32.toInt (pY k) ≤ 9) (h_m_foot : ∀ k : Nat, 0 ≤ Int32.toInt (oY k) ∧ Int32.toInt (oY k) ≤ 99) (h_m_fork : ∀ k : Nat, 0 ≤ Int32.toInt (pR k) ∧ Int32.toInt (pR k) ≤ 99) (h_m_text : ∀ k : Nat, -128 ≤ Int32.toInt (rG k) ∧ Int32.toInt (rG k) ≤ 127) (h_m_rule : ∀ k : Nat, -128 ≤ Int32.toInt (rQ k) ∧ Int32.toInt (rQ k) ≤ 127) (hc0 : jY = 2 → Int32.toInt qG ≤ 40) (hpost : ∀ (r : Int32) (m_at' : Int32) (m_wrong' : Int32), (0 ≤ Int32.toInt m_at' ∧ Int32.toInt m_at' ≤ 80) → (-1 ≤ Int32.toInt m_wrong' ∧ Int32.toInt m_wrong' ≤ 80) → (Int32.toInt aAJ ≤ Int32.toInt m_at') → (Int32.toInt m_at' ≤ Int32.toInt qG) → post r m_at' m_wrong') (hKn : ∀ (x1 : Int32) (x2 : Int32) (uW : Int32) (eY : Int32), (0 ≤ Int32.toInt x1 ∧ Int32.toInt x1 ≤ 4) → (0 ≤ Int32.toInt uW ∧ Int32.toInt uW ≤ 80) → (-1 ≤ Int32.toInt eY ∧ Int32.toInt eY ≤ 80) → (Int32.toInt uW ≤ Int32.toInt qG) → (Int32.toInt qG - Int32.toInt uW < rn + 1) → (Int32.toInt aAJ ≤ Int32.toInt uW) → (Int32.toInt qG - Int32.toInt uW < n6) → next x1 x2 uW eY) (x1 x2 uW eY : Int32) (h_x1 : 0 ≤ Int32.toInt x1 ∧ Int32.toInt x1 ≤ 4) (h_m_at : 0 ≤ Int32.toInt uW ∧ Int32.toInt uW ≤ 80) (h_m_wrong : -1 ≤ Int32.toInt eY ∧ Int32.toInt eY ≤ 80) (hx0 : Int32.toInt uW ≤ Int32.toInt qG) (hx1 : Int32.toInt qG - Int32.toInt uW < rn + 1) (hx2 : Int32.toInt aAJ ≤ Int32.toInt uW) (hn6 : Int32.toInt qG - Int32.toInt uW ≤ n6) : ws_X10_product_6 WT WH post next jY m_length qG dN aR aE bJ aW m_x jA pY oY pR rG rQ x1 x2 uW eY := by
  have l0 := li_m1
  have l1 := li_42
  have l2 := li_47
  refine And.intro (fun c23 => ?_) (fun c23 => ?_)
  · skip
    have c23 := mt (fa_eq _ _).mpr c23
    refine And.intro (fun _ => ?_) (fun h9 => absurd h9 (by decide))
    exact hpost _ _ _ h_m_at h_m_wrong (by omega) (by omega)
  · skip
    have c23 := (fa_eq _ _).mp c23
    refine And.intro (fun h9 => absurd h9 (by decide)) (fun _ => ?_)
    refine t_X10_here h_m_read (by omega) (by omega) h_m_at h_m_text h_m_rule (by omega) (fun r24 h_r24 ox25 ox26 => ?_)
    refine And.intro (fun c27 => ?_) (fun c27 => ?_)
    · skip
      have c27 := (fa_eq _ _).mp c27
      have f28 := tp_r x2
      exact ts_X10_product_31 hT hH jY m_length qG dN aR aE bJ aW m_x jA pY oY pR rG rQ h_m_read h_m_length h_m_top h_m_isAsked h_m_askedFruit h_m_askedStanding h_m_askedHook h_m_askedApron h_m_x h_m_height h_m_worth h_m_foot h_m_fork h_m_text h_m_rule hc0 hpost hKn x1 x2 uW eY h_x1 h_m_at (by omega) hx0 hx1 hx2 (by omega) hn6
    · skip
      have c27 := mt (fa_eq _ _).mpr c27
      refine t_X10_here h_m_read (by omega) (by omega) h_m_at h_m_text h_m_rule (by omega) (fun r29 h_r29 ox30 ox31 => ?_)
      refine And.intro (fun c32 => ?_) (fun c32 => ?_)
      · skip
        have c32 := mt (fa_eq _ _).mpr c32
        exact hpost _ _ _ h_m_at h_m_wrong (by omega) (by omega)
      · skip
        have c32 := (fa_eq _ _).mp c32
        have f33 := tp_r x2
        exact ts_X10_product_31 hT hH jY m_length qG dN aR aE bJ aW m_x jA pY oY pR rG rQ h_m_read h_m_length h_m_top h_m_isAsked h_m_askedFruit h_m_askedStanding h_m_askedHook h_m_askedApron h_m_x h_m_height h_m_worth h_m_foot h_m_fork h_m_text h_m_rule hc0 hpost hKn x1 x2 uW eY h_x1 h_m_at (by omega) hx0 hx1 hx2 (by omega) hn6
set_option maxHeartbeats 8000000 in
set_option maxRecDepth 200000 in
theorem tb_X10_product_6 {post : Int32 → Int32 → Int32 → Prop} {WT WH : TY_X10} {rn : Int} (hT : TT_X10_thing WT rn) (hH : TT_X10_held WH rn) {aAJ : Int32} (jY : Nat) (m_length qG dN aR aE bJ aW : Int32) (m_x jA pY oY pR rG rQ : Nat → Int32) (h_m_read : jY = 1 ∨ jY = 2) (h_m_length : 1 ≤ Int32.toInt m_length ∧ Int32.toInt m_length ≤ 80) (h_m_top : 40 ≤ Int32.toInt qG ∧ Int32.toInt qG ≤ 40) (h_m_isAsked : 0 ≤ Int32.toInt dN ∧ Int32.toInt dN ≤ 1) (h_m_askedFruit : 0 ≤ Int32.toInt aR ∧ Int32.toInt aR ≤ 15) (h_m_askedStanding : 0 ≤ Int32.toInt aE ∧ Int32.toInt aE ≤ 7) (h_m_askedHook : 0 ≤ Int32.toInt bJ ∧ Int32.toInt bJ ≤ 1) (h_m_askedApron : 0 ≤ Int32.toInt aW ∧ Int32.toInt aW ≤ 63) (h_m_x : ∀ k : Nat, 0 ≤ Int32.toInt (m_x k) ∧ Int32.toInt (m_x k) ≤ 99) (h_m_height : ∀ k : Nat, 0 ≤ Int32.toInt (jA k) ∧ Int32.toInt (jA k) ≤ 99) (h_m_worth : ∀ k : Nat, 0 ≤ Int32.toInt (pY k) ∧ Int32.toInt (pY k) ≤ 9) (h_m_foot : ∀ k : Nat, 0 ≤ Int32.toInt (oY k) ∧ Int32.toInt (oY k) ≤ 99) (h_m_fork : ∀ k : Nat, 0 ≤ Int32.toInt (pR k) ∧ Int32.toInt (pR k) ≤ 99) (h_m_text : ∀ k : Nat, -128 ≤ Int32.toInt (rG k) ∧ Int32.toInt (rG k) ≤ 127) (h_m_rule : ∀ k : Nat, -128 ≤ Int32.toInt (rQ k) ∧ Int32.toInt (rQ k) ≤ 127) (hc0 : jY = 2 → Int32.toInt qG ≤ 40) (hpost : ∀ (r : Int32) (m_at' : Int32) (m_wrong' : Int32), (0 ≤ Int32.toInt m_at' ∧ Int32.toInt m_at' ≤ 80) → (-1 ≤ Int32.toInt m_wrong' ∧ Int32.toInt m_wrong' ≤ 80) → (Int32.toInt aAJ ≤ Int32.toInt m_at') → (Int32.toInt m_at' ≤ Int32.toInt qG) → post r m_at' m_wrong') : ∀ (n : Nat) (x1 x2 uW eY : Int32), (0 ≤ Int32.toInt x1 ∧ Int32.toInt x1 ≤ 4) → (0 ≤ Int32.toInt uW ∧ Int32.toInt uW ≤ 80) → (-1 ≤ Int32.toInt eY ∧ Int32.toInt eY ≤ 80) → (Int32.toInt uW ≤ Int32.toInt qG) → (Int32.toInt qG - Int32.toInt uW < rn + 1) → (Int32.toInt aAJ ≤ Int32.toInt uW) → (Int32.toInt qG - Int32.toInt uW < (n : Int)) → wb_X10_product_6 WT WH post jY m_length qG dN aR aE bJ aW m_x jA pY oY pR rG rQ n x1 x2 uW eY := by
  intro n
  induction n with
  | zero =>
    intro x1 x2 uW eY h_x1 h_m_at h_m_wrong hx0 hx1 hx2 hm
    exfalso; omega
  | succ n ih =>
    intro x1 x2 uW eY h_x1 h_m_at h_m_wrong hx0 hx1 hx2 hm
    exact ts_X10_product_6 hT hH jY m_length qG dN aR aE bJ aW m_x jA pY oY pR rG rQ h_m_read h_m_length h_m_top h_m_isAsked h_m_askedFruit h_m_askedStanding h_m_askedHook h_m_askedApron h_m_x h_m_height h_m_worth h_m_foot h_m_fork h_m_text h_m_rule hc0 hpost ih x1 x2 uW eY h_x1 h_m_at h_m_wrong hx0 hx1 hx2 (by omega)
set_option maxHeartbeats 8000000 in
set_option maxRecDepth 200000 in
theorem t_X10_product {post : Int32 → Int32 → Int32 → Prop} {WT WH : TY_X10} {rn : Int} (hT : TT_X10_thing WT rn) (hH : TT_X10_held WH rn) {p0 : Int32} {jY : Nat} {m_length qG uW eY dN aR aE bJ aW : Int32} {m_x jA pY oY pR rG rQ : Nat → Int32} (h_p0 : 0 ≤ Int32.toInt p0 ∧ Int32.toInt p0 ≤ 4) (h_m_read : jY = 1 ∨ jY = 2) (h_m_length : 1 ≤ Int32.toInt m_length ∧ Int32.toInt m_length ≤ 80) (h_m_top : 40 ≤ Int32.toInt qG ∧ Int32.toInt qG ≤ 40) (h_m_at : 0 ≤ Int32.toInt uW ∧ Int32.toInt uW ≤ 80) (h_m_wrong : -1 ≤ Int32.toInt eY ∧ Int32.toInt eY ≤ -1) (h_m_isAsked : 0 ≤ Int32.toInt dN ∧ Int32.toInt dN ≤ 1) (h_m_askedFruit : 0 ≤ Int32.toInt aR ∧ Int32.toInt aR ≤ 15) (h_m_askedStanding : 0 ≤ Int32.toInt aE ∧ Int32.toInt aE ≤ 7) (h_m_askedHook : 0 ≤ Int32.toInt bJ ∧ Int32.toInt bJ ≤ 1) (h_m_askedApron : 0 ≤ Int32.toInt aW ∧ Int32.toInt aW ≤ 63) (h_m_x : ∀ k : Nat, 0 ≤ Int32.toInt (m_x k) ∧ Int32.toInt (m_x k) ≤ 99) (h_m_height : ∀ k : Nat, 0 ≤ Int32.toInt (jA k) ∧ Int32.toInt (jA k) ≤ 99) (h_m_worth : ∀ k : Nat, 0 ≤ Int32.toInt (pY k) ∧ Int32.toInt (pY k) ≤ 9) (h_m_foot : ∀ k : Nat, 0 ≤ Int32.toInt (oY k) ∧ Int32.toInt (oY k) ≤ 99) (h_m_fork : ∀ k : Nat, 0 ≤ Int32.toInt (pR k) ∧ Int32.toInt (pR k) ≤ 99) (h_m_text : ∀ k : Nat, -128 ≤ Int32.toInt (rG k) ∧ Int32.toInt (rG k) ≤ 127) (h_m_rule : ∀ k : Nat, -128 ≤ Int32.toInt (rQ k) ∧ Int32.toInt (rQ k) ≤ 127) (hc0 : jY = 2 → Int32.toInt qG ≤ 40) (hx0 : Int32.toInt uW ≤ Int32.toInt qG) (hx1 : Int32.toInt qG - Int32.toInt uW < rn + 1) (hpost : ∀ (r : Int32) (m_at' : Int32) (m_wrong' : Int32), (0 ≤ Int32.toInt m_at' ∧ Int32.toInt m_at' ≤ 80) → (-1 ≤ Int32.toInt m_wrong' ∧ Int32.toInt m_wrong' ≤ 80) → (Int32.toInt uW ≤ Int32.toInt m_at') → (Int32.toInt m_at' ≤ Int32.toInt qG) → post r m_at' m_wrong') : wp_X10_product WT WH post p0 jY m_length qG uW eY dN aR aE bJ aW m_x jA pY oY pR rG rQ := by
  refine t_X10_thing hT hH h_p0 h_m_read h_m_length h_m_top h_m_at h_m_wrong h_m_isAsked h_m_askedFruit h_m_askedStanding h_m_askedHook h_m_askedApron h_m_x h_m_height h_m_worth h_m_foot h_m_fork h_m_text h_m_rule (by omega) (by omega) (by omega) (fun r36 aLg m_wrong_35 h_m_at_34 h_m_wrong_35 ox37 ox38 => ?_)
  have f39 := tp_r r36
  exact ⟨82, tb_X10_product_6 hT hH jY m_length qG dN aR aE bJ aW m_x jA pY oY pR rG rQ h_m_read h_m_length h_m_top h_m_isAsked h_m_askedFruit h_m_askedStanding h_m_askedHook h_m_askedApron h_m_x h_m_height h_m_worth h_m_foot h_m_fork h_m_text h_m_rule hc0 hpost _ p0 r36 aLg m_wrong_35 h_p0 h_m_at_34 h_m_wrong_35 (by omega) (by omega) (by omega) (by omega)⟩
set_option maxHeartbeats 8000000 in
set_option maxRecDepth 200000 in
theorem ts_X10_sum_78 {post : Int32 → Int32 → Int32 → Prop} {WT WH : TY_X10} {rn : Int} (hT : TT_X10_thing WT rn) (hH : TT_X10_held WH rn) {aAJ : Int32} {K6 : Int32 → Int32 → Int32 → Int32 → Prop} {n6 : Int} (jY : Nat) (m_length qG dN aR aE bJ aW : Int32) (m_x jA pY oY pR rG rQ : Nat → Int32) (h_m_read : jY = 1 ∨ jY = 2) (h_m_length : 1 ≤ Int32.toInt m_length ∧ Int32.toInt m_length ≤ 80) (h_m_top : 40 ≤ Int32.toInt qG ∧ Int32.toInt qG ≤ 40) (h_m_isAsked : 0 ≤ Int32.toInt dN ∧ Int32.toInt dN ≤ 1) (h_m_askedFruit : 0 ≤ Int32.toInt aR ∧ Int32.toInt aR ≤ 15) (h_m_askedStanding : 0 ≤ Int32.toInt aE ∧ Int32.toInt aE ≤ 7) (h_m_askedHook : 0 ≤ Int32.toInt bJ ∧ Int32.toInt bJ ≤ 1) (h_m_askedApron : 0 ≤ Int32.toInt aW ∧ Int32.toInt aW ≤ 63) (h_m_x : ∀ k : Nat, 0 ≤ Int32.toInt (m_x k) ∧ Int32.toInt (m_x k) ≤ 99) (h_m_height : ∀ k : Nat, 0 ≤ Int32.toInt (jA k) ∧ Int32.toInt (jA k) ≤ 99) (h_m_worth : ∀ k : Nat, 0 ≤ Int32.toInt (pY k) ∧ Int32.toInt (pY k) ≤ 9) (h_m_foot : ∀ k : Nat, 0 ≤ Int32.toInt (oY k) ∧ Int32.toInt (oY k) ≤ 99) (h_m_fork : ∀ k : Nat, 0 ≤ Int32.toInt (pR k) ∧ Int32.toInt (pR k) ≤ 99) (h_m_text : ∀ k : Nat, -128 ≤ Int32.toInt (rG k) ∧ Int32.toInt (rG k) ≤ 127) (h_m_rule : ∀ k : Nat, -128 ≤ Int32.toInt (rQ k) ∧ Int32.toInt (rQ k) ≤ 127) (hc0 : jY = 2 → Int32.toInt qG ≤ 40) (hpost : ∀ (r : Int32) (m_at' : Int32) (m_wrong' : Int32), (0 ≤ Int32.toInt m_at' ∧ Int32.toInt m_at' ≤ 80) → (-1 ≤ Int32.toInt m_wrong' ∧ Int32.toInt m_wrong' ≤ 80) → (Int32.toInt aAJ ≤ Int32.toInt m_at') → (Int32.toInt m_at' ≤ Int32.toInt qG) → post r m_at' m_wrong') (hK6 : ∀ (x1 : Int32) (x2 : Int32) (uW : Int32) (eY : Int32), (0 ≤ Int32.toInt x1 ∧ Int32.toInt x1 ≤ 4) → (0 ≤ Int32.toInt uW ∧ Int32.toInt uW ≤ 80) → (-1 ≤ Int32.toInt eY ∧ Int32.toInt eY ≤ 80) → (Int32.toInt uW ≤ Int32.toInt qG) → (Int32.toInt qG - Int32.toInt uW < rn + 1) → (Int32.toInt aAJ ≤ Int32.toInt uW) → (Int32.toInt qG - Int32.toInt uW < n6) → K6 x1 x2 uW eY) (x1 k0 uW eY : Int32) (h_x1 : 0 ≤ Int32.toInt x1 ∧ Int32.toInt x1 ≤ 4) (h_m_at : 0 ≤ Int32.toInt uW ∧ Int32.toInt uW ≤ 80) (h_m_wrong : -1 ≤ Int32.toInt eY ∧ Int32.toInt eY ≤ 80) (hx0 : Int32.toInt uW ≤ Int32.toInt qG) (hx1 : Int32.toInt qG - Int32.toInt uW < rn + 1) (hx2 : Int32.toInt aAJ ≤ Int32.toInt uW) (hx3 : Int32.toInt qG - Int32.toInt uW < n6) (hn6 : Int32.toInt qG - Int32.toInt uW ≤ n6) : ws_X10_sum_78 WT WH post K6 jY m_length qG dN aR aE bJ aW m_x jA pY oY pR rG rQ x1 k0 uW eY := by
  have f1 := tp_r k0
  exact hK6 x1 k0 uW eY h_x1 h_m_at h_m_wrong hx0 hx1 hx2 (by omega)
set_option maxHeartbeats 8000000 in
set_option maxRecDepth 200000 in
theorem ts_X10_sum_45 {post : Int32 → Int32 → Int32 → Prop} {WT WH : TY_X10} {rn : Int} (hT : TT_X10_thing WT rn) (hH : TT_X10_held WH rn) {aAJ : Int32} {K6 : Int32 → Int32 → Int32 → Int32 → Prop} {n6 : Int} (jY : Nat) (m_length qG dN aR aE bJ aW : Int32) (m_x jA pY oY pR rG rQ : Nat → Int32) (h_m_read : jY = 1 ∨ jY = 2) (h_m_length : 1 ≤ Int32.toInt m_length ∧ Int32.toInt m_length ≤ 80) (h_m_top : 40 ≤ Int32.toInt qG ∧ Int32.toInt qG ≤ 40) (h_m_isAsked : 0 ≤ Int32.toInt dN ∧ Int32.toInt dN ≤ 1) (h_m_askedFruit : 0 ≤ Int32.toInt aR ∧ Int32.toInt aR ≤ 15) (h_m_askedStanding : 0 ≤ Int32.toInt aE ∧ Int32.toInt aE ≤ 7) (h_m_askedHook : 0 ≤ Int32.toInt bJ ∧ Int32.toInt bJ ≤ 1) (h_m_askedApron : 0 ≤ Int32.toInt aW ∧ Int32.toInt aW ≤ 63) (h_m_x : ∀ k : Nat, 0 ≤ Int32.toInt (m_x k) ∧ Int32.toInt (m_x k) ≤ 99) (h_m_height : ∀ k : Nat, 0 ≤ Int32.toInt (jA k) ∧ Int32.toInt (jA k) ≤ 99) (h_m_worth : ∀ k : Nat, 0 ≤ Int32.toInt (pY k) ∧ Int32.toInt (pY k) ≤ 9) (h_m_foot : ∀ k : Nat, 0 ≤ Int32.toInt (oY k) ∧ Int32.toInt (oY k) ≤ 99) (h_m_fork : ∀ k : Nat, 0 ≤ Int32.toInt (pR k) ∧ Int32.toInt (pR k) ≤ 99) (h_m_text : ∀ k : Nat, -128 ≤ Int32.toInt (rG k) ∧ Int32.toInt (rG k) ≤ 127) (h_m_rule : ∀ k : Nat, -128 ≤ Int32.toInt (rQ k) ∧ Int32.toInt (rQ k) ≤ 127) (hc0 : jY = 2 → Int32.toInt qG ≤ 40) (hpost : ∀ (r : Int32) (m_at' : Int32) (m_wrong' : Int32), (0 ≤ Int32.toInt m_at' ∧ Int32.toInt m_at' ≤ 80) → (-1 ≤ Int32.toInt m_wrong' ∧ Int32.toInt m_wrong' ≤ 80) → (Int32.toInt aAJ ≤ Int32.toInt m_at') → (Int32.toInt m_at' ≤ Int32.toInt qG) → post r m_at' m_wrong') (hK6 : ∀ (x1 : Int32) (x2 : Int32) (uW : Int32) (eY : Int32), (0 ≤ Int32.toInt x1 ∧ Int32.toInt x1 ≤ 4) → (0 ≤ Int32.toInt uW ∧ Int32.toInt uW ≤ 80) → (-1 ≤ Int32.toInt eY ∧ Int32.toInt eY ≤ 80) → (Int32.toInt uW ≤ Int32.toInt qG) → (Int32.toInt qG - Int32.toInt uW < rn + 1) → (Int32.toInt aAJ ≤ Int32.toInt uW) → (Int32.toInt qG - Int32.toInt uW < n6) → K6 x1 x2 uW eY) (x1 x2 k0 uW eY : Int32) (h_x1 : 0 ≤ Int32.toInt x1 ∧ Int32.toInt x1 ≤ 4) (h_k0 : 0 ≤ Int32.toInt k0 ∧ Int32.toInt k0 ≤ 1) (h_m_at : 0 ≤ Int32.toInt uW ∧ Int32.toInt uW ≤ 80) (h_m_wrong : -1 ≤ Int32.toInt eY ∧ Int32.toInt eY ≤ -1) (hx0 : Int32.toInt uW ≤ Int32.toInt qG) (hx1 : Int32.toInt qG - Int32.toInt uW < rn + 1) (hx2 : Int32.toInt aAJ ≤ Int32.toInt uW) (hx3 : Int32.toInt uW < Int32.toInt qG) (hn6 : Int32.toInt qG - Int32.toInt uW ≤ n6) : ws_X10_sum_45 WT WH post K6 jY m_length qG dN aR aE bJ aW m_x jA pY oY pR rG rQ x1 x2 k0 uW eY := by
  have l0 := li_0
  have l1 := li_1
  intro v2 ev2
  have f3 : Int32.toInt (uW + 1) = Int32.toInt uW + Int32.toInt (1 : Int32) := ta_add _ _ (by omega)
  rw [← ev2] at f3
  refine t_X10_product hT hH h_x1 h_m_read h_m_length h_m_top (by omega) h_m_wrong h_m_isAsked h_m_askedFruit h_m_askedStanding h_m_askedHook h_m_askedApron h_m_x h_m_height h_m_worth h_m_foot h_m_fork h_m_text h_m_rule (by omega) (by omega) (by omega) (fun r6 aAU yX h_m_at_4 h_m_wrong_5 ox7 ox8 => ?_)
  refine And.intro (fun c9 => ?_) (fun c9 => ?_)
  · skip
    have c9 := (fa_eq _ _).mp c9
    intro v10 ev10
    have hv10 := congrArg Int32.toInt ev10
    have f12 := tp_r v10
    exact ts_X10_sum_78 hT hH jY m_length qG dN aR aE bJ aW m_x jA pY oY pR rG rQ h_m_read h_m_length h_m_top h_m_isAsked h_m_askedFruit h_m_askedStanding h_m_askedHook h_m_askedApron h_m_x h_m_height h_m_worth h_m_foot h_m_fork h_m_text h_m_rule hc0 hpost hK6 x1 v10 aAU yX h_x1 h_m_at_4 h_m_wrong_5 (by omega) (by omega) (by omega) (by omega) (by omega)
  · skip
    have c9 := mt (fa_eq _ _).mpr c9
    intro v13 ev13
    have hv13 := congrArg Int32.toInt ev13
    have f15 := tp_r v13
    exact ts_X10_sum_78 hT hH jY m_length qG dN aR aE bJ aW m_x jA pY oY pR rG rQ h_m_read h_m_length h_m_top h_m_isAsked h_m_askedFruit h_m_askedStanding h_m_askedHook h_m_askedApron h_m_x h_m_height h_m_worth h_m_foot h_m_fork h_m_text h_m_rule hc0 hpost hK6 x1 v13 aAU yX h_x1 h_m_at_4 h_m_wrong_5 (by omega) (by omega) (by omega) (by omega) (by omega)
set_option maxHeartbeats 8000000 in
set_option maxRecDepth 200000 in
theorem ts_X10_sum_31 {post : Int32 → Int32 → Int32 → Prop} {WT WH : TY_X10} {rn : Int} (hT : TT_X10_thing WT rn) (hH : TT_X10_held WH rn) {aAJ : Int32} {K6 : Int32 → Int32 → Int32 → Int32 → Prop} {n6 : Int} (jY : Nat) (m_length qG dN aR aE bJ aW : Int32) (m_x jA pY oY pR rG rQ : Nat → Int32) (h_m_read : jY = 1 ∨ jY = 2) (h_m_length : 1 ≤ Int32.toInt m_length ∧ Int32.toInt m_length ≤ 80) (h_m_top : 40 ≤ Int32.toInt qG ∧ Int32.toInt qG ≤ 40) (h_m_isAsked : 0 ≤ Int32.toInt dN ∧ Int32.toInt dN ≤ 1) (h_m_askedFruit : 0 ≤ Int32.toInt aR ∧ Int32.toInt aR ≤ 15) (h_m_askedStanding : 0 ≤ Int32.toInt aE ∧ Int32.toInt aE ≤ 7) (h_m_askedHook : 0 ≤ Int32.toInt bJ ∧ Int32.toInt bJ ≤ 1) (h_m_askedApron : 0 ≤ Int32.toInt aW ∧ Int32.toInt aW ≤ 63) (h_m_x : ∀ k : Nat, 0 ≤ Int32.toInt (m_x k) ∧ Int32.toInt (m_x k) ≤ 99) (h_m_height : ∀ k : Nat, 0 ≤ Int32.toInt (jA k) ∧ Int32.toInt (jA k) ≤ 99) (h_m_worth : ∀ k : Nat, 0 ≤ Int32.toInt (pY k) ∧ Int32.toInt (pY k) ≤ 9) (h_m_foot : ∀ k : Nat, 0 ≤ Int32.toInt (oY k) ∧ Int32.toInt (oY k) ≤ 99) (h_m_fork : ∀ k : Nat, 0 ≤ Int32.toInt (pR k) ∧ Int32.toInt (pR k) ≤ 99) (h_m_text : ∀ k : Nat, -128 ≤ Int32.toInt (rG k) ∧ Int32.toInt (rG k) ≤ 127) (h_m_rule : ∀ k : Nat, -128 ≤ Int32.toInt (rQ k) ∧ Int32.toInt (rQ k) ≤ 127) (hc0 : jY = 2 → Int32.toInt qG ≤ 40) (hpost : ∀ (r : Int32) (m_at' : Int32) (m_wrong' : Int32), (0 ≤ Int32.toInt m_at' ∧ Int32.toInt m_at' ≤ 80) → (-1 ≤ Int32.toInt m_wrong' ∧ Int32.toInt m_wrong' ≤ 80) → (Int32.toInt aAJ ≤ Int32.toInt m_at') → (Int32.toInt m_at' ≤ Int32.toInt qG) → post r m_at' m_wrong') (hK6 : ∀ (x1 : Int32) (x2 : Int32) (uW : Int32) (eY : Int32), (0 ≤ Int32.toInt x1 ∧ Int32.toInt x1 ≤ 4) → (0 ≤ Int32.toInt uW ∧ Int32.toInt uW ≤ 80) → (-1 ≤ Int32.toInt eY ∧ Int32.toInt eY ≤ 80) → (Int32.toInt uW ≤ Int32.toInt qG) → (Int32.toInt qG - Int32.toInt uW < rn + 1) → (Int32.toInt aAJ ≤ Int32.toInt uW) → (Int32.toInt qG - Int32.toInt uW < n6) → K6 x1 x2 uW eY) (x1 x2 uW eY : Int32) (h_x1 : 0 ≤ Int32.toInt x1 ∧ Int32.toInt x1 ≤ 4) (h_m_at : 0 ≤ Int32.toInt uW ∧ Int32.toInt uW ≤ 80) (h_m_wrong : -1 ≤ Int32.toInt eY ∧ Int32.toInt eY ≤ -1) (hx0 : Int32.toInt uW ≤ Int32.toInt qG) (hx1 : Int32.toInt qG - Int32.toInt uW < rn + 1) (hx2 : Int32.toInt aAJ ≤ Int32.toInt uW) (hx3 : Int32.toInt uW < Int32.toInt qG) (hn6 : Int32.toInt qG - Int32.toInt uW ≤ n6) : ws_X10_sum_31 WT WH post K6 jY m_length qG dN aR aE bJ aW m_x jA pY oY pR rG rQ x1 x2 uW eY := by
  have l0 := li_0
  have l1 := li_1
  have l2 := li_43
  refine t_X10_here h_m_read (by omega) (by omega) h_m_at h_m_text h_m_rule (by omega) (fun r16 h_r16 ox17 ox18 => ?_)
  refine And.intro (fun c19 => ?_) (fun c19 => ?_)
  · skip
    have c19 := mt (fa_eq _ _).mpr c19
    have f20 := tp_r x2
    exact ts_X10_sum_45 hT hH jY m_length qG dN aR aE bJ aW m_x jA pY oY pR rG rQ h_m_read h_m_length h_m_top h_m_isAsked h_m_askedFruit h_m_askedStanding h_m_askedHook h_m_askedApron h_m_x h_m_height h_m_worth h_m_foot h_m_fork h_m_text h_m_rule hc0 hpost hK6 x1 x2 0 uW eY h_x1 (by omega) h_m_at h_m_wrong hx0 hx1 hx2 hx3 hn6
  · skip
    have c19 := (fa_eq _ _).mp c19
    have f21 := tp_r x2
    exact ts_X10_sum_45 hT hH jY m_length qG dN aR aE bJ aW m_x jA pY oY pR rG rQ h_m_read h_m_length h_m_top h_m_isAsked h_m_askedFruit h_m_askedStanding h_m_askedHook h_m_askedApron h_m_x h_m_height h_m_worth h_m_foot h_m_fork h_m_text h_m_rule hc0 hpost hK6 x1 x2 1 uW eY h_x1 (by omega) h_m_at h_m_wrong hx0 hx1 hx2 hx3 hn6
set_option maxHeartbeats 8000000 in
set_option maxRecDepth 200000 in
theorem ts_X10_sum_6 {post : Int32 → Int32 → Int32 → Prop} {WT WH : TY_X10} {rn : Int} (hT : TT_X10_thing WT rn) (hH : TT_X10_held WH rn) {aAJ : Int32} {next : Int32 → Int32 → Int32 → Int32 → Prop} {n6 : Int} (jY : Nat) (m_length qG dN aR aE bJ aW : Int32) (m_x jA pY oY pR rG rQ : Nat → Int32) (h_m_read : jY = 1 ∨ jY = 2) (h_m_length : 1 ≤ Int32.toInt m_length ∧ Int32.toInt m_length ≤ 80) (h_m_top : 40 ≤ Int32.toInt qG ∧ Int32.toInt qG ≤ 40) (h_m_isAsked : 0 ≤ Int32.toInt dN ∧ Int32.toInt dN ≤ 1) (h_m_askedFruit : 0 ≤ Int32.toInt aR ∧ Int32.toInt aR ≤ 15) (h_m_askedStanding : 0 ≤ Int32.toInt aE ∧ Int32.toInt aE ≤ 7) (h_m_askedHook : 0 ≤ Int32.toInt bJ ∧ Int32.toInt bJ ≤ 1) (h_m_askedApron : 0 ≤ Int32.toInt aW ∧ Int32.toInt aW ≤ 63) (h_m_x : ∀ k : Nat, 0 ≤ Int32.toInt (m_x k) ∧ Int32.toInt (m_x k) ≤ 99) (h_m_height : ∀ k : Nat, 0 ≤ Int32.toInt (jA k) ∧ Int32.toInt (jA k) ≤ 99) (h_m_worth : ∀ k : Nat, 0 ≤ Int32.toInt (pY k) ∧ Int32.toInt (pY k) ≤ 9) (h_m_foot : ∀ k : Nat, 0 ≤ Int32.toInt (oY k) ∧ Int32.toInt (oY k) ≤ 99) (h_m_fork : ∀ k : Nat, 0 ≤ Int32.toInt (pR k) ∧ Int32.toInt (pR k) ≤ 99) (h_m_text : ∀ k : Nat, -128 ≤ Int32.toInt (rG k) ∧ Int32.toInt (rG k) ≤ 127) (h_m_rule : ∀ k : Nat, -128 ≤ Int32.toInt (rQ k) ∧ Int32.toInt (rQ k) ≤ 127) (hc0 : jY = 2 → Int32.toInt qG ≤ 40) (hpost : ∀ (r : Int32) (m_at' : Int32) (m_wrong' : Int32), (0 ≤ Int32.toInt m_at' ∧ Int32.toInt m_at' ≤ 80) → (-1 ≤ Int32.toInt m_wrong' ∧ Int32.toInt m_wrong' ≤ 80) → (Int32.toInt aAJ ≤ Int32.toInt m_at') → (Int32.toInt m_at' ≤ Int32.toInt qG) → post r m_at' m_wrong') (hKn : ∀ (x1 : Int32) (x2 : Int32) (uW : Int32) (eY : Int32), (0 ≤ Int32.toInt x1 ∧ Int32.toInt x1 ≤ 4) → (0 ≤ Int32.toInt uW ∧ Int32.toInt uW ≤ 80) → (-1 ≤ Int32.toInt eY ∧ Int32.toInt eY ≤ 80) → (Int32.toInt uW ≤ Int32.toInt qG) → (Int32.toInt qG - Int32.toInt uW < rn + 1) → (Int32.toInt aAJ ≤ Int32.toInt uW) → (Int32.toInt qG - Int32.toInt uW < n6) → next x1 x2 uW eY) (x1 x2 uW eY : Int32) (h_x1 : 0 ≤ Int32.toInt x1 ∧ Int32.toInt x1 ≤ 4) (h_m_at : 0 ≤ Int32.toInt uW ∧ Int32.toInt uW ≤ 80) (h_m_wrong : -1 ≤ Int32.toInt eY ∧ Int32.toInt eY ≤ 80) (hx0 : Int32.toInt uW ≤ Int32.toInt qG) (hx1 : Int32.toInt qG - Int32.toInt uW < rn + 1) (hx2 : Int32.toInt aAJ ≤ Int32.toInt uW) (hn6 : Int32.toInt qG - Int32.toInt uW ≤ n6) : ws_X10_sum_6 WT WH post next jY m_length qG dN aR aE bJ aW m_x jA pY oY pR rG rQ x1 x2 uW eY := by
  have l0 := li_m1
  have l1 := li_43
  have l2 := li_45
  refine And.intro (fun c22 => ?_) (fun c22 => ?_)
  · skip
    have c22 := mt (fa_eq _ _).mpr c22
    refine And.intro (fun _ => ?_) (fun h9 => absurd h9 (by decide))
    exact hpost _ _ _ h_m_at h_m_wrong (by omega) (by omega)
  · skip
    have c22 := (fa_eq _ _).mp c22
    refine And.intro (fun h9 => absurd h9 (by decide)) (fun _ => ?_)
    refine t_X10_here h_m_read (by omega) (by omega) h_m_at h_m_text h_m_rule (by omega) (fun r23 h_r23 ox24 ox25 => ?_)
    refine And.intro (fun c26 => ?_) (fun c26 => ?_)
    · skip
      have c26 := (fa_eq _ _).mp c26
      have f27 := tp_r x2
      exact ts_X10_sum_31 hT hH jY m_length qG dN aR aE bJ aW m_x jA pY oY pR rG rQ h_m_read h_m_length h_m_top h_m_isAsked h_m_askedFruit h_m_askedStanding h_m_askedHook h_m_askedApron h_m_x h_m_height h_m_worth h_m_foot h_m_fork h_m_text h_m_rule hc0 hpost hKn x1 x2 uW eY h_x1 h_m_at (by omega) hx0 hx1 hx2 (by omega) hn6
    · skip
      have c26 := mt (fa_eq _ _).mpr c26
      refine t_X10_here h_m_read (by omega) (by omega) h_m_at h_m_text h_m_rule (by omega) (fun r28 h_r28 ox29 ox30 => ?_)
      refine And.intro (fun c31 => ?_) (fun c31 => ?_)
      · skip
        have c31 := mt (fa_eq _ _).mpr c31
        exact hpost _ _ _ h_m_at h_m_wrong (by omega) (by omega)
      · skip
        have c31 := (fa_eq _ _).mp c31
        have f32 := tp_r x2
        exact ts_X10_sum_31 hT hH jY m_length qG dN aR aE bJ aW m_x jA pY oY pR rG rQ h_m_read h_m_length h_m_top h_m_isAsked h_m_askedFruit h_m_askedStanding h_m_askedHook h_m_askedApron h_m_x h_m_height h_m_worth h_m_foot h_m_fork h_m_text h_m_rule hc0 hpost hKn x1 x2 uW eY h_x1 h_m_at (by omega) hx0 hx1 hx2 (by omega) hn6
set_option maxHeartbeats 8000000 in
set_option maxRecDepth 200000 in
theorem tb_X10_sum_6 {post : Int32 → Int32 → Int32 → Prop} {WT WH : TY_X10} {rn : Int} (hT : TT_X10_thing WT rn) (hH : TT_X10_held WH rn) {aAJ : Int32} (jY : Nat) (m_length qG dN aR aE bJ aW : Int32) (m_x jA pY oY pR rG rQ : Nat → Int32) (h_m_read : jY = 1 ∨ jY = 2) (h_m_length : 1 ≤ Int32.toInt m_length ∧ Int32.toInt m_length ≤ 80) (h_m_top : 40 ≤ Int32.toInt qG ∧ Int32.toInt qG ≤ 40) (h_m_isAsked : 0 ≤ Int32.toInt dN ∧ Int32.toInt dN ≤ 1) (h_m_askedFruit : 0 ≤ Int32.toInt aR ∧ Int32.toInt aR ≤ 15) (h_m_askedStanding : 0 ≤ Int32.toInt aE ∧ Int32.toInt aE ≤ 7) (h_m_askedHook : 0 ≤ Int32.toInt bJ ∧ Int32.toInt bJ ≤ 1) (h_m_askedApron : 0 ≤ Int32.toInt aW ∧ Int32.toInt aW ≤ 63) (h_m_x : ∀ k : Nat, 0 ≤ Int32.toInt (m_x k) ∧ Int32.toInt (m_x k) ≤ 99) (h_m_height : ∀ k : Nat, 0 ≤ Int32.toInt (jA k) ∧ Int32.toInt (jA k) ≤ 99) (h_m_worth : ∀ k : Nat, 0 ≤ Int32.toInt (pY k) ∧ Int32.toInt (pY k) ≤ 9) (h_m_foot : ∀ k : Nat, 0 ≤ Int32.toInt (oY k) ∧ Int32.toInt (oY k) ≤ 99) (h_m_fork : ∀ k : Nat, 0 ≤ Int32.toInt (pR k) ∧ Int32.toInt (pR k) ≤ 99) (h_m_text : ∀ k : Nat, -128 ≤ Int32.toInt (rG k) ∧ Int32.toInt (rG k) ≤ 127) (h_m_rule : ∀ k : Nat, -128 ≤ Int32.toInt (rQ k) ∧ Int32.toInt (rQ k) ≤ 127) (hc0 : jY = 2 → Int32.toInt qG ≤ 40) (hpost : ∀ (r : Int32) (m_at' : Int32) (m_wrong' : Int32), (0 ≤ Int32.toInt m_at' ∧ Int32.toInt m_at' ≤ 80) → (-1 ≤ Int32.toInt m_wrong' ∧ Int32.toInt m_wrong' ≤ 80) → (Int32.toInt aAJ ≤ Int32.toInt m_at') → (Int32.toInt m_at' ≤ Int32.toInt qG) → post r m_at' m_wrong') : ∀ (n : Nat) (x1 x2 uW eY : Int32), (0 ≤ Int32.toInt x1 ∧ Int32.toInt x1 ≤ 4) → (0 ≤ Int32.toInt uW ∧ Int32.toInt uW ≤ 80) → (-1 ≤ Int32.toInt eY ∧ Int32.toInt eY ≤ 80) → (Int32.toInt uW ≤ Int32.toInt qG) → (Int32.toInt qG - Int32.toInt uW < rn + 1) → (Int32.toInt aAJ ≤ Int32.toInt uW) → (Int32.toInt qG - Int32.toInt uW < (n : Int)) → wb_X10_sum_6 WT WH post jY m_length qG dN aR aE bJ aW m_x jA pY oY pR rG rQ n x1 x2 uW eY := by
  intro n
  induction n with
  | zero =>
    intro x1 x2 uW eY h_x1 h_m_at h_m_wrong hx0 hx1 hx2 hm
    exfalso; omega
  | succ n ih =>
    intro x1 x2 uW eY h_x1 h_m_at h_m_wrong hx0 hx1 hx2 hm
    exact ts_X10_sum_6 hT hH jY m_length qG dN aR aE bJ aW m_x jA pY oY pR rG rQ h_m_read h_m_length h_m_top h_m_isAsked h_m_askedFruit h_m_askedStanding h_m_askedHook h_m_askedApron h_m_x h_m_height h_m_worth h_m_foot h_m_fork h_m_text h_m_rule hc0 hpost ih x1 x2 uW eY h_x1 h_m_at h_m_wrong hx0 hx1 hx2 (by omega)
set_option maxHeartbeats 8000000 in
set_option maxRecDepth 200000 in
theorem t_X10_sum {post : Int32 → Int32 → Int32 → Prop} {WT WH : TY_X10} {rn : Int} (hT : TT_X10_thing WT rn) (hH : TT_X10_held WH rn) {p0 : Int32} {jY : Nat} {m_length qG uW eY dN aR aE bJ aW : Int32} {m_x jA pY oY pR rG rQ : Nat → Int32} (h_p0 : 0 ≤ Int32.toInt p0 ∧ Int32.toInt p0 ≤ 4) (h_m_read : jY = 1 ∨ jY = 2) (h_m_length : 1 ≤ Int32.toInt m_length ∧ Int32.toInt m_length ≤ 80) (h_m_top : 40 ≤ Int32.toInt qG ∧ Int32.toInt qG ≤ 40) (h_m_at : 0 ≤ Int32.toInt uW ∧ Int32.toInt uW ≤ 80) (h_m_wrong : -1 ≤ Int32.toInt eY ∧ Int32.toInt eY ≤ -1) (h_m_isAsked : 0 ≤ Int32.toInt dN ∧ Int32.toInt dN ≤ 1) (h_m_askedFruit : 0 ≤ Int32.toInt aR ∧ Int32.toInt aR ≤ 15) (h_m_askedStanding : 0 ≤ Int32.toInt aE ∧ Int32.toInt aE ≤ 7) (h_m_askedHook : 0 ≤ Int32.toInt bJ ∧ Int32.toInt bJ ≤ 1) (h_m_askedApron : 0 ≤ Int32.toInt aW ∧ Int32.toInt aW ≤ 63) (h_m_x : ∀ k : Nat, 0 ≤ Int32.toInt (m_x k) ∧ Int32.toInt (m_x k) ≤ 99) (h_m_height : ∀ k : Nat, 0 ≤ Int32.toInt (jA k) ∧ Int32.toInt (jA k) ≤ 99) (h_m_worth : ∀ k : Nat, 0 ≤ Int32.toInt (pY k) ∧ Int32.toInt (pY k) ≤ 9) (h_m_foot : ∀ k : Nat, 0 ≤ Int32.toInt (oY k) ∧ Int32.toInt (oY k) ≤ 99) (h_m_fork : ∀ k : Nat, 0 ≤ Int32.toInt (pR k) ∧ Int32.toInt (pR k) ≤ 99) (h_m_text : ∀ k : Nat, -128 ≤ Int32.toInt (rG k) ∧ Int32.toInt (rG k) ≤ 127) (h_m_rule : ∀ k : Nat, -128 ≤ Int32.toInt (rQ k) ∧ Int32.toInt (rQ k) ≤ 127) (hc0 : jY = 2 → Int32.toInt qG ≤ 40) (hx0 : Int32.toInt uW ≤ Int32.toInt qG) (hx1 : Int32.toInt qG - Int32.toInt uW < rn + 1) (hpost : ∀ (r : Int32) (m_at' : Int32) (m_wrong' : Int32), (0 ≤ Int32.toInt m_at' ∧ Int32.toInt m_at' ≤ 80) → (-1 ≤ Int32.toInt m_wrong' ∧ Int32.toInt m_wrong' ≤ 80) → (Int32.toInt uW ≤ Int32.toInt m_at') → (Int32.toInt m_at' ≤ Int32.toInt qG) → post r m_at' m_wrong') : wp_X10_sum WT WH post p0 jY m_length qG uW eY dN aR aE bJ aW m_x jA pY oY pR rG rQ := by
  refine t_X10_product hT hH h_p0 h_m_read h_m_length h_m_top h_m_at h_m_wrong h_m_isAsked h_m_askedFruit h_m_askedStanding h_m_askedHook h_m_askedApron h_m_x h_m_height h_m_worth h_m_foot h_m_fork h_m_text h_m_rule (by omega) (by omega) (by omega) (fun r35 m_at_33 m_wrong_34 h_m_at_33 h_m_wrong_34 ox36 ox37 => ?_)
  have f38 := tp_r r35
  exact ⟨82, tb_X10_sum_6 hT hH jY m_length qG dN aR aE bJ aW m_x jA pY oY pR rG rQ h_m_read h_m_length h_m_top h_m_isAsked h_m_askedFruit h_m_askedStanding h_m_askedHook h_m_askedApron h_m_x h_m_height h_m_worth h_m_foot h_m_fork h_m_text h_m_rule hc0 hpost _ p0 r35 m_at_33 m_wrong_34 h_p0 h_m_at_33 h_m_wrong_34 (by omega) (by omega) (by omega) (by omega)⟩
set_option maxHeartbeats 8000000 in
set_option maxRecDepth 200000 in
theorem t_X10_held {post : Int32 → Int32 → Int32 → Prop} {WT WH : TY_X10} {rn : Int} (hT : TT_X10_thing WT rn) (hH : TT_X10_held WH rn) {p0 : Int32} {jY : Nat} {m_length qG uW eY dN aR aE bJ aW : Int32} {m_x jA pY oY pR rG rQ : Nat → Int32} (h_p0 : 0 ≤ Int32.toInt p0 ∧ Int32.toInt p0 ≤ 4) (h_m_read : jY = 1 ∨ jY = 2) (h_m_length : 1 ≤ Int32.toInt m_length ∧ Int32.toInt m_length ≤ 80) (h_m_top : 40 ≤ Int32.toInt qG ∧ Int32.toInt qG ≤ 40) (h_m_at : 0 ≤ Int32.toInt uW ∧ Int32.toInt uW ≤ 80) (h_m_wrong : -1 ≤ Int32.toInt eY ∧ Int32.toInt eY ≤ -1) (h_m_isAsked : 0 ≤ Int32.toInt dN ∧ Int32.toInt dN ≤ 1) (h_m_askedFruit : 0 ≤ Int32.toInt aR ∧ Int32.toInt aR ≤ 15) (h_m_askedStanding : 0 ≤ Int32.toInt aE ∧ Int32.toInt aE ≤ 7) (h_m_askedHook : 0 ≤ Int32.toInt bJ ∧ Int32.toInt bJ ≤ 1) (h_m_askedApron : 0 ≤ Int32.toInt aW ∧ Int32.toInt aW ≤ 63) (h_m_x : ∀ k : Nat, 0 ≤ Int32.toInt (m_x k) ∧ Int32.toInt (m_x k) ≤ 99) (h_m_height : ∀ k : Nat, 0 ≤ Int32.toInt (jA k) ∧ Int32.toInt (jA k) ≤ 99) (h_m_worth : ∀ k : Nat, 0 ≤ Int32.toInt (pY k) ∧ Int32.toInt (pY k) ≤ 9) (h_m_foot : ∀ k : Nat, 0 ≤ Int32.toInt (oY k) ∧ Int32.toInt (oY k) ≤ 99) (h_m_fork : ∀ k : Nat, 0 ≤ Int32.toInt (pR k) ∧ Int32.toInt (pR k) ≤ 99) (h_m_text : ∀ k : Nat, -128 ≤ Int32.toInt (rG k) ∧ Int32.toInt (rG k) ≤ 127) (h_m_rule : ∀ k : Nat, -128 ≤ Int32.toInt (rQ k) ∧ Int32.toInt (rQ k) ≤ 127) (hc0 : jY = 2 → Int32.toInt qG ≤ 40) (hx0 : Int32.toInt uW ≤ Int32.toInt qG) (hx1 : Int32.toInt qG - Int32.toInt uW < rn + 1) (hpost : ∀ (r : Int32) (m_at' : Int32) (m_wrong' : Int32), (0 ≤ Int32.toInt m_at' ∧ Int32.toInt m_at' ≤ 80) → (-1 ≤ Int32.toInt m_wrong' ∧ Int32.toInt m_wrong' ≤ 80) → (Int32.toInt uW ≤ Int32.toInt m_at') → (Int32.toInt m_at' ≤ Int32.toInt qG) → post r m_at' m_wrong') : wp_X10_held WT WH post p0 jY m_length qG uW eY dN aR aE bJ aW m_x jA pY oY pR rG rQ := by
  have l0 := li_m1
  have l1 := li_1
  have l2 := li_60
  have l3 := li_61
  have l4 := li_62
  refine t_X10_sum hT hH h_p0 h_m_read h_m_length h_m_top h_m_at h_m_wrong h_m_isAsked h_m_askedFruit h_m_askedStanding h_m_askedHook h_m_askedApron h_m_x h_m_height h_m_worth h_m_foot h_m_fork h_m_text h_m_rule (by omega) (by omega) (by omega) (fun r3 m_at_1 m_wrong_2 h_m_at_1 h_m_wrong_2 ox4 ox5 => ?_)
  refine And.intro (fun c6 => ?_) (fun c6 => ?_)
  · skip
    have c6 := mt (fa_eq _ _).mpr c6
    refine And.intro (fun _ => ?_) (fun h9 => absurd h9 (by decide))
    refine And.intro (fun _ => ?_) (fun h9 => absurd h9 (by decide))
    refine And.intro (fun c7 => ?_) (fun c7 => ?_)
    · skip
      have c7 := mt (fa_eq _ _).mpr c7
      refine And.intro (fun _ => ?_) (fun h9 => absurd h9 (by decide))
      refine And.intro (fun _ => ?_) (fun h9 => absurd h9 (by decide))
      refine And.intro (fun c8 => ?_) (fun c8 => ?_)
      · skip
        have c8 := mt (fa_eq _ _).mpr c8
        refine And.intro (fun _ => ?_) (fun h9 => absurd h9 (by decide))
        refine And.intro (fun _ => ?_) (fun h9 => absurd h9 (by decide))
        exact hpost _ _ _ h_m_at_1 h_m_wrong_2 (by omega) (by omega)
      · skip
        have c8 := (fa_eq _ _).mp c8
        exfalso; omega
    · skip
      have c7 := (fa_eq _ _).mp c7
      exfalso; omega
  · skip
    have c6 := (fa_eq _ _).mp c6
    refine And.intro (fun h9 => absurd h9 (by decide)) (fun _ => ?_)
    refine t_X10_here h_m_read (by omega) (by omega) h_m_at_1 h_m_text h_m_rule (by omega) (fun r9 h_r9 ox10 ox11 => ?_)
    refine And.intro (fun c12 => ?_) (fun c12 => ?_)
    · skip
      have c12 := (fa_eq _ _).mp c12
      intro v13 ev13
      have f14 : Int32.toInt (m_at_1 + 1) = Int32.toInt m_at_1 + Int32.toInt (1 : Int32) := ta_add _ _ (by omega)
      rw [← ev13] at f14
      refine And.intro (fun h9 => absurd h9 (by decide)) (fun _ => ?_)
      refine t_X10_sum hT hH h_p0 h_m_read h_m_length h_m_top (by omega) (by omega) h_m_isAsked h_m_askedFruit h_m_askedStanding h_m_askedHook h_m_askedApron h_m_x h_m_height h_m_worth h_m_foot h_m_fork h_m_text h_m_rule (by omega) (by omega) (by omega) (fun r17 m_at_15 m_wrong_16 h_m_at_15 h_m_wrong_16 ox18 ox19 => ?_)
      have f21 := tp_r r3
      have f22 := tp_r r17
      refine And.intro (fun c20 => ?_) (fun c20 => ?_)
      · skip
        have c20 := (fa_le _ _).mp c20
        exact hpost _ _ _ h_m_at_15 h_m_wrong_16 (by omega) (by omega)
      · skip
        have c20 := mt (fa_le _ _).mpr c20
        exact hpost _ _ _ h_m_at_15 h_m_wrong_16 (by omega) (by omega)
    · skip
      have c12 := mt (fa_eq _ _).mpr c12
      refine And.intro (fun _ => ?_) (fun h9 => absurd h9 (by decide))
      refine And.intro (fun c23 => ?_) (fun c23 => ?_)
      · skip
        have c23 := mt (fa_eq _ _).mpr c23
        exfalso; omega
      · skip
        have c23 := (fa_eq _ _).mp c23
        refine And.intro (fun h9 => absurd h9 (by decide)) (fun _ => ?_)
        refine t_X10_here h_m_read (by omega) (by omega) h_m_at_1 h_m_text h_m_rule (by omega) (fun r24 h_r24 ox25 ox26 => ?_)
        refine And.intro (fun c27 => ?_) (fun c27 => ?_)
        · skip
          have c27 := (fa_eq _ _).mp c27
          intro v28 ev28
          have f29 : Int32.toInt (m_at_1 + 1) = Int32.toInt m_at_1 + Int32.toInt (1 : Int32) := ta_add _ _ (by omega)
          rw [← ev28] at f29
          refine And.intro (fun h9 => absurd h9 (by decide)) (fun _ => ?_)
          refine t_X10_sum hT hH h_p0 h_m_read h_m_length h_m_top (by omega) (by omega) h_m_isAsked h_m_askedFruit h_m_askedStanding h_m_askedHook h_m_askedApron h_m_x h_m_height h_m_worth h_m_foot h_m_fork h_m_text h_m_rule (by omega) (by omega) (by omega) (fun r32 m_at_30 aBA h_m_at_30 h_m_wrong_31 ox33 ox34 => ?_)
          have f36 := tp_r r3
          have f37 := tp_r r32
          refine And.intro (fun c35 => ?_) (fun c35 => ?_)
          · skip
            have c35 := (fa_le _ _).mp c35
            exact hpost _ _ _ h_m_at_30 h_m_wrong_31 (by omega) (by omega)
          · skip
            have c35 := mt (fa_le _ _).mpr c35
            exact hpost _ _ _ h_m_at_30 h_m_wrong_31 (by omega) (by omega)
        · skip
          have c27 := mt (fa_eq _ _).mpr c27
          refine And.intro (fun _ => ?_) (fun h9 => absurd h9 (by decide))
          refine And.intro (fun c38 => ?_) (fun c38 => ?_)
          · skip
            have c38 := mt (fa_eq _ _).mpr c38
            exfalso; omega
          · skip
            have c38 := (fa_eq _ _).mp c38
            refine And.intro (fun h9 => absurd h9 (by decide)) (fun _ => ?_)
            refine t_X10_here h_m_read (by omega) (by omega) h_m_at_1 h_m_text h_m_rule (by omega) (fun r39 h_r39 ox40 ox41 => ?_)
            refine And.intro (fun c42 => ?_) (fun c42 => ?_)
            · skip
              have c42 := (fa_eq _ _).mp c42
              intro v43 ev43
              have f44 : Int32.toInt (m_at_1 + 1) = Int32.toInt m_at_1 + Int32.toInt (1 : Int32) := ta_add _ _ (by omega)
              rw [← ev43] at f44
              refine And.intro (fun h9 => absurd h9 (by decide)) (fun _ => ?_)
              refine t_X10_sum hT hH h_p0 h_m_read h_m_length h_m_top (by omega) (by omega) h_m_isAsked h_m_askedFruit h_m_askedStanding h_m_askedHook h_m_askedApron h_m_x h_m_height h_m_worth h_m_foot h_m_fork h_m_text h_m_rule (by omega) (by omega) (by omega) (fun r47 m_at_45 m_wrong_46 h_m_at_45 h_m_wrong_46 ox48 ox49 => ?_)
              have f51 := tp_r r3
              have f52 := tp_r r47
              refine And.intro (fun c50 => ?_) (fun c50 => ?_)
              · skip
                have c50 := mt (fa_eq _ _).mpr c50
                exact hpost _ _ _ h_m_at_45 h_m_wrong_46 (by omega) (by omega)
              · skip
                have c50 := (fa_eq _ _).mp c50
                exact hpost _ _ _ h_m_at_45 h_m_wrong_46 (by omega) (by omega)
            · skip
              have c42 := mt (fa_eq _ _).mpr c42
              refine And.intro (fun _ => ?_) (fun h9 => absurd h9 (by decide))
              exact hpost _ _ _ h_m_at_1 h_m_wrong_2 (by omega) (by omega)
set_option maxHeartbeats 4000000 in
theorem rr_X10_t : ∀ n : Nat, TT_X10_thing (rr_X10 n).1 (n : Int) ∧ TT_X10_held (rr_X10 n).2 (n : Int) := by
  intro n
  induction n with
  | zero =>
    refine ⟨?_, ?_⟩
    · intro post p0 jY m_length qG uW eY dN aR aE bJ aW m_x jA pY oY pR rG rQ h_p0 h_m_read h_m_length h_m_top h_m_at h_m_wrong h_m_isAsked h_m_askedFruit h_m_askedStanding h_m_askedHook h_m_askedApron h_m_x h_m_height h_m_worth h_m_foot h_m_fork h_m_text h_m_rule hc0 hx0 hx1 hpost
      exfalso; omega
    · intro post p0 jY m_length qG uW eY dN aR aE bJ aW m_x jA pY oY pR rG rQ h_p0 h_m_read h_m_length h_m_top h_m_at h_m_wrong h_m_isAsked h_m_askedFruit h_m_askedStanding h_m_askedHook h_m_askedApron h_m_x h_m_height h_m_worth h_m_foot h_m_fork h_m_text h_m_rule hc0 hx0 hx1 hpost
      exfalso; omega
  | succ n ih =>
    refine ⟨?_, ?_⟩
    · intro post p0 jY m_length qG uW eY dN aR aE bJ aW m_x jA pY oY pR rG rQ h_p0 h_m_read h_m_length h_m_top h_m_at h_m_wrong h_m_isAsked h_m_askedFruit h_m_askedStanding h_m_askedHook h_m_askedApron h_m_x h_m_height h_m_worth h_m_foot h_m_fork h_m_text h_m_rule hc0 hx0 hx1 hpost
      exact t_X10_thing ih.1 ih.2 h_p0 h_m_read h_m_length h_m_top h_m_at h_m_wrong h_m_isAsked h_m_askedFruit h_m_askedStanding h_m_askedHook h_m_askedApron h_m_x h_m_height h_m_worth h_m_foot h_m_fork h_m_text h_m_rule hc0 (by omega) (by omega) hpost
    · intro post p0 jY m_length qG uW eY dN aR aE bJ aW m_x jA pY oY pR rG rQ h_p0 h_m_read h_m_length h_m_top h_m_at h_m_wrong h_m_isAsked h_m_askedFruit h_m_askedStanding h_m_askedHook h_m_askedApron h_m_x h_m_height h_m_worth h_m_foot h_m_fork h_m_text h_m_rule hc0 hx0 hx1 hpost
      exact t_X10_held ih.1 ih.2 h_p0 h_m_read h_m_length h_m_top h_m_at h_m_wrong h_m_isAsked h_m_askedFruit h_m_askedStanding h_m_askedHook h_m_askedApron h_m_x h_m_height h_m_worth h_m_foot h_m_fork h_m_text h_m_rule hc0 (by omega) (by omega) hpost
theorem t_X10_heldR {post : Int32 → Int32 → Int32 → Prop} {p0 : Int32} {jY : Nat} {m_length qG uW eY dN aR aE bJ aW : Int32} {m_x jA pY oY pR rG rQ : Nat → Int32} (h_p0 : 0 ≤ Int32.toInt p0 ∧ Int32.toInt p0 ≤ 4) (h_m_read : jY = 1 ∨ jY = 2) (h_m_length : 1 ≤ Int32.toInt m_length ∧ Int32.toInt m_length ≤ 80) (h_m_top : 40 ≤ Int32.toInt qG ∧ Int32.toInt qG ≤ 40) (h_m_at : 0 ≤ Int32.toInt uW ∧ Int32.toInt uW ≤ 80) (h_m_wrong : -1 ≤ Int32.toInt eY ∧ Int32.toInt eY ≤ -1) (h_m_isAsked : 0 ≤ Int32.toInt dN ∧ Int32.toInt dN ≤ 1) (h_m_askedFruit : 0 ≤ Int32.toInt aR ∧ Int32.toInt aR ≤ 15) (h_m_askedStanding : 0 ≤ Int32.toInt aE ∧ Int32.toInt aE ≤ 7) (h_m_askedHook : 0 ≤ Int32.toInt bJ ∧ Int32.toInt bJ ≤ 1) (h_m_askedApron : 0 ≤ Int32.toInt aW ∧ Int32.toInt aW ≤ 63) (h_m_x : ∀ k : Nat, 0 ≤ Int32.toInt (m_x k) ∧ Int32.toInt (m_x k) ≤ 99) (h_m_height : ∀ k : Nat, 0 ≤ Int32.toInt (jA k) ∧ Int32.toInt (jA k) ≤ 99) (h_m_worth : ∀ k : Nat, 0 ≤ Int32.toInt (pY k) ∧ Int32.toInt (pY k) ≤ 9) (h_m_foot : ∀ k : Nat, 0 ≤ Int32.toInt (oY k) ∧ Int32.toInt (oY k) ≤ 99) (h_m_fork : ∀ k : Nat, 0 ≤ Int32.toInt (pR k) ∧ Int32.toInt (pR k) ≤ 99) (h_m_text : ∀ k : Nat, -128 ≤ Int32.toInt (rG k) ∧ Int32.toInt (rG k) ≤ 127) (h_m_rule : ∀ k : Nat, -128 ≤ Int32.toInt (rQ k) ∧ Int32.toInt (rQ k) ≤ 127) (hx0 : Int32.toInt uW ≤ Int32.toInt qG) (hx1 : jY = 2 → Int32.toInt qG ≤ 40) (hx2 : Int32.toInt qG ≤ 42) (hpost : ∀ (r : Int32) (m_at' : Int32) (m_wrong' : Int32), (0 ≤ Int32.toInt m_at' ∧ Int32.toInt m_at' ≤ 80) → (-1 ≤ Int32.toInt m_wrong' ∧ Int32.toInt m_wrong' ≤ 80) → (Int32.toInt uW ≤ Int32.toInt m_at') → (Int32.toInt m_at' ≤ Int32.toInt qG) → post r m_at' m_wrong') : wp_X10_heldR post p0 jY m_length qG uW eY dN aR aE bJ aW m_x jA pY oY pR rG rQ := t_X10_held (rr_X10_t 43).1 (rr_X10_t 43).2 h_p0 h_m_read h_m_length h_m_top h_m_at h_m_wrong h_m_isAsked h_m_askedFruit h_m_askedStanding h_m_askedHook h_m_askedApron h_m_x h_m_height h_m_worth h_m_foot h_m_fork h_m_text h_m_rule (by omega) (by omega) (by omega) hpost
set_option maxHeartbeats 8000000 in
set_option maxRecDepth 200000 in
theorem ts_X10_rule_73 {post : Int32 → Int32 → Int32 → Nat → Int32 → Int32 → Int32 → Int32 → Int32 → Int32 → (Nat → Int32) → Prop} {next : Int32 → Int32 → Int32 → Int32 → Nat → Int32 → Int32 → Int32 → Int32 → Int32 → Int32 → (Nat → Int32) → Prop} {n73 : Int} (aR aE bJ aW : Int32) (m_x jA pY oY pR rG : Nat → Int32) (h_m_askedFruit : 0 ≤ Int32.toInt aR ∧ Int32.toInt aR ≤ 15) (h_m_askedStanding : 0 ≤ Int32.toInt aE ∧ Int32.toInt aE ≤ 7) (h_m_askedHook : 0 ≤ Int32.toInt bJ ∧ Int32.toInt bJ ≤ 1) (h_m_askedApron : 0 ≤ Int32.toInt aW ∧ Int32.toInt aW ≤ 63) (h_m_x : ∀ k : Nat, 0 ≤ Int32.toInt (m_x k) ∧ Int32.toInt (m_x k) ≤ 99) (h_m_height : ∀ k : Nat, 0 ≤ Int32.toInt (jA k) ∧ Int32.toInt (jA k) ≤ 99) (h_m_worth : ∀ k : Nat, 0 ≤ Int32.toInt (pY k) ∧ Int32.toInt (pY k) ≤ 9) (h_m_foot : ∀ k : Nat, 0 ≤ Int32.toInt (oY k) ∧ Int32.toInt (oY k) ≤ 99) (h_m_fork : ∀ k : Nat, 0 ≤ Int32.toInt (pR k) ∧ Int32.toInt (pR k) ≤ 99) (h_m_text : ∀ k : Nat, -128 ≤ Int32.toInt (rG k) ∧ Int32.toInt (rG k) ≤ 127) (hpost : ∀ (r : Int32) (m_typed' : Int32) (m_thrown' : Int32) (m_read' : Nat) (m_length' : Int32) (m_top' : Int32) (m_at' : Int32) (m_wrong' : Int32) (m_ruleSize' : Int32) (m_isAsked' : Int32) (m_rule' : Nat → Int32), (-100 ≤ Int32.toInt r ∧ Int32.toInt r ≤ 0) → (0 ≤ Int32.toInt m_typed' ∧ Int32.toInt m_typed' ≤ 0) → (0 ≤ Int32.toInt m_thrown' ∧ Int32.toInt m_thrown' ≤ 0) → (m_read' = 1) → (0 ≤ Int32.toInt m_length' ∧ Int32.toInt m_length' ≤ 80) → (40 ≤ Int32.toInt m_top' ∧ Int32.toInt m_top' ≤ 40) → (0 ≤ Int32.toInt m_at' ∧ Int32.toInt m_at' ≤ 80) → (-1 ≤ Int32.toInt m_wrong' ∧ Int32.toInt m_wrong' ≤ 80) → (0 ≤ Int32.toInt m_ruleSize' ∧ Int32.toInt m_ruleSize' ≤ 40) → (0 ≤ Int32.toInt m_isAsked' ∧ Int32.toInt m_isAsked' ≤ 0) → (∀ k : Nat, -128 ≤ Int32.toInt (m_rule' k) ∧ Int32.toInt (m_rule' k) ≤ 127) → post r m_typed' m_thrown' m_read' m_length' m_top' m_at' m_wrong' m_ruleSize' m_isAsked' m_rule') (hKn : ∀ (x1 : Int32) (x2 : Int32) (jG : Int32) (dG : Int32) (jY : Nat) (m_length : Int32) (qG : Int32) (uW : Int32) (eY : Int32) (bU : Int32) (dN : Int32) (rQ : Nat → Int32), (0 ≤ Int32.toInt x1 ∧ Int32.toInt x1 ≤ 40) → (0 ≤ Int32.toInt x2 ∧ Int32.toInt x2 ≤ 40) → (0 ≤ Int32.toInt jG ∧ Int32.toInt jG ≤ 0) → (0 ≤ Int32.toInt dG ∧ Int32.toInt dG ≤ 0) → (jY = 1) → (0 ≤ Int32.toInt m_length ∧ Int32.toInt m_length ≤ 80) → (40 ≤ Int32.toInt qG ∧ Int32.toInt qG ≤ 40) → (0 ≤ Int32.toInt uW ∧ Int32.toInt uW ≤ 80) → (-1 ≤ Int32.toInt eY ∧ Int32.toInt eY ≤ -1) → (0 ≤ Int32.toInt bU ∧ Int32.toInt bU ≤ 40) → (0 ≤ Int32.toInt dN ∧ Int32.toInt dN ≤ 0) → (∀ k : Nat, -128 ≤ Int32.toInt (rQ k) ∧ Int32.toInt (rQ k) ≤ 127) → (40 - Int32.toInt x2 < n73) → next x1 x2 jG dG jY m_length qG uW eY bU dN rQ) (x1 x2 jG dG : Int32) (jY : Nat) (m_length qG uW eY bU dN : Int32) (rQ : Nat → Int32) (h_x1 : 0 ≤ Int32.toInt x1 ∧ Int32.toInt x1 ≤ 40) (h_x2 : 0 ≤ Int32.toInt x2 ∧ Int32.toInt x2 ≤ 40) (h_m_typed : 0 ≤ Int32.toInt jG ∧ Int32.toInt jG ≤ 0) (h_m_thrown : 0 ≤ Int32.toInt dG ∧ Int32.toInt dG ≤ 0) (h_m_read : jY = 1) (h_m_length : 0 ≤ Int32.toInt m_length ∧ Int32.toInt m_length ≤ 80) (h_m_top : 40 ≤ Int32.toInt qG ∧ Int32.toInt qG ≤ 40) (h_m_at : 0 ≤ Int32.toInt uW ∧ Int32.toInt uW ≤ 80) (h_m_wrong : -1 ≤ Int32.toInt eY ∧ Int32.toInt eY ≤ -1) (h_m_ruleSize : 0 ≤ Int32.toInt bU ∧ Int32.toInt bU ≤ 40) (h_m_isAsked : 0 ≤ Int32.toInt dN ∧ Int32.toInt dN ≤ 0) (h_m_rule : ∀ k : Nat, -128 ≤ Int32.toInt (rQ k) ∧ Int32.toInt (rQ k) ≤ 127) (hn73 : 40 - Int32.toInt x2 ≤ n73) : ws_X10_rule_73 post next aR aE bJ aW m_x jA pY oY pR rG x1 x2 jG dG jY m_length qG uW eY bU dN rQ := by
  have l0 := li_0
  have l1 := li_1
  refine And.intro (fun c1 => ?_) (fun c1 => ?_)
  · skip
    have c1 := (fa_le _ _).mp c1
    exact hpost _ _ _ _ _ _ _ _ _ _ _ (by omega) h_m_typed h_m_thrown h_m_read h_m_length h_m_top h_m_at (by omega) h_x1 h_m_isAsked h_m_rule
  · skip
    have c1 := mt (fa_le _ _).mpr c1
    refine And.intro (t_in (by omega)) ?_
    intro v2 ev2
    have f3 := h_m_text x2.toNatClampNeg
    have hv2 := congrArg Int32.toInt ev2
    refine And.intro (t_in (by omega)) ?_
    have qa4 := ti_nar_byte v2
    have a4 : ∀ k : Nat, -128 ≤ Int32.toInt ((upd rQ x2.toNatClampNeg (vp_nar .byte v2)) k) ∧ Int32.toInt ((upd rQ x2.toNatClampNeg (vp_nar .byte v2)) k) ≤ 127 := t_upd (fun k => by have q9 := h_m_rule k; omega) (by omega)
    intro v5 ev5
    have f6 : Int32.toInt (x2 + 1) = Int32.toInt x2 + Int32.toInt (1 : Int32) := ta_add _ _ (by omega)
    rw [← ev5] at f6
    exact hKn x1 v5 jG dG jY m_length qG uW eY bU dN (upd rQ x2.toNatClampNeg (vp_nar .byte v2)) h_x1 (by omega) h_m_typed h_m_thrown h_m_read h_m_length h_m_top h_m_at h_m_wrong h_m_ruleSize h_m_isAsked (fun k => by have q9 := a4 k; omega) (by omega)
set_option maxHeartbeats 8000000 in
set_option maxRecDepth 200000 in
theorem tb_X10_rule_73 {post : Int32 → Int32 → Int32 → Nat → Int32 → Int32 → Int32 → Int32 → Int32 → Int32 → (Nat → Int32) → Prop} (aR aE bJ aW : Int32) (m_x jA pY oY pR rG : Nat → Int32) (h_m_askedFruit : 0 ≤ Int32.toInt aR ∧ Int32.toInt aR ≤ 15) (h_m_askedStanding : 0 ≤ Int32.toInt aE ∧ Int32.toInt aE ≤ 7) (h_m_askedHook : 0 ≤ Int32.toInt bJ ∧ Int32.toInt bJ ≤ 1) (h_m_askedApron : 0 ≤ Int32.toInt aW ∧ Int32.toInt aW ≤ 63) (h_m_x : ∀ k : Nat, 0 ≤ Int32.toInt (m_x k) ∧ Int32.toInt (m_x k) ≤ 99) (h_m_height : ∀ k : Nat, 0 ≤ Int32.toInt (jA k) ∧ Int32.toInt (jA k) ≤ 99) (h_m_worth : ∀ k : Nat, 0 ≤ Int32.toInt (pY k) ∧ Int32.toInt (pY k) ≤ 9) (h_m_foot : ∀ k : Nat, 0 ≤ Int32.toInt (oY k) ∧ Int32.toInt (oY k) ≤ 99) (h_m_fork : ∀ k : Nat, 0 ≤ Int32.toInt (pR k) ∧ Int32.toInt (pR k) ≤ 99) (h_m_text : ∀ k : Nat, -128 ≤ Int32.toInt (rG k) ∧ Int32.toInt (rG k) ≤ 127) (hpost : ∀ (r : Int32) (m_typed' : Int32) (m_thrown' : Int32) (m_read' : Nat) (m_length' : Int32) (m_top' : Int32) (m_at' : Int32) (m_wrong' : Int32) (m_ruleSize' : Int32) (m_isAsked' : Int32) (m_rule' : Nat → Int32), (-100 ≤ Int32.toInt r ∧ Int32.toInt r ≤ 0) → (0 ≤ Int32.toInt m_typed' ∧ Int32.toInt m_typed' ≤ 0) → (0 ≤ Int32.toInt m_thrown' ∧ Int32.toInt m_thrown' ≤ 0) → (m_read' = 1) → (0 ≤ Int32.toInt m_length' ∧ Int32.toInt m_length' ≤ 80) → (40 ≤ Int32.toInt m_top' ∧ Int32.toInt m_top' ≤ 40) → (0 ≤ Int32.toInt m_at' ∧ Int32.toInt m_at' ≤ 80) → (-1 ≤ Int32.toInt m_wrong' ∧ Int32.toInt m_wrong' ≤ 80) → (0 ≤ Int32.toInt m_ruleSize' ∧ Int32.toInt m_ruleSize' ≤ 40) → (0 ≤ Int32.toInt m_isAsked' ∧ Int32.toInt m_isAsked' ≤ 0) → (∀ k : Nat, -128 ≤ Int32.toInt (m_rule' k) ∧ Int32.toInt (m_rule' k) ≤ 127) → post r m_typed' m_thrown' m_read' m_length' m_top' m_at' m_wrong' m_ruleSize' m_isAsked' m_rule') : ∀ (n : Nat) (x1 x2 jG dG : Int32) (jY : Nat) (m_length qG uW eY bU dN : Int32) (rQ : Nat → Int32), (0 ≤ Int32.toInt x1 ∧ Int32.toInt x1 ≤ 40) → (0 ≤ Int32.toInt x2 ∧ Int32.toInt x2 ≤ 40) → (0 ≤ Int32.toInt jG ∧ Int32.toInt jG ≤ 0) → (0 ≤ Int32.toInt dG ∧ Int32.toInt dG ≤ 0) → (jY = 1) → (0 ≤ Int32.toInt m_length ∧ Int32.toInt m_length ≤ 80) → (40 ≤ Int32.toInt qG ∧ Int32.toInt qG ≤ 40) → (0 ≤ Int32.toInt uW ∧ Int32.toInt uW ≤ 80) → (-1 ≤ Int32.toInt eY ∧ Int32.toInt eY ≤ -1) → (0 ≤ Int32.toInt bU ∧ Int32.toInt bU ≤ 40) → (0 ≤ Int32.toInt dN ∧ Int32.toInt dN ≤ 0) → (∀ k : Nat, -128 ≤ Int32.toInt (rQ k) ∧ Int32.toInt (rQ k) ≤ 127) → (40 - Int32.toInt x2 < (n : Int)) → wb_X10_rule_73 post aR aE bJ aW m_x jA pY oY pR rG n x1 x2 jG dG jY m_length qG uW eY bU dN rQ := by
  intro n
  induction n with
  | zero =>
    intro x1 x2 jG dG jY m_length qG uW eY bU dN rQ h_x1 h_x2 h_m_typed h_m_thrown h_m_read h_m_length h_m_top h_m_at h_m_wrong h_m_ruleSize h_m_isAsked h_m_rule hm
    exfalso; omega
  | succ n ih =>
    intro x1 x2 jG dG jY m_length qG uW eY bU dN rQ h_x1 h_x2 h_m_typed h_m_thrown h_m_read h_m_length h_m_top h_m_at h_m_wrong h_m_ruleSize h_m_isAsked h_m_rule hm
    exact ts_X10_rule_73 aR aE bJ aW m_x jA pY oY pR rG h_m_askedFruit h_m_askedStanding h_m_askedHook h_m_askedApron h_m_x h_m_height h_m_worth h_m_foot h_m_fork h_m_text hpost ih x1 x2 jG dG jY m_length qG uW eY bU dN rQ h_x1 h_x2 h_m_typed h_m_thrown h_m_read h_m_length h_m_top h_m_at h_m_wrong h_m_ruleSize h_m_isAsked h_m_rule (by omega)
set_option maxHeartbeats 8000000 in
set_option maxRecDepth 200000 in
theorem ts_X10_rule_71 {post : Int32 → Int32 → Int32 → Nat → Int32 → Int32 → Int32 → Int32 → Int32 → Int32 → (Nat → Int32) → Prop} (aR aE bJ aW : Int32) (m_x jA pY oY pR rG : Nat → Int32) (h_m_askedFruit : 0 ≤ Int32.toInt aR ∧ Int32.toInt aR ≤ 15) (h_m_askedStanding : 0 ≤ Int32.toInt aE ∧ Int32.toInt aE ≤ 7) (h_m_askedHook : 0 ≤ Int32.toInt bJ ∧ Int32.toInt bJ ≤ 1) (h_m_askedApron : 0 ≤ Int32.toInt aW ∧ Int32.toInt aW ≤ 63) (h_m_x : ∀ k : Nat, 0 ≤ Int32.toInt (m_x k) ∧ Int32.toInt (m_x k) ≤ 99) (h_m_height : ∀ k : Nat, 0 ≤ Int32.toInt (jA k) ∧ Int32.toInt (jA k) ≤ 99) (h_m_worth : ∀ k : Nat, 0 ≤ Int32.toInt (pY k) ∧ Int32.toInt (pY k) ≤ 9) (h_m_foot : ∀ k : Nat, 0 ≤ Int32.toInt (oY k) ∧ Int32.toInt (oY k) ≤ 99) (h_m_fork : ∀ k : Nat, 0 ≤ Int32.toInt (pR k) ∧ Int32.toInt (pR k) ≤ 99) (h_m_text : ∀ k : Nat, -128 ≤ Int32.toInt (rG k) ∧ Int32.toInt (rG k) ≤ 127) (hpost : ∀ (r : Int32) (m_typed' : Int32) (m_thrown' : Int32) (m_read' : Nat) (m_length' : Int32) (m_top' : Int32) (m_at' : Int32) (m_wrong' : Int32) (m_ruleSize' : Int32) (m_isAsked' : Int32) (m_rule' : Nat → Int32), (-100 ≤ Int32.toInt r ∧ Int32.toInt r ≤ 0) → (0 ≤ Int32.toInt m_typed' ∧ Int32.toInt m_typed' ≤ 0) → (0 ≤ Int32.toInt m_thrown' ∧ Int32.toInt m_thrown' ≤ 0) → (m_read' = 1) → (0 ≤ Int32.toInt m_length' ∧ Int32.toInt m_length' ≤ 80) → (40 ≤ Int32.toInt m_top' ∧ Int32.toInt m_top' ≤ 40) → (0 ≤ Int32.toInt m_at' ∧ Int32.toInt m_at' ≤ 80) → (-1 ≤ Int32.toInt m_wrong' ∧ Int32.toInt m_wrong' ≤ 80) → (0 ≤ Int32.toInt m_ruleSize' ∧ Int32.toInt m_ruleSize' ≤ 40) → (0 ≤ Int32.toInt m_isAsked' ∧ Int32.toInt m_isAsked' ≤ 0) → (∀ k : Nat, -128 ≤ Int32.toInt (m_rule' k) ∧ Int32.toInt (m_rule' k) ≤ 127) → post r m_typed' m_thrown' m_read' m_length' m_top' m_at' m_wrong' m_ruleSize' m_isAsked' m_rule') (x1 jG dG : Int32) (jY : Nat) (m_length qG uW eY bU dN : Int32) (rQ : Nat → Int32) (h_x1 : 0 ≤ Int32.toInt x1 ∧ Int32.toInt x1 ≤ 40) (h_m_typed : 0 ≤ Int32.toInt jG ∧ Int32.toInt jG ≤ 0) (h_m_thrown : 0 ≤ Int32.toInt dG ∧ Int32.toInt dG ≤ 0) (h_m_read : jY = 1) (h_m_length : 0 ≤ Int32.toInt m_length ∧ Int32.toInt m_length ≤ 80) (h_m_top : 40 ≤ Int32.toInt qG ∧ Int32.toInt qG ≤ 40) (h_m_at : 0 ≤ Int32.toInt uW ∧ Int32.toInt uW ≤ 80) (h_m_wrong : -1 ≤ Int32.toInt eY ∧ Int32.toInt eY ≤ -1) (h_m_ruleSize : 0 ≤ Int32.toInt bU ∧ Int32.toInt bU ≤ 40) (h_m_isAsked : 0 ≤ Int32.toInt dN ∧ Int32.toInt dN ≤ 0) (h_m_rule : ∀ k : Nat, -128 ≤ Int32.toInt (rQ k) ∧ Int32.toInt (rQ k) ≤ 127) : ws_X10_rule_71 post aR aE bJ aW m_x jA pY oY pR rG x1 jG dG jY m_length qG uW eY bU dN rQ := by
  have l0 := li_0
  exact ⟨42, tb_X10_rule_73 aR aE bJ aW m_x jA pY oY pR rG h_m_askedFruit h_m_askedStanding h_m_askedHook h_m_askedApron h_m_x h_m_height h_m_worth h_m_foot h_m_fork h_m_text hpost _ x1 0 jG dG jY m_length qG uW eY bU dN rQ h_x1 (by omega) h_m_typed h_m_thrown h_m_read h_m_length h_m_top h_m_at h_m_wrong h_m_ruleSize h_m_isAsked h_m_rule (by omega)⟩
set_option maxHeartbeats 8000000 in
set_option maxRecDepth 200000 in
theorem ts_X10_rule_57 {post : Int32 → Int32 → Int32 → Nat → Int32 → Int32 → Int32 → Int32 → Int32 → Int32 → (Nat → Int32) → Prop} (aR aE bJ aW : Int32) (m_x jA pY oY pR rG : Nat → Int32) (h_m_askedFruit : 0 ≤ Int32.toInt aR ∧ Int32.toInt aR ≤ 15) (h_m_askedStanding : 0 ≤ Int32.toInt aE ∧ Int32.toInt aE ≤ 7) (h_m_askedHook : 0 ≤ Int32.toInt bJ ∧ Int32.toInt bJ ≤ 1) (h_m_askedApron : 0 ≤ Int32.toInt aW ∧ Int32.toInt aW ≤ 63) (h_m_x : ∀ k : Nat, 0 ≤ Int32.toInt (m_x k) ∧ Int32.toInt (m_x k) ≤ 99) (h_m_height : ∀ k : Nat, 0 ≤ Int32.toInt (jA k) ∧ Int32.toInt (jA k) ≤ 99) (h_m_worth : ∀ k : Nat, 0 ≤ Int32.toInt (pY k) ∧ Int32.toInt (pY k) ≤ 9) (h_m_foot : ∀ k : Nat, 0 ≤ Int32.toInt (oY k) ∧ Int32.toInt (oY k) ≤ 99) (h_m_fork : ∀ k : Nat, 0 ≤ Int32.toInt (pR k) ∧ Int32.toInt (pR k) ≤ 99) (h_m_text : ∀ k : Nat, -128 ≤ Int32.toInt (rG k) ∧ Int32.toInt (rG k) ≤ 127) (hpost : ∀ (r : Int32) (m_typed' : Int32) (m_thrown' : Int32) (m_read' : Nat) (m_length' : Int32) (m_top' : Int32) (m_at' : Int32) (m_wrong' : Int32) (m_ruleSize' : Int32) (m_isAsked' : Int32) (m_rule' : Nat → Int32), (-100 ≤ Int32.toInt r ∧ Int32.toInt r ≤ 0) → (0 ≤ Int32.toInt m_typed' ∧ Int32.toInt m_typed' ≤ 0) → (0 ≤ Int32.toInt m_thrown' ∧ Int32.toInt m_thrown' ≤ 0) → (m_read' = 1) → (0 ≤ Int32.toInt m_length' ∧ Int32.toInt m_length' ≤ 80) → (40 ≤ Int32.toInt m_top' ∧ Int32.toInt m_top' ≤ 40) → (0 ≤ Int32.toInt m_at' ∧ Int32.toInt m_at' ≤ 80) → (-1 ≤ Int32.toInt m_wrong' ∧ Int32.toInt m_wrong' ≤ 80) → (0 ≤ Int32.toInt m_ruleSize' ∧ Int32.toInt m_ruleSize' ≤ 40) → (0 ≤ Int32.toInt m_isAsked' ∧ Int32.toInt m_isAsked' ≤ 0) → (∀ k : Nat, -128 ≤ Int32.toInt (m_rule' k) ∧ Int32.toInt (m_rule' k) ≤ 127) → post r m_typed' m_thrown' m_read' m_length' m_top' m_at' m_wrong' m_ruleSize' m_isAsked' m_rule') (x1 jG dG : Int32) (jY : Nat) (m_length qG uW eY bU dN : Int32) (rQ : Nat → Int32) (h_x1 : 1 ≤ Int32.toInt x1 ∧ Int32.toInt x1 ≤ 80) (h_m_typed : 0 ≤ Int32.toInt jG ∧ Int32.toInt jG ≤ 0) (h_m_thrown : 0 ≤ Int32.toInt dG ∧ Int32.toInt dG ≤ 0) (h_m_read : jY = 1) (h_m_length : 1 ≤ Int32.toInt m_length ∧ Int32.toInt m_length ≤ 80) (h_m_top : 40 ≤ Int32.toInt qG ∧ Int32.toInt qG ≤ 40) (h_m_at : 0 ≤ Int32.toInt uW ∧ Int32.toInt uW ≤ 80) (h_m_wrong : -1 ≤ Int32.toInt eY ∧ Int32.toInt eY ≤ 80) (h_m_ruleSize : 0 ≤ Int32.toInt bU ∧ Int32.toInt bU ≤ 40) (h_m_isAsked : 0 ≤ Int32.toInt dN ∧ Int32.toInt dN ≤ 0) (h_m_rule : ∀ k : Nat, -128 ≤ Int32.toInt (rQ k) ∧ Int32.toInt (rQ k) ≤ 127) (hx0 : Int32.toInt eY ≠ -1 ∨ Int32.toInt x1 ≤ Int32.toInt uW) (hx1 : Int32.toInt uW ≤ 40) : ws_X10_rule_57 post aR aE bJ aW m_x jA pY oY pR rG x1 jG dG jY m_length qG uW eY bU dN rQ := by
  have l0 := li_m1
  refine And.intro (fun c7 => ?_) (fun c7 => ?_)
  · skip
    have c7 := mt (fa_eq _ _).mpr c7
    refine And.intro (fun h9 => absurd h9 (by decide)) (fun _ => ?_)
    have f8 : Int32.toInt ((-1) - eY) = Int32.toInt ((-1) : Int32) - Int32.toInt eY := ta_sub _ _ (by omega)
    obtain ⟨w9, ew9⟩ : ∃ w9 : Int32, w9 = (-1) - eY := ⟨_, rfl⟩
    rw [← ew9] at f8
    have key9 := hpost w9 jG dG jY m_length qG uW eY bU dN rQ (by omega) h_m_typed h_m_thrown h_m_read (by omega) h_m_top h_m_at h_m_wrong h_m_ruleSize h_m_isAsked h_m_rule
    subst ew9
    exact key9
  · skip
    have c7 := (fa_eq _ _).mp c7
    refine And.intro (fun _ => ?_) (fun h9 => absurd h9 (by decide))
    exact ts_X10_rule_71 aR aE bJ aW m_x jA pY oY pR rG h_m_askedFruit h_m_askedStanding h_m_askedHook h_m_askedApron h_m_x h_m_height h_m_worth h_m_foot h_m_fork h_m_text hpost x1 jG dG jY m_length qG uW eY bU dN rQ (by omega) h_m_typed h_m_thrown h_m_read (by omega) h_m_top h_m_at (by omega) h_m_ruleSize h_m_isAsked h_m_rule
set_option maxHeartbeats 8000000 in
set_option maxRecDepth 200000 in
theorem t_X10_rule {post : Int32 → Int32 → Int32 → Nat → Int32 → Int32 → Int32 → Int32 → Int32 → Int32 → (Nat → Int32) → Prop} {jG dG : Int32} {jY : Nat} {m_length qG uW eY bU dN aR aE bJ aW : Int32} {m_x jA pY oY pR rG rQ : Nat → Int32} (h_m_typed : 0 ≤ Int32.toInt jG ∧ Int32.toInt jG ≤ 80) (h_m_thrown : 0 ≤ Int32.toInt dG ∧ Int32.toInt dG ≤ 1) (h_m_read : jY = 0 ∨ jY = 1 ∨ jY = 2) (h_m_length : 0 ≤ Int32.toInt m_length ∧ Int32.toInt m_length ≤ 80) (h_m_top : 0 ≤ Int32.toInt qG ∧ Int32.toInt qG ≤ 80) (h_m_at : 0 ≤ Int32.toInt uW ∧ Int32.toInt uW ≤ 80) (h_m_wrong : -1 ≤ Int32.toInt eY ∧ Int32.toInt eY ≤ 80) (h_m_ruleSize : 0 ≤ Int32.toInt bU ∧ Int32.toInt bU ≤ 40) (h_m_isAsked : 0 ≤ Int32.toInt dN ∧ Int32.toInt dN ≤ 0) (h_m_askedFruit : 0 ≤ Int32.toInt aR ∧ Int32.toInt aR ≤ 15) (h_m_askedStanding : 0 ≤ Int32.toInt aE ∧ Int32.toInt aE ≤ 7) (h_m_askedHook : 0 ≤ Int32.toInt bJ ∧ Int32.toInt bJ ≤ 1) (h_m_askedApron : 0 ≤ Int32.toInt aW ∧ Int32.toInt aW ≤ 63) (h_m_x : ∀ k : Nat, 0 ≤ Int32.toInt (m_x k) ∧ Int32.toInt (m_x k) ≤ 99) (h_m_height : ∀ k : Nat, 0 ≤ Int32.toInt (jA k) ∧ Int32.toInt (jA k) ≤ 99) (h_m_worth : ∀ k : Nat, 0 ≤ Int32.toInt (pY k) ∧ Int32.toInt (pY k) ≤ 9) (h_m_foot : ∀ k : Nat, 0 ≤ Int32.toInt (oY k) ∧ Int32.toInt (oY k) ≤ 99) (h_m_fork : ∀ k : Nat, 0 ≤ Int32.toInt (pR k) ∧ Int32.toInt (pR k) ≤ 99) (h_m_text : ∀ k : Nat, -128 ≤ Int32.toInt (rG k) ∧ Int32.toInt (rG k) ≤ 127) (h_m_rule : ∀ k : Nat, -128 ≤ Int32.toInt (rQ k) ∧ Int32.toInt (rQ k) ≤ 127) (hpost : ∀ (r : Int32) (m_typed' : Int32) (m_thrown' : Int32) (m_read' : Nat) (m_length' : Int32) (m_top' : Int32) (m_at' : Int32) (m_wrong' : Int32) (m_ruleSize' : Int32) (m_isAsked' : Int32) (m_rule' : Nat → Int32), (-100 ≤ Int32.toInt r ∧ Int32.toInt r ≤ 0) → (0 ≤ Int32.toInt m_typed' ∧ Int32.toInt m_typed' ≤ 0) → (0 ≤ Int32.toInt m_thrown' ∧ Int32.toInt m_thrown' ≤ 0) → (m_read' = 1) → (0 ≤ Int32.toInt m_length' ∧ Int32.toInt m_length' ≤ 80) → (40 ≤ Int32.toInt m_top' ∧ Int32.toInt m_top' ≤ 40) → (0 ≤ Int32.toInt m_at' ∧ Int32.toInt m_at' ≤ 80) → (-1 ≤ Int32.toInt m_wrong' ∧ Int32.toInt m_wrong' ≤ 80) → (0 ≤ Int32.toInt m_ruleSize' ∧ Int32.toInt m_ruleSize' ≤ 40) → (0 ≤ Int32.toInt m_isAsked' ∧ Int32.toInt m_isAsked' ≤ 0) → (∀ k : Nat, -128 ≤ Int32.toInt (m_rule' k) ∧ Int32.toInt (m_rule' k) ≤ 127) → post r m_typed' m_thrown' m_read' m_length' m_top' m_at' m_wrong' m_ruleSize' m_isAsked' m_rule') : wp_X10_rule post jG dG jY m_length qG uW eY bU dN aR aE bJ aW m_x jA pY oY pR rG rQ := by
  have l0 := li_m1
  have l1 := li_0
  have l2 := li_40
  refine And.intro (fun c10 => ?_) (fun c10 => ?_)
  · skip
    have c10 := (fa_le _ _).mp c10
    exact ts_X10_rule_71 aR aE bJ aW m_x jA pY oY pR rG h_m_askedFruit h_m_askedStanding h_m_askedHook h_m_askedApron h_m_x h_m_height h_m_worth h_m_foot h_m_fork h_m_text hpost jG 0 0 1 jG 40 0 (-1) bU 0 rQ (by omega) (by omega) (by omega) (by first | exact h_m_read | exact Or.inl rfl | exact Or.inr rfl | omega) h_m_typed (by omega) (by omega) (by omega) h_m_ruleSize (by omega) h_m_rule
  · skip
    have c10 := mt (fa_le _ _).mpr c10
    refine t_X10_heldR (by omega) (by first | exact Or.inl rfl | exact Or.inr rfl | rfl) (by omega) (by omega) (by omega) (by omega) (by omega) h_m_askedFruit h_m_askedStanding h_m_askedHook h_m_askedApron h_m_x h_m_height h_m_worth h_m_foot h_m_fork h_m_text h_m_rule (by omega) (by omega) (by omega) (fun r13 aGk aAQ h_m_at_11 h_m_wrong_12 ox14 ox15 => ?_)
    refine And.intro (fun c16 => ?_) (fun c16 => ?_)
    · skip
      have c16 := (fa_le _ _).mp c16
      exact ts_X10_rule_57 aR aE bJ aW m_x jA pY oY pR rG h_m_askedFruit h_m_askedStanding h_m_askedHook h_m_askedApron h_m_x h_m_height h_m_worth h_m_foot h_m_fork h_m_text hpost jG 0 0 1 jG 40 aGk aAQ bU 0 rQ (by omega) (by omega) (by omega) (by first | exact h_m_read | exact Or.inl rfl | exact Or.inr rfl | omega) (by omega) (by omega) h_m_at_11 h_m_wrong_12 h_m_ruleSize (by omega) h_m_rule (by omega) (by omega)
    · skip
      have c16 := mt (fa_le _ _).mpr c16
      refine And.intro (fun c17 => ?_) (fun c17 => ?_)
      · skip
        have c17 := mt (fa_eq _ _).mpr c17
        refine And.intro (fun _ => ?_) (fun h9 => absurd h9 (by decide))
        exact ts_X10_rule_57 aR aE bJ aW m_x jA pY oY pR rG h_m_askedFruit h_m_askedStanding h_m_askedHook h_m_askedApron h_m_x h_m_height h_m_worth h_m_foot h_m_fork h_m_text hpost jG 0 0 1 jG 40 aGk aAQ bU 0 rQ (by omega) (by omega) (by omega) (by first | exact h_m_read | exact Or.inl rfl | exact Or.inr rfl | omega) (by omega) (by omega) h_m_at_11 h_m_wrong_12 h_m_ruleSize (by omega) h_m_rule (by omega) (by omega)
      · skip
        have c17 := (fa_eq _ _).mp c17
        refine And.intro (fun h9 => absurd h9 (by decide)) (fun _ => ?_)
        exact ts_X10_rule_57 aR aE bJ aW m_x jA pY oY pR rG h_m_askedFruit h_m_askedStanding h_m_askedHook h_m_askedApron h_m_x h_m_height h_m_worth h_m_foot h_m_fork h_m_text hpost jG 0 0 1 jG 40 aGk aGk bU 0 rQ (by omega) (by omega) (by omega) (by first | exact h_m_read | exact Or.inl rfl | exact Or.inr rfl | omega) (by omega) (by omega) h_m_at_11 (by omega) h_m_ruleSize (by omega) h_m_rule (by omega) (by omega)
theorem t_X10_which {post : Int32 → Prop} {SB : Int} {p1 bW : Int32} {rD : Nat → Int32} (h_p1 : 0 ≤ Int32.toInt p1 ∧ Int32.toInt p1 ≤ 3) (h_m_fruits : 0 ≤ Int32.toInt bW ∧ Int32.toInt bW ≤ 16) (e0_m_now : ∀ k : Nat, k = 17 → -1 ≤ Int32.toInt (rD k) ∧ Int32.toInt (rD k) ≤ SB) (e1_m_now : ∀ k : Nat, k = 19 → 0 ≤ Int32.toInt (rD k) ∧ Int32.toInt (rD k) ≤ 9) (hc0 : -1 ≤ SB ∧ SB ≤ 7) (hpost : ∀ (r : Int32) , (0 ≤ Int32.toInt r ∧ Int32.toInt r ≤ 65535) → (r = bsf (Int32.toInt bW).toNat (fun k => decide (rD k = p1))) → post r) : wp_X10_which post p1 bW rD := by
  refine f_which h_m_fruits (hpost _ ?_ rfl)
  exact bsf_rng _ (by omega) _
set_option maxHeartbeats 8000000 in
set_option maxRecDepth 200000 in
theorem ts_X10_below_42 {post : Int32 → Prop} {K5 : Int32 → Int32 → Int32 → Int32 → Prop} {n5 : Int} (bW : Int32) (m_x jA : Nat → Int32) (h_m_fruits : 0 ≤ Int32.toInt bW ∧ Int32.toInt bW ≤ 16) (h_m_x : ∀ k : Nat, 0 ≤ Int32.toInt (m_x k) ∧ Int32.toInt (m_x k) ≤ 99) (h_m_height : ∀ k : Nat, 0 ≤ Int32.toInt (jA k) ∧ Int32.toInt (jA k) ≤ 99) (hpost : ∀ (r : Int32) , (0 ≤ Int32.toInt r ∧ Int32.toInt r ≤ 65535) → post r) (hK5 : ∀ (x1 : Int32) (x2 : Int32) (x3 : Int32) (x4 : Int32), (0 ≤ Int32.toInt x1 ∧ Int32.toInt x1 ≤ 15) → (0 ≤ Int32.toInt x2 ∧ Int32.toInt x2 ≤ 65535) → (0 ≤ Int32.toInt x3 ∧ Int32.toInt x3 ≤ 65535) → (0 ≤ Int32.toInt x4 ∧ Int32.toInt x4 ≤ 16) → (16 - Int32.toInt x4 < n5) → K5 x1 x2 x3 x4) (x1 x2 x4 k0 k1 : Int32) (h_x1 : 0 ≤ Int32.toInt x1 ∧ Int32.toInt x1 ≤ 15) (h_x2 : 0 ≤ Int32.toInt x2 ∧ Int32.toInt x2 ≤ 65535) (h_x4 : 0 ≤ Int32.toInt x4 ∧ Int32.toInt x4 ≤ 15) (h_k0 : 0 ≤ Int32.toInt k0 ∧ Int32.toInt k0 ≤ 65535) (h_k1 : 0 ≤ Int32.toInt k1 ∧ Int32.toInt k1 ≤ 32768) (hn5 : 16 - Int32.toInt x4 ≤ n5) : ws_X10_below_42 post K5 bW m_x jA x1 x2 x4 k0 k1 := by
  have l0 := li_1
  intro v1 ev1
  have f2 := ti_or 16 65536 k0 k1 (by decide) (by omega) (by omega)
  have hv1 := congrArg Int32.toInt ev1
  intro v3 ev3
  have f4 : Int32.toInt (x4 + 1) = Int32.toInt x4 + Int32.toInt (1 : Int32) := ta_add _ _ (by omega)
  rw [← ev3] at f4
  exact hK5 x1 x2 v1 v3 h_x1 h_x2 (by omega) (by omega) (by omega)
set_option maxHeartbeats 8000000 in
set_option maxRecDepth 200000 in
theorem ts_X10_below_41 {post : Int32 → Prop} {K5 : Int32 → Int32 → Int32 → Int32 → Prop} {n5 : Int} (bW : Int32) (m_x jA : Nat → Int32) (h_m_fruits : 0 ≤ Int32.toInt bW ∧ Int32.toInt bW ≤ 16) (h_m_x : ∀ k : Nat, 0 ≤ Int32.toInt (m_x k) ∧ Int32.toInt (m_x k) ≤ 99) (h_m_height : ∀ k : Nat, 0 ≤ Int32.toInt (jA k) ∧ Int32.toInt (jA k) ≤ 99) (hpost : ∀ (r : Int32) , (0 ≤ Int32.toInt r ∧ Int32.toInt r ≤ 65535) → post r) (hK5 : ∀ (x1 : Int32) (x2 : Int32) (x3 : Int32) (x4 : Int32), (0 ≤ Int32.toInt x1 ∧ Int32.toInt x1 ≤ 15) → (0 ≤ Int32.toInt x2 ∧ Int32.toInt x2 ≤ 65535) → (0 ≤ Int32.toInt x3 ∧ Int32.toInt x3 ≤ 65535) → (0 ≤ Int32.toInt x4 ∧ Int32.toInt x4 ≤ 16) → (16 - Int32.toInt x4 < n5) → K5 x1 x2 x3 x4) (x1 x2 x4 k0 : Int32) (h_x1 : 0 ≤ Int32.toInt x1 ∧ Int32.toInt x1 ≤ 15) (h_x2 : 0 ≤ Int32.toInt x2 ∧ Int32.toInt x2 ≤ 65535) (h_x4 : 0 ≤ Int32.toInt x4 ∧ Int32.toInt x4 ≤ 15) (h_k0 : 0 ≤ Int32.toInt k0 ∧ Int32.toInt k0 ≤ 65535) (hn5 : 16 - Int32.toInt x4 ≤ n5) : ws_X10_below_41 post K5 bW m_x jA x1 x2 x4 k0 := by
  have l0 := li_0
  exact ts_X10_below_42 bW m_x jA h_m_fruits h_m_x h_m_height hpost hK5 x1 x2 x4 k0 0 h_x1 h_x2 h_x4 h_k0 (by omega) hn5
set_option maxHeartbeats 8000000 in
set_option maxRecDepth 200000 in
theorem ts_X10_below_5 {post : Int32 → Prop} {next : Int32 → Int32 → Int32 → Int32 → Prop} {n5 : Int} (bW : Int32) (m_x jA : Nat → Int32) (h_m_fruits : 0 ≤ Int32.toInt bW ∧ Int32.toInt bW ≤ 16) (h_m_x : ∀ k : Nat, 0 ≤ Int32.toInt (m_x k) ∧ Int32.toInt (m_x k) ≤ 99) (h_m_height : ∀ k : Nat, 0 ≤ Int32.toInt (jA k) ∧ Int32.toInt (jA k) ≤ 99) (hpost : ∀ (r : Int32) , (0 ≤ Int32.toInt r ∧ Int32.toInt r ≤ 65535) → post r) (hKn : ∀ (x1 : Int32) (x2 : Int32) (x3 : Int32) (x4 : Int32), (0 ≤ Int32.toInt x1 ∧ Int32.toInt x1 ≤ 15) → (0 ≤ Int32.toInt x2 ∧ Int32.toInt x2 ≤ 65535) → (0 ≤ Int32.toInt x3 ∧ Int32.toInt x3 ≤ 65535) → (0 ≤ Int32.toInt x4 ∧ Int32.toInt x4 ≤ 16) → (16 - Int32.toInt x4 < n5) → next x1 x2 x3 x4) (x1 x2 x3 x4 : Int32) (h_x1 : 0 ≤ Int32.toInt x1 ∧ Int32.toInt x1 ≤ 15) (h_x2 : 0 ≤ Int32.toInt x2 ∧ Int32.toInt x2 ≤ 65535) (h_x3 : 0 ≤ Int32.toInt x3 ∧ Int32.toInt x3 ≤ 65535) (h_x4 : 0 ≤ Int32.toInt x4 ∧ Int32.toInt x4 ≤ 16) (hn5 : 16 - Int32.toInt x4 ≤ n5) : ws_X10_below_5 post next bW m_x jA x1 x2 x3 x4 := by
  have l0 := li_1
  refine And.intro (fun c5 => ?_) (fun c5 => ?_)
  · skip
    have c5 := (fa_le _ _).mp c5
    exact hpost _ h_x3
  · skip
    have c5 := mt (fa_le _ _).mpr c5
    intro v6 ev6
    have f7 := ti_shr x2 x4 (by omega)
    have hv6 := congrArg Int32.toInt ev6
    intro v8 ev8
    have f9 := ti_andr v6 1 (by omega)
    have f10 := ti_andl v6 1 (by omega)
    have hv8 := congrArg Int32.toInt ev8
    refine And.intro (fun c11 => ?_) (fun c11 => ?_)
    · skip
      have c11 := mt (fa_eq _ _).mpr c11
      refine And.intro (fun _ => ?_) (fun h9 => absurd h9 (by decide))
      exact ts_X10_below_41 bW m_x jA h_m_fruits h_m_x h_m_height hpost hKn x1 x2 x4 x3 h_x1 h_x2 (by omega) h_x3 hn5
    · skip
      have c11 := (fa_eq _ _).mp c11
      refine And.intro (fun h9 => absurd h9 (by decide)) (fun _ => ?_)
      refine And.intro (t_in (by omega)) ?_
      intro v12 ev12
      have f13 := h_m_x x1.toNatClampNeg
      have hv12 := congrArg Int32.toInt ev12
      refine And.intro (t_in (by omega)) ?_
      intro v14 ev14
      have f16 := h_m_x x4.toNatClampNeg
      have f15 : Int32.toInt (v12 - (m_x x4.toNatClampNeg)) = Int32.toInt v12 - Int32.toInt (m_x x4.toNatClampNeg) := ta_sub _ _ (by omega)
      rw [← ev14] at f15
      intro v17 ev17
      have f18 := ti_abs v14 (by omega)
      have hv17 := congrArg Int32.toInt ev17
      refine And.intro (fun c19 => ?_) (fun c19 => ?_)
      · skip
        have c19 := (fa_lt _ _).mp c19
        refine And.intro (fun _ => ?_) (fun h9 => absurd h9 (by decide))
        exact ts_X10_below_41 bW m_x jA h_m_fruits h_m_x h_m_height hpost hKn x1 x2 x4 x3 h_x1 h_x2 (by omega) h_x3 hn5
      · skip
        have c19 := mt (fa_lt _ _).mpr c19
        refine And.intro (t_in (by omega)) ?_
        intro v20 ev20
        have f21 := h_m_height x4.toNatClampNeg
        have hv20 := congrArg Int32.toInt ev20
        refine And.intro (t_in (by omega)) ?_
        have f23 := h_m_height x1.toNatClampNeg
        refine And.intro (fun c22 => ?_) (fun c22 => ?_)
        · skip
          have c22 := (fa_le _ _).mp c22
          refine And.intro (fun _ => ?_) (fun h9 => absurd h9 (by decide))
          exact ts_X10_below_41 bW m_x jA h_m_fruits h_m_x h_m_height hpost hKn x1 x2 x4 x3 h_x1 h_x2 (by omega) h_x3 hn5
        · skip
          have c22 := mt (fa_le _ _).mpr c22
          refine And.intro (fun h9 => absurd h9 (by decide)) (fun _ => ?_)
          intro v24 ev24
          have f25 := ti_shl1 15 32768 x4 (by decide) (by omega)
          have hv24 := congrArg Int32.toInt ev24
          exact ts_X10_below_42 bW m_x jA h_m_fruits h_m_x h_m_height hpost hKn x1 x2 x4 x3 v24 h_x1 h_x2 (by omega) h_x3 (by omega) hn5
set_option maxHeartbeats 8000000 in
set_option maxRecDepth 200000 in
theorem tb_X10_below_5 {post : Int32 → Prop} (bW : Int32) (m_x jA : Nat → Int32) (h_m_fruits : 0 ≤ Int32.toInt bW ∧ Int32.toInt bW ≤ 16) (h_m_x : ∀ k : Nat, 0 ≤ Int32.toInt (m_x k) ∧ Int32.toInt (m_x k) ≤ 99) (h_m_height : ∀ k : Nat, 0 ≤ Int32.toInt (jA k) ∧ Int32.toInt (jA k) ≤ 99) (hpost : ∀ (r : Int32) , (0 ≤ Int32.toInt r ∧ Int32.toInt r ≤ 65535) → post r) : ∀ (n : Nat) (x1 x2 x3 x4 : Int32), (0 ≤ Int32.toInt x1 ∧ Int32.toInt x1 ≤ 15) → (0 ≤ Int32.toInt x2 ∧ Int32.toInt x2 ≤ 65535) → (0 ≤ Int32.toInt x3 ∧ Int32.toInt x3 ≤ 65535) → (0 ≤ Int32.toInt x4 ∧ Int32.toInt x4 ≤ 16) → (16 - Int32.toInt x4 < (n : Int)) → wb_X10_below_5 post bW m_x jA n x1 x2 x3 x4 := by
  intro n
  induction n with
  | zero =>
    intro x1 x2 x3 x4 h_x1 h_x2 h_x3 h_x4 hm
    exfalso; omega
  | succ n ih =>
    intro x1 x2 x3 x4 h_x1 h_x2 h_x3 h_x4 hm
    exact ts_X10_below_5 bW m_x jA h_m_fruits h_m_x h_m_height hpost ih x1 x2 x3 x4 h_x1 h_x2 h_x3 h_x4 (by omega)
set_option maxHeartbeats 8000000 in
set_option maxRecDepth 200000 in
theorem t_X10_below {post : Int32 → Prop} {p0 p1 bW : Int32} {m_x jA : Nat → Int32} (h_p0 : 0 ≤ Int32.toInt p0 ∧ Int32.toInt p0 ≤ 15) (h_p1 : 0 ≤ Int32.toInt p1 ∧ Int32.toInt p1 ≤ 65535) (h_m_fruits : 0 ≤ Int32.toInt bW ∧ Int32.toInt bW ≤ 16) (h_m_x : ∀ k : Nat, 0 ≤ Int32.toInt (m_x k) ∧ Int32.toInt (m_x k) ≤ 99) (h_m_height : ∀ k : Nat, 0 ≤ Int32.toInt (jA k) ∧ Int32.toInt (jA k) ≤ 99) (hpost : ∀ (r : Int32) , (0 ≤ Int32.toInt r ∧ Int32.toInt r ≤ 65535) → post r) : wp_X10_below post p0 p1 bW m_x jA := by
  have l0 := li_0
  exact ⟨18, tb_X10_below_5 bW m_x jA h_m_fruits h_m_x h_m_height hpost _ p0 p1 0 0 h_p0 h_p1 (by omega) (by omega) (by omega)⟩
set_option maxHeartbeats 8000000 in
set_option maxRecDepth 200000 in
theorem ts_X10_fruit_23 {post : Int32 → Int32 → Prop} {SB : Int} (bW : Int32) (rD m_x jA pY rW : Nat → Int32) (h_m_fruits : 0 ≤ Int32.toInt bW ∧ Int32.toInt bW ≤ 16) (e0_m_now : ∀ k : Nat, k = 17 → -1 ≤ Int32.toInt (rD k) ∧ Int32.toInt (rD k) ≤ SB) (e1_m_now : ∀ k : Nat, k = 19 → 0 ≤ Int32.toInt (rD k) ∧ Int32.toInt (rD k) ≤ 9) (h_m_x : ∀ k : Nat, 0 ≤ Int32.toInt (m_x k) ∧ Int32.toInt (m_x k) ≤ 99) (h_m_height : ∀ k : Nat, 0 ≤ Int32.toInt (jA k) ∧ Int32.toInt (jA k) ≤ 99) (h_m_worth : ∀ k : Nat, 0 ≤ Int32.toInt (pY k) ∧ Int32.toInt (pY k) ≤ 9) (h_m_ripe : ∀ k : Nat, 0 ≤ Int32.toInt (rW k) ∧ Int32.toInt (rW k) ≤ 9) (hc0 : -1 ≤ SB ∧ SB ≤ 7) (hpost : ∀ (r : Int32) (m_thrown' : Int32), (0 ≤ Int32.toInt m_thrown' ∧ Int32.toInt m_thrown' ≤ 1) → post r m_thrown') (dG : Int32) (h_m_thrown : 0 ≤ Int32.toInt dG ∧ Int32.toInt dG ≤ 0) : ws_X10_fruit_23 post bW rD m_x jA pY rW dG := by
  have l0 := li_1
  exact hpost _ _ (by omega)
set_option maxHeartbeats 8000000 in
set_option maxRecDepth 200000 in
theorem t_X10_fruit {post : Int32 → Int32 → Prop} {SB : Int} {p0 p1 bW dG : Int32} {rD m_x jA pY rW : Nat → Int32} (h_m_fruits : 0 ≤ Int32.toInt bW ∧ Int32.toInt bW ≤ 16) (h_m_thrown : 0 ≤ Int32.toInt dG ∧ Int32.toInt dG ≤ 1) (e0_m_now : ∀ k : Nat, k = 17 → -1 ≤ Int32.toInt (rD k) ∧ Int32.toInt (rD k) ≤ SB) (e1_m_now : ∀ k : Nat, k = 19 → 0 ≤ Int32.toInt (rD k) ∧ Int32.toInt (rD k) ≤ 9) (h_m_x : ∀ k : Nat, 0 ≤ Int32.toInt (m_x k) ∧ Int32.toInt (m_x k) ≤ 99) (h_m_height : ∀ k : Nat, 0 ≤ Int32.toInt (jA k) ∧ Int32.toInt (jA k) ≤ 99) (h_m_worth : ∀ k : Nat, 0 ≤ Int32.toInt (pY k) ∧ Int32.toInt (pY k) ≤ 9) (h_m_ripe : ∀ k : Nat, 0 ≤ Int32.toInt (rW k) ∧ Int32.toInt (rW k) ≤ 9) (hc0 : -1 ≤ SB ∧ SB ≤ 7) (hpost : ∀ (r : Int32) (m_thrown' : Int32), (0 ≤ Int32.toInt m_thrown' ∧ Int32.toInt m_thrown' ≤ 1) → post r m_thrown') : wp_X10_fruit post p0 p1 bW dG rD m_x jA pY rW := by
  have l0 := li_0
  have l1 := li_1
  have l2 := li_16
  have l3 := li_2
  have l4 := li_3
  have l5 := li_4
  have l6 := li_5
  have l7 := li_6
  intro v1 ev1
  have f2 : Int32.toInt (bW - 1) = Int32.toInt bW - Int32.toInt (1 : Int32) := ta_sub _ _ (by omega)
  rw [← ev1] at f2
  have f4 := tp_r p0
  refine And.intro (fun c3 => ?_) (fun c3 => ?_)
  · skip
    have c3 := (fa_lt _ _).mp c3
    refine And.intro (t_bool (by omega)) ?_
    refine And.intro (fun _ => ?_) (fun h9 => absurd h9 (by decide))
    exact ts_X10_fruit_23 bW rD m_x jA pY rW h_m_fruits e0_m_now e1_m_now h_m_x h_m_height h_m_worth h_m_ripe hc0 hpost 0 (by omega)
  · skip
    have c3 := mt (fa_lt _ _).mpr c3
    refine And.intro (fun c5 => ?_) (fun c5 => ?_)
    · skip
      have c5 := (fa_lt _ _).mp c5
      refine And.intro (t_bool (by omega)) ?_
      refine And.intro (fun _ => ?_) (fun h9 => absurd h9 (by decide))
      exact ts_X10_fruit_23 bW rD m_x jA pY rW h_m_fruits e0_m_now e1_m_now h_m_x h_m_height h_m_worth h_m_ripe hc0 hpost 0 (by omega)
    · skip
      have c5 := mt (fa_lt _ _).mpr c5
      refine And.intro (t_bool (by omega)) ?_
      refine And.intro (fun h9 => absurd h9 (by decide)) (fun _ => ?_)
      have f7 := tp_r p1
      refine And.intro (fun c6 => ?_) (fun c6 => ?_)
      · skip
        have c6 := (fa_lt _ _).mp c6
        refine And.intro (fun h9 => absurd h9 (by decide)) (fun _ => ?_)
        exact ts_X10_fruit_23 bW rD m_x jA pY rW h_m_fruits e0_m_now e1_m_now h_m_x h_m_height h_m_worth h_m_ripe hc0 hpost 0 (by omega)
      · skip
        have c6 := mt (fa_lt _ _).mpr c6
        refine And.intro (fun c8 => ?_) (fun c8 => ?_)
        · skip
          have c8 := (fa_lt _ _).mp c8
          refine And.intro (fun h9 => absurd h9 (by decide)) (fun _ => ?_)
          exact ts_X10_fruit_23 bW rD m_x jA pY rW h_m_fruits e0_m_now e1_m_now h_m_x h_m_height h_m_worth h_m_ripe hc0 hpost 0 (by omega)
        · skip
          have c8 := mt (fa_lt _ _).mpr c8
          refine And.intro (fun _ => ?_) (fun h9 => absurd h9 (by decide))
          refine And.intro (fun c9 => ?_) ?_
          · skip
            have c9 := (fa_eq _ _).mp c9
            refine And.intro (t_in (by omega)) ?_
            exact hpost _ _ (by omega)
          refine And.intro (fun c10 => ?_) ?_
          · skip
            have c10 := (fa_eq _ _).mp c10
            refine And.intro (t_in (by omega)) ?_
            exact hpost _ _ (by omega)
          refine And.intro (fun c11 => ?_) ?_
          · skip
            have c11 := (fa_eq _ _).mp c11
            refine And.intro (t_in (by omega)) ?_
            exact hpost _ _ (by omega)
          refine And.intro (fun c12 => ?_) ?_
          · skip
            have c12 := (fa_eq _ _).mp c12
            refine And.intro (t_in (by omega)) ?_
            exact hpost _ _ (by omega)
          refine And.intro (fun c13 => ?_) ?_
          · skip
            have c13 := (fa_eq _ _).mp c13
            refine And.intro (t_in (by omega)) ?_
            exact hpost _ _ (by omega)
          refine And.intro (fun c14 => ?_) ?_
          · skip
            have c14 := (fa_eq _ _).mp c14
            intro v15 ev15
            have hv15 := congrArg Int32.toInt ev15
            intro v17 ev17
            exact hpost _ _ (by omega)
          intro c18 c19 c20 c21 c22 c23
          have c18 := mt (fa_eq _ _).mpr c18
          have c19 := mt (fa_eq _ _).mpr c19
          have c20 := mt (fa_eq _ _).mpr c20
          have c21 := mt (fa_eq _ _).mpr c21
          have c22 := mt (fa_eq _ _).mpr c22
          have c23 := mt (fa_eq _ _).mpr c23
          refine And.intro (t_in (by omega)) ?_
          refine And.intro (fun c24 => ?_) (fun c24 => ?_)
          · skip
            have c24 := mt (fa_eq _ _).mpr c24
            exact hpost _ _ (by omega)
          · skip
            have c24 := (fa_eq _ _).mp c24
            refine t_X10_which (by omega) h_m_fruits e0_m_now e1_m_now (by omega) (fun r26 h_r26 ox27 => ?_)
            refine t_X10_below (by omega) h_r26 h_m_fruits h_m_x h_m_height (fun r28 h_r28 => ?_)
            exact hpost _ _ (by omega)
set_option maxHeartbeats 8000000 in
set_option maxRecDepth 200000 in
theorem ts_X10_standing_22 {post : Int32 → Int32 → Prop} (aG : Int32) (oY pR : Nat → Int32) (h_m_standings : 0 ≤ Int32.toInt aG ∧ Int32.toInt aG ≤ 8) (h_m_foot : ∀ k : Nat, 0 ≤ Int32.toInt (oY k) ∧ Int32.toInt (oY k) ≤ 99) (h_m_fork : ∀ k : Nat, 0 ≤ Int32.toInt (pR k) ∧ Int32.toInt (pR k) ≤ 99) (hpost : ∀ (r : Int32) (m_thrown' : Int32), (0 ≤ Int32.toInt r ∧ Int32.toInt r ≤ 99) → (0 ≤ Int32.toInt m_thrown' ∧ Int32.toInt m_thrown' ≤ 1) → post r m_thrown') (dG : Int32) (h_m_thrown : 0 ≤ Int32.toInt dG ∧ Int32.toInt dG ≤ 0) : ws_X10_standing_22 post aG oY pR dG := by
  have l0 := li_0
  have l1 := li_1
  exact hpost _ _ (by omega) (by omega)
set_option maxHeartbeats 8000000 in
set_option maxRecDepth 200000 in
theorem t_X10_standing {post : Int32 → Int32 → Prop} {p0 p1 aG dG : Int32} {oY pR : Nat → Int32} (h_m_standings : 0 ≤ Int32.toInt aG ∧ Int32.toInt aG ≤ 8) (h_m_thrown : 0 ≤ Int32.toInt dG ∧ Int32.toInt dG ≤ 1) (h_m_foot : ∀ k : Nat, 0 ≤ Int32.toInt (oY k) ∧ Int32.toInt (oY k) ≤ 99) (h_m_fork : ∀ k : Nat, 0 ≤ Int32.toInt (pR k) ∧ Int32.toInt (pR k) ≤ 99) (hpost : ∀ (r : Int32) (m_thrown' : Int32), (0 ≤ Int32.toInt r ∧ Int32.toInt r ≤ 99) → (0 ≤ Int32.toInt m_thrown' ∧ Int32.toInt m_thrown' ≤ 1) → post r m_thrown') : wp_X10_standing post p0 p1 aG dG oY pR := by
  have l0 := li_0
  have l1 := li_1
  have l2 := li_10
  have l3 := li_2
  have l4 := li_3
  have l5 := li_9
  intro v1 ev1
  have f2 : Int32.toInt (aG - 1) = Int32.toInt aG - Int32.toInt (1 : Int32) := ta_sub _ _ (by omega)
  rw [← ev1] at f2
  have f4 := tp_r p0
  refine And.intro (fun c3 => ?_) (fun c3 => ?_)
  · skip
    have c3 := (fa_lt _ _).mp c3
    refine And.intro (t_bool (by omega)) ?_
    refine And.intro (fun _ => ?_) (fun h9 => absurd h9 (by decide))
    exact ts_X10_standing_22 aG oY pR h_m_standings h_m_foot h_m_fork hpost 0 (by omega)
  · skip
    have c3 := mt (fa_lt _ _).mpr c3
    refine And.intro (fun c5 => ?_) (fun c5 => ?_)
    · skip
      have c5 := (fa_lt _ _).mp c5
      refine And.intro (t_bool (by omega)) ?_
      refine And.intro (fun _ => ?_) (fun h9 => absurd h9 (by decide))
      exact ts_X10_standing_22 aG oY pR h_m_standings h_m_foot h_m_fork hpost 0 (by omega)
    · skip
      have c5 := mt (fa_lt _ _).mpr c5
      refine And.intro (t_bool (by omega)) ?_
      refine And.intro (fun h9 => absurd h9 (by decide)) (fun _ => ?_)
      have f7 := tp_r p1
      refine And.intro (fun c6 => ?_) (fun c6 => ?_)
      · skip
        have c6 := (fa_lt _ _).mp c6
        refine And.intro (fun h9 => absurd h9 (by decide)) (fun _ => ?_)
        exact ts_X10_standing_22 aG oY pR h_m_standings h_m_foot h_m_fork hpost 0 (by omega)
      · skip
        have c6 := mt (fa_lt _ _).mpr c6
        refine And.intro (fun c8 => ?_) (fun c8 => ?_)
        · skip
          have c8 := (fa_lt _ _).mp c8
          refine And.intro (fun h9 => absurd h9 (by decide)) (fun _ => ?_)
          exact ts_X10_standing_22 aG oY pR h_m_standings h_m_foot h_m_fork hpost 0 (by omega)
        · skip
          have c8 := mt (fa_lt _ _).mpr c8
          refine And.intro (fun _ => ?_) (fun h9 => absurd h9 (by decide))
          refine And.intro (fun c9 => ?_) (fun c9 => ?_)
          · skip
            have c9 := mt (fa_eq _ _).mpr c9
            refine And.intro (fun c10 => ?_) (fun c10 => ?_)
            · skip
              have c10 := mt (fa_eq _ _).mpr c10
              refine And.intro (t_in (by omega)) ?_
              intro v11 ev11
              have f12 := h_m_fork p0.toNatClampNeg
              have hv11 := congrArg Int32.toInt ev11
              intro v13 ev13
              have f14 : Int32.toInt (v11 + 9) = Int32.toInt v11 + Int32.toInt (9 : Int32) := ta_add _ _ (by omega)
              rw [← ev13] at f14
              have f16 : Int32.toInt (v13 / 10) = Int32.toInt v13 / 10 := ti_div _ _ (by decide) (by omega) (by decide)
              have f15 : Int32.toInt (3 + (v13 / 10)) = Int32.toInt (3 : Int32) + Int32.toInt (v13 / 10) := ta_add _ _ (by omega)
              exact hpost _ _ (by omega) (by omega)
            · skip
              have c10 := (fa_eq _ _).mp c10
              refine And.intro (t_in (by omega)) ?_
              intro v17 ev17
              have f18 := h_m_fork p0.toNatClampNeg
              have hv17 := congrArg Int32.toInt ev17
              exact hpost _ _ (by omega) (by omega)
          · skip
            have c9 := (fa_eq _ _).mp c9
            refine And.intro (t_in (by omega)) ?_
            intro v19 ev19
            have f20 := h_m_foot p0.toNatClampNeg
            have hv19 := congrArg Int32.toInt ev19
            exact hpost _ _ (by omega) (by omega)
set_option maxHeartbeats 8000000 in
set_option maxRecDepth 200000 in
theorem ts_X10_set_47 {post : Int32 → Int32 → (Nat → Int32) → Prop} (hpost : ∀ (r : Int32) (m_thrown' : Int32) (m_told' : Nat → Int32), (0 ≤ Int32.toInt m_thrown' ∧ Int32.toInt m_thrown' ≤ 0) → (∀ k : Nat, k = 4 → 1 ≤ Int32.toInt (m_told' k) ∧ Int32.toInt (m_told' k) ≤ 30) → (∀ k : Nat, k = 3 → 0 ≤ Int32.toInt (m_told' k) ∧ Int32.toInt (m_told' k) ≤ 9) → post r m_thrown' m_told') (x1 x2 k0 k1 k2 dG : Int32) (pX : Nat → Int32) (h_x1 : 0 ≤ Int32.toInt x1 ∧ Int32.toInt x1 ≤ 4) (h_k1 : 0 ≤ Int32.toInt k1 ∧ Int32.toInt k1 ≤ 1) (h_k2 : 9 ≤ Int32.toInt k2 ∧ Int32.toInt k2 ≤ 30) (h_m_thrown : 0 ≤ Int32.toInt dG ∧ Int32.toInt dG ≤ 0) (e0_m_told : ∀ k : Nat, k = 4 → 1 ≤ Int32.toInt (pX k) ∧ Int32.toInt (pX k) ≤ 30) (e1_m_told : ∀ k : Nat, k = 3 → 0 ≤ Int32.toInt (pX k) ∧ Int32.toInt (pX k) ≤ 9) (hx0 : Int32.toInt k0 = Int32.toInt x2) (hx1 : Int32.toInt x1 = 4 → Int32.toInt k1 = 1) (hx2 : Int32.toInt x1 = 3 → Int32.toInt k2 ≤ 9) : ws_X10_set_47 post x1 x2 k0 k1 k2 dG pX := by
  have f2 := tp_r k0
  refine And.intro (fun c1 => ?_) (fun c1 => ?_)
  · skip
    have c1 := (fa_lt _ _).mp c1
    refine And.intro (fun h9 => absurd h9 (by decide)) (fun _ => ?_)
    exact hpost _ _ _ h_m_thrown e0_m_told e1_m_told
  · skip
    have c1 := mt (fa_lt _ _).mpr c1
    refine And.intro (fun c3 => ?_) (fun c3 => ?_)
    · skip
      have c3 := (fa_lt _ _).mp c3
      refine And.intro (fun h9 => absurd h9 (by decide)) (fun _ => ?_)
      exact hpost _ _ _ h_m_thrown e0_m_told e1_m_told
    · skip
      have c3 := mt (fa_lt _ _).mpr c3
      refine And.intro (fun _ => ?_) (fun h9 => absurd h9 (by decide))
      refine And.intro (t_in (by omega)) ?_
      intro v4 ev4
      have hv4 := congrArg Int32.toInt ev4
      refine And.intro (t_in (by omega)) ?_
      have f7 := tp_r x2
      have e6 : ∀ k : Nat, k = 4 → 1 ≤ Int32.toInt ((upd pX x1.toNatClampNeg x2) k) ∧ Int32.toInt ((upd pX x1.toNatClampNeg x2) k) ≤ 30 := t_updc (C := fun k => k = 4) e0_m_told (fun hk => by have e9 : x1.toNatClampNeg = (Int32.toInt x1).toNat := rfl; have hk : x1.toNatClampNeg = 4 := hk; omega)
      have e8 : ∀ k : Nat, k = 3 → 0 ≤ Int32.toInt ((upd pX x1.toNatClampNeg x2) k) ∧ Int32.toInt ((upd pX x1.toNatClampNeg x2) k) ≤ 9 := t_updc (C := fun k => k = 3) e1_m_told (fun hk => by have e9 : x1.toNatClampNeg = (Int32.toInt x1).toNat := rfl; have hk : x1.toNatClampNeg = 3 := hk; omega)
      exact hpost _ _ _ h_m_thrown e6 e8
set_option maxHeartbeats 8000000 in
set_option maxRecDepth 200000 in
theorem ts_X10_set_25 {post : Int32 → Int32 → (Nat → Int32) → Prop} (hpost : ∀ (r : Int32) (m_thrown' : Int32) (m_told' : Nat → Int32), (0 ≤ Int32.toInt m_thrown' ∧ Int32.toInt m_thrown' ≤ 0) → (∀ k : Nat, k = 4 → 1 ≤ Int32.toInt (m_told' k) ∧ Int32.toInt (m_told' k) ≤ 30) → (∀ k : Nat, k = 3 → 0 ≤ Int32.toInt (m_told' k) ∧ Int32.toInt (m_told' k) ≤ 9) → post r m_thrown' m_told') (x1 x2 k0 k1 dG : Int32) (pX : Nat → Int32) (h_x1 : 0 ≤ Int32.toInt x1 ∧ Int32.toInt x1 ≤ 4) (h_k1 : 0 ≤ Int32.toInt k1 ∧ Int32.toInt k1 ≤ 1) (h_m_thrown : 0 ≤ Int32.toInt dG ∧ Int32.toInt dG ≤ 0) (e0_m_told : ∀ k : Nat, k = 4 → 1 ≤ Int32.toInt (pX k) ∧ Int32.toInt (pX k) ≤ 30) (e1_m_told : ∀ k : Nat, k = 3 → 0 ≤ Int32.toInt (pX k) ∧ Int32.toInt (pX k) ≤ 9) (hx0 : Int32.toInt k0 = Int32.toInt x2) (hx1 : Int32.toInt x1 = 4 → Int32.toInt k1 = 1) : ws_X10_set_25 post x1 x2 k0 k1 dG pX := by
  have l0 := li_16
  have l1 := li_3
  have l2 := li_30
  have l3 := li_4
  have l4 := li_9
  refine And.intro (fun c9 => ?_) (fun c9 => ?_)
  · skip
    have c9 := mt (fa_eq _ _).mpr c9
    refine And.intro (fun c10 => ?_) (fun c10 => ?_)
    · skip
      have c10 := mt (fa_eq _ _).mpr c10
      have f11 := tp_r x2
      have f12 := tp_r k0
      exact ts_X10_set_47 hpost x1 x2 k0 k1 30 dG pX h_x1 h_k1 (by omega) h_m_thrown e0_m_told e1_m_told hx0 hx1 (by omega)
    · skip
      have c10 := (fa_eq _ _).mp c10
      have f13 := tp_r x2
      have f14 := tp_r k0
      exact ts_X10_set_47 hpost x1 x2 k0 k1 9 dG pX h_x1 h_k1 (by omega) h_m_thrown e0_m_told e1_m_told hx0 hx1 (by omega)
  · skip
    have c9 := (fa_eq _ _).mp c9
    have f15 := tp_r x2
    have f16 := tp_r k0
    exact ts_X10_set_47 hpost x1 x2 k0 k1 16 dG pX h_x1 h_k1 (by omega) h_m_thrown e0_m_told e1_m_told hx0 hx1 (by omega)
set_option maxHeartbeats 8000000 in
set_option maxRecDepth 200000 in
theorem t_X10_set {post : Int32 → Int32 → (Nat → Int32) → Prop} {p0 p1 dG : Int32} {pX : Nat → Int32} (h_m_thrown : 0 ≤ Int32.toInt dG ∧ Int32.toInt dG ≤ 1) (e0_m_told : ∀ k : Nat, k = 4 → 1 ≤ Int32.toInt (pX k) ∧ Int32.toInt (pX k) ≤ 30) (e1_m_told : ∀ k : Nat, k = 3 → 0 ≤ Int32.toInt (pX k) ∧ Int32.toInt (pX k) ≤ 9) (hpost : ∀ (r : Int32) (m_thrown' : Int32) (m_told' : Nat → Int32), (0 ≤ Int32.toInt m_thrown' ∧ Int32.toInt m_thrown' ≤ 0) → (∀ k : Nat, k = 4 → 1 ≤ Int32.toInt (m_told' k) ∧ Int32.toInt (m_told' k) ≤ 30) → (∀ k : Nat, k = 3 → 0 ≤ Int32.toInt (m_told' k) ∧ Int32.toInt (m_told' k) ≤ 9) → post r m_thrown' m_told') : wp_X10_set post p0 p1 dG pX := by
  have l0 := li_0
  have l1 := li_1
  have l2 := li_4
  have f18 := tp_r p0
  refine And.intro (fun c17 => ?_) (fun c17 => ?_)
  · skip
    have c17 := (fa_lt _ _).mp c17
    refine And.intro (fun _ => ?_) (fun h9 => absurd h9 (by decide))
    exact hpost _ _ _ (by omega) e0_m_told e1_m_told
  · skip
    have c17 := mt (fa_lt _ _).mpr c17
    refine And.intro (fun c19 => ?_) (fun c19 => ?_)
    · skip
      have c19 := (fa_lt _ _).mp c19
      refine And.intro (fun _ => ?_) (fun h9 => absurd h9 (by decide))
      exact hpost _ _ _ (by omega) e0_m_told e1_m_told
    · skip
      have c19 := mt (fa_lt _ _).mpr c19
      refine And.intro (fun h9 => absurd h9 (by decide)) (fun _ => ?_)
      refine And.intro (fun c20 => ?_) (fun c20 => ?_)
      · skip
        have c20 := mt (fa_eq _ _).mpr c20
        have f21 := tp_r p1
        exact ts_X10_set_25 hpost p0 p1 p1 0 0 pX (by omega) (by omega) (by omega) e0_m_told e1_m_told (by omega) (by omega)
      · skip
        have c20 := (fa_eq _ _).mp c20
        have f22 := tp_r p1
        exact ts_X10_set_25 hpost p0 p1 p1 1 0 pX (by omega) (by omega) (by omega) e0_m_told e1_m_told (by omega) (by omega)
set_option maxHeartbeats 8000000 in
set_option maxRecDepth 200000 in
theorem ts_X10_sheet_109 {post : Int32 → Int32 → (Nat → Int32) → Prop} {K43 : Int32 → Int32 → Int32 → Int32 → Int32 → Int32 → Int32 → (Nat → Int32) → Prop} {n43 : Int} (bW : Int32) (h_m_fruits : 0 ≤ Int32.toInt bW ∧ Int32.toInt bW ≤ 16) (hpost : ∀ (r : Int32) (m_thrown' : Int32) (m_worth' : Nat → Int32), (0 ≤ Int32.toInt m_thrown' ∧ Int32.toInt m_thrown' ≤ 0) → (∀ k : Nat, 0 ≤ Int32.toInt (m_worth' k) ∧ Int32.toInt (m_worth' k) ≤ 9) → post r m_thrown' m_worth') (hK43 : ∀ (x1 : Int32) (x2 : Int32) (x4 : Int32) (x5 : Int32) (x6 : Int32) (x7 : Int32) (dG : Int32) (pY : Nat → Int32), (0 ≤ Int32.toInt x1 ∧ Int32.toInt x1 ≤ 3) → (-2147483648 ≤ Int32.toInt x2 ∧ Int32.toInt x2 ≤ 16) → (0 ≤ Int32.toInt x7 ∧ Int32.toInt x7 ≤ 16) → (0 ≤ Int32.toInt dG ∧ Int32.toInt dG ≤ 0) → (∀ k : Nat, 0 ≤ Int32.toInt (pY k) ∧ Int32.toInt (pY k) ≤ 9) → (16 - Int32.toInt x7 < n43) → K43 x1 x2 x4 x5 x6 x7 dG pY) (x1 x2 x4 x5 x6 x7 k1 k2 dG : Int32) (pY : Nat → Int32) (h_x1 : 0 ≤ Int32.toInt x1 ∧ Int32.toInt x1 ≤ 3) (h_x2 : -2147483648 ≤ Int32.toInt x2 ∧ Int32.toInt x2 ≤ 16) (h_x7 : 0 ≤ Int32.toInt x7 ∧ Int32.toInt x7 ≤ 15) (h_k1 : 0 ≤ Int32.toInt k1 ∧ Int32.toInt k1 ≤ 15) (h_k2 : 0 ≤ Int32.toInt k2 ∧ Int32.toInt k2 ≤ 9) (h_m_thrown : 0 ≤ Int32.toInt dG ∧ Int32.toInt dG ≤ 0) (h_m_worth : ∀ k : Nat, 0 ≤ Int32.toInt (pY k) ∧ Int32.toInt (pY k) ≤ 9) (hn43 : 16 - Int32.toInt x7 ≤ n43) : ws_X10_sheet_109 post K43 bW x1 x2 x4 x5 x6 x7 k1 k2 dG pY := by
  have l0 := li_1
  refine And.intro (t_in (by omega)) ?_
  have a1 : ∀ k : Nat, 0 ≤ Int32.toInt ((upd pY k1.toNatClampNeg k2) k) ∧ Int32.toInt ((upd pY k1.toNatClampNeg k2) k) ≤ 9 := t_upd (fun k => by have q9 := h_m_worth k; omega) (by omega)
  refine And.intro (t_in (by omega)) ?_
  intro v2 ev2
  have hv2 := congrArg Int32.toInt ev2
  intro v4 ev4
  have hv4 := congrArg Int32.toInt ev4
  intro v6 ev6
  have f7 : Int32.toInt (x7 + 1) = Int32.toInt x7 + Int32.toInt (1 : Int32) := ta_add _ _ (by omega)
  rw [← ev6] at f7
  have f8 := tp_r x2
  have f9 := tp_r x4
  have f10 := tp_r v2
  have f11 := tp_r v4
  exact hK43 x1 x2 x4 v2 v4 v6 dG (upd pY k1.toNatClampNeg k2) h_x1 h_x2 (by omega) h_m_thrown (fun k => by have q9 := a1 k; omega) (by omega)
set_option maxHeartbeats 8000000 in
set_option maxRecDepth 200000 in
theorem ts_X10_sheet_94 {post : Int32 → Int32 → (Nat → Int32) → Prop} {K43 : Int32 → Int32 → Int32 → Int32 → Int32 → Int32 → Int32 → (Nat → Int32) → Prop} {n43 : Int} (bW : Int32) (h_m_fruits : 0 ≤ Int32.toInt bW ∧ Int32.toInt bW ≤ 16) (hpost : ∀ (r : Int32) (m_thrown' : Int32) (m_worth' : Nat → Int32), (0 ≤ Int32.toInt m_thrown' ∧ Int32.toInt m_thrown' ≤ 0) → (∀ k : Nat, 0 ≤ Int32.toInt (m_worth' k) ∧ Int32.toInt (m_worth' k) ≤ 9) → post r m_thrown' m_worth') (hK43 : ∀ (x1 : Int32) (x2 : Int32) (x4 : Int32) (x5 : Int32) (x6 : Int32) (x7 : Int32) (dG : Int32) (pY : Nat → Int32), (0 ≤ Int32.toInt x1 ∧ Int32.toInt x1 ≤ 3) → (-2147483648 ≤ Int32.toInt x2 ∧ Int32.toInt x2 ≤ 16) → (0 ≤ Int32.toInt x7 ∧ Int32.toInt x7 ≤ 16) → (0 ≤ Int32.toInt dG ∧ Int32.toInt dG ≤ 0) → (∀ k : Nat, 0 ≤ Int32.toInt (pY k) ∧ Int32.toInt (pY k) ≤ 9) → (16 - Int32.toInt x7 < n43) → K43 x1 x2 x4 x5 x6 x7 dG pY) (x1 x2 x4 x5 x6 x7 k1 dG : Int32) (pY : Nat → Int32) (h_x1 : 0 ≤ Int32.toInt x1 ∧ Int32.toInt x1 ≤ 3) (h_x2 : -2147483648 ≤ Int32.toInt x2 ∧ Int32.toInt x2 ≤ 16) (h_x7 : 0 ≤ Int32.toInt x7 ∧ Int32.toInt x7 ≤ 15) (h_k1 : 0 ≤ Int32.toInt k1 ∧ Int32.toInt k1 ≤ 15) (h_m_thrown : 0 ≤ Int32.toInt dG ∧ Int32.toInt dG ≤ 0) (h_m_worth : ∀ k : Nat, 0 ≤ Int32.toInt (pY k) ∧ Int32.toInt (pY k) ≤ 9) (hn43 : 16 - Int32.toInt x7 ≤ n43) : ws_X10_sheet_94 post K43 bW x1 x2 x4 x5 x6 x7 k1 dG pY := by
  have l0 := li_0
  have f12 := tp_r x2
  have f13 := tp_r x4
  have f14 := tp_r x5
  have f15 := tp_r x6
  exact ts_X10_sheet_109 bW h_m_fruits hpost hK43 x1 x2 x4 x5 x6 x7 k1 0 dG pY h_x1 h_x2 h_x7 h_k1 (by omega) h_m_thrown h_m_worth hn43
set_option maxHeartbeats 8000000 in
set_option maxRecDepth 200000 in
theorem ts_X10_sheet_75 {post : Int32 → Int32 → (Nat → Int32) → Prop} {K43 : Int32 → Int32 → Int32 → Int32 → Int32 → Int32 → Int32 → (Nat → Int32) → Prop} {n43 : Int} (bW : Int32) (h_m_fruits : 0 ≤ Int32.toInt bW ∧ Int32.toInt bW ≤ 16) (hpost : ∀ (r : Int32) (m_thrown' : Int32) (m_worth' : Nat → Int32), (0 ≤ Int32.toInt m_thrown' ∧ Int32.toInt m_thrown' ≤ 0) → (∀ k : Nat, 0 ≤ Int32.toInt (m_worth' k) ∧ Int32.toInt (m_worth' k) ≤ 9) → post r m_thrown' m_worth') (hK43 : ∀ (x1 : Int32) (x2 : Int32) (x4 : Int32) (x5 : Int32) (x6 : Int32) (x7 : Int32) (dG : Int32) (pY : Nat → Int32), (0 ≤ Int32.toInt x1 ∧ Int32.toInt x1 ≤ 3) → (-2147483648 ≤ Int32.toInt x2 ∧ Int32.toInt x2 ≤ 16) → (0 ≤ Int32.toInt x7 ∧ Int32.toInt x7 ≤ 16) → (0 ≤ Int32.toInt dG ∧ Int32.toInt dG ≤ 0) → (∀ k : Nat, 0 ≤ Int32.toInt (pY k) ∧ Int32.toInt (pY k) ≤ 9) → (16 - Int32.toInt x7 < n43) → K43 x1 x2 x4 x5 x6 x7 dG pY) (x1 x2 x4 x5 x6 x7 k0 dG : Int32) (pY : Nat → Int32) (h_x1 : 0 ≤ Int32.toInt x1 ∧ Int32.toInt x1 ≤ 3) (h_x2 : -2147483648 ≤ Int32.toInt x2 ∧ Int32.toInt x2 ≤ 16) (h_x7 : 0 ≤ Int32.toInt x7 ∧ Int32.toInt x7 ≤ 15) (h_m_thrown : 0 ≤ Int32.toInt dG ∧ Int32.toInt dG ≤ 0) (h_m_worth : ∀ k : Nat, 0 ≤ Int32.toInt (pY k) ∧ Int32.toInt (pY k) ≤ 9) (hn43 : 16 - Int32.toInt x7 ≤ n43) : ws_X10_sheet_75 post K43 bW x1 x2 x4 x5 x6 x7 k0 dG pY := by
  have l0 := li_0
  have l1 := li_3
  have l2 := li_9
  refine And.intro (fun c16 => ?_) (fun c16 => ?_)
  · skip
    have c16 := (fa_eq _ _).mp c16
    have f17 := tp_r x2
    have f18 := tp_r x4
    have f19 := tp_r x5
    have f20 := tp_r x6
    exact ts_X10_sheet_94 bW h_m_fruits hpost hK43 x1 x2 x4 x5 x6 x7 x7 dG pY h_x1 h_x2 h_x7 h_x7 h_m_thrown h_m_worth hn43
  · skip
    have c16 := mt (fa_eq _ _).mpr c16
    have f22 := tp_r x2
    refine And.intro (fun c21 => ?_) (fun c21 => ?_)
    · skip
      have c21 := (fa_lt _ _).mp c21
      intro v23 ev23
      have f24 := tp_r (if k0 < 9 then k0 else 9)
      have f26 := tp_r k0
      have f25 := ti_min (9 : Int32) k0
      have hv23 := congrArg Int32.toInt ev23
      intro v27 ev27
      have f29 := tp_r v23
      have f28 := ti_max (0 : Int32) v23
      have hv27 := congrArg Int32.toInt ev27
      have f30 := tp_r x4
      have f31 := tp_r x5
      have f32 := tp_r x6
      exact ts_X10_sheet_109 bW h_m_fruits hpost hK43 x1 x2 x4 x5 x6 x7 x7 v27 dG pY h_x1 h_x2 h_x7 h_x7 (by omega) h_m_thrown h_m_worth hn43
    · skip
      have c21 := mt (fa_lt _ _).mpr c21
      have f33 := tp_r x4
      have f34 := tp_r x5
      have f35 := tp_r x6
      exact ts_X10_sheet_94 bW h_m_fruits hpost hK43 x1 x2 x4 x5 x6 x7 x7 dG pY h_x1 h_x2 h_x7 h_x7 h_m_thrown h_m_worth hn43
set_option maxHeartbeats 8000000 in
set_option maxRecDepth 200000 in
theorem ts_X10_sheet_43 {post : Int32 → Int32 → (Nat → Int32) → Prop} {next : Int32 → Int32 → Int32 → Int32 → Int32 → Int32 → Int32 → (Nat → Int32) → Prop} {n43 : Int} (bW : Int32) (h_m_fruits : 0 ≤ Int32.toInt bW ∧ Int32.toInt bW ≤ 16) (hpost : ∀ (r : Int32) (m_thrown' : Int32) (m_worth' : Nat → Int32), (0 ≤ Int32.toInt m_thrown' ∧ Int32.toInt m_thrown' ≤ 0) → (∀ k : Nat, 0 ≤ Int32.toInt (m_worth' k) ∧ Int32.toInt (m_worth' k) ≤ 9) → post r m_thrown' m_worth') (hKn : ∀ (x1 : Int32) (x2 : Int32) (x4 : Int32) (x5 : Int32) (x6 : Int32) (x7 : Int32) (dG : Int32) (pY : Nat → Int32), (0 ≤ Int32.toInt x1 ∧ Int32.toInt x1 ≤ 3) → (-2147483648 ≤ Int32.toInt x2 ∧ Int32.toInt x2 ≤ 16) → (0 ≤ Int32.toInt x7 ∧ Int32.toInt x7 ≤ 16) → (0 ≤ Int32.toInt dG ∧ Int32.toInt dG ≤ 0) → (∀ k : Nat, 0 ≤ Int32.toInt (pY k) ∧ Int32.toInt (pY k) ≤ 9) → (16 - Int32.toInt x7 < n43) → next x1 x2 x4 x5 x6 x7 dG pY) (x1 x2 x4 x5 x6 x7 dG : Int32) (pY : Nat → Int32) (h_x1 : 0 ≤ Int32.toInt x1 ∧ Int32.toInt x1 ≤ 3) (h_x2 : -2147483648 ≤ Int32.toInt x2 ∧ Int32.toInt x2 ≤ 16) (h_x7 : 0 ≤ Int32.toInt x7 ∧ Int32.toInt x7 ≤ 16) (h_m_thrown : 0 ≤ Int32.toInt dG ∧ Int32.toInt dG ≤ 0) (h_m_worth : ∀ k : Nat, 0 ≤ Int32.toInt (pY k) ∧ Int32.toInt (pY k) ≤ 9) (hn43 : 16 - Int32.toInt x7 ≤ n43) : ws_X10_sheet_43 post next bW x1 x2 x4 x5 x6 x7 dG pY := by
  have l0 := li_0
  have l1 := li_1
  have l2 := li_3
  refine And.intro (fun c36 => ?_) (fun c36 => ?_)
  · skip
    have c36 := (fa_le _ _).mp c36
    refine And.intro (fun c37 => ?_) (fun c37 => ?_)
    · skip
      have c37 := mt (fa_eq _ _).mpr c37
      exact hpost _ _ _ h_m_thrown h_m_worth
    · skip
      have c37 := (fa_eq _ _).mp c37
      exact hpost _ _ _ h_m_thrown h_m_worth
  · skip
    have c36 := mt (fa_le _ _).mpr c36
    refine And.intro (fun c38 => ?_) (fun c38 => ?_)
    · skip
      have c38 := mt (fa_eq _ _).mpr c38
      refine And.intro (fun c39 => ?_) (fun c39 => ?_)
      · skip
        have c39 := mt (fa_eq _ _).mpr c39
        have f40 := tp_r x2
        have f41 := tp_r x4
        have f42 := tp_r x5
        have f43 := tp_r x6
        exact ts_X10_sheet_75 bW h_m_fruits hpost hKn x1 x2 x4 x5 x6 x7 x6 dG pY h_x1 h_x2 (by omega) h_m_thrown h_m_worth hn43
      · skip
        have c39 := (fa_eq _ _).mp c39
        intro v44 ev44
        have hv44 := ti_i2s x6
        rw [← ev44] at hv44
        have f45 := tp_r x2
        have f46 := tp_r x4
        have f47 := tp_r x5
        have f48 := tp_r x6
        exact ts_X10_sheet_75 bW h_m_fruits hpost hKn x1 x2 x4 x5 x6 x7 v44 dG pY h_x1 h_x2 (by omega) h_m_thrown h_m_worth hn43
    · skip
      have c38 := (fa_eq _ _).mp c38
      intro v49 ev49
      have hv49 := ti_i2b x6
      rw [← ev49] at hv49
      have f50 := tp_r x2
      have f51 := tp_r x4
      have f52 := tp_r x5
      have f53 := tp_r x6
      exact ts_X10_sheet_75 bW h_m_fruits hpost hKn x1 x2 x4 x5 x6 x7 v49 dG pY h_x1 h_x2 (by omega) h_m_thrown h_m_worth hn43
set_option maxHeartbeats 8000000 in
set_option maxRecDepth 200000 in
theorem tb_X10_sheet_43 {post : Int32 → Int32 → (Nat → Int32) → Prop} (bW : Int32) (h_m_fruits : 0 ≤ Int32.toInt bW ∧ Int32.toInt bW ≤ 16) (hpost : ∀ (r : Int32) (m_thrown' : Int32) (m_worth' : Nat → Int32), (0 ≤ Int32.toInt m_thrown' ∧ Int32.toInt m_thrown' ≤ 0) → (∀ k : Nat, 0 ≤ Int32.toInt (m_worth' k) ∧ Int32.toInt (m_worth' k) ≤ 9) → post r m_thrown' m_worth') : ∀ (n : Nat) (x1 x2 x4 x5 x6 x7 dG : Int32) (pY : Nat → Int32), (0 ≤ Int32.toInt x1 ∧ Int32.toInt x1 ≤ 3) → (-2147483648 ≤ Int32.toInt x2 ∧ Int32.toInt x2 ≤ 16) → (0 ≤ Int32.toInt x7 ∧ Int32.toInt x7 ≤ 16) → (0 ≤ Int32.toInt dG ∧ Int32.toInt dG ≤ 0) → (∀ k : Nat, 0 ≤ Int32.toInt (pY k) ∧ Int32.toInt (pY k) ≤ 9) → (16 - Int32.toInt x7 < (n : Int)) → wb_X10_sheet_43 post bW n x1 x2 x4 x5 x6 x7 dG pY := by
  intro n
  induction n with
  | zero =>
    intro x1 x2 x4 x5 x6 x7 dG pY h_x1 h_x2 h_x7 h_m_thrown h_m_worth hm
    exfalso; omega
  | succ n ih =>
    intro x1 x2 x4 x5 x6 x7 dG pY h_x1 h_x2 h_x7 h_m_thrown h_m_worth hm
    exact ts_X10_sheet_43 bW h_m_fruits hpost ih x1 x2 x4 x5 x6 x7 dG pY h_x1 h_x2 h_x7 h_m_thrown h_m_worth (by omega)
set_option maxHeartbeats 8000000 in
set_option maxRecDepth 200000 in
theorem ts_X10_sheet_34 {post : Int32 → Int32 → (Nat → Int32) → Prop} (bW : Int32) (h_m_fruits : 0 ≤ Int32.toInt bW ∧ Int32.toInt bW ≤ 16) (hpost : ∀ (r : Int32) (m_thrown' : Int32) (m_worth' : Nat → Int32), (0 ≤ Int32.toInt m_thrown' ∧ Int32.toInt m_thrown' ≤ 0) → (∀ k : Nat, 0 ≤ Int32.toInt (m_worth' k) ∧ Int32.toInt (m_worth' k) ≤ 9) → post r m_thrown' m_worth') (x1 x2 x3 x4 dG : Int32) (pY : Nat → Int32) (h_x1 : 0 ≤ Int32.toInt x1 ∧ Int32.toInt x1 ≤ 3) (h_x2 : -2147483648 ≤ Int32.toInt x2 ∧ Int32.toInt x2 ≤ 16) (h_m_thrown : 0 ≤ Int32.toInt dG ∧ Int32.toInt dG ≤ 0) (h_m_worth : ∀ k : Nat, 0 ≤ Int32.toInt (pY k) ∧ Int32.toInt (pY k) ≤ 9) : ws_X10_sheet_34 post bW x1 x2 x3 x4 dG pY := by
  have l0 := li_0
  have f54 := tp_r x2
  have f55 := tp_r x4
  have f56 := tp_r x3
  exact ⟨18, tb_X10_sheet_43 bW h_m_fruits hpost _ x1 x2 x4 0 x3 0 dG pY h_x1 h_x2 (by omega) h_m_thrown h_m_worth (by omega)⟩
set_option maxHeartbeats 8000000 in
set_option maxRecDepth 200000 in
theorem t_X10_sheet {post : Int32 → Int32 → (Nat → Int32) → Prop} {p0 p1 p2 p3 bW dG : Int32} {pY : Nat → Int32} (h_m_fruits : 0 ≤ Int32.toInt bW ∧ Int32.toInt bW ≤ 16) (h_m_thrown : 0 ≤ Int32.toInt dG ∧ Int32.toInt dG ≤ 1) (h_m_worth : ∀ k : Nat, 0 ≤ Int32.toInt (pY k) ∧ Int32.toInt (pY k) ≤ 9) (hpost : ∀ (r : Int32) (m_thrown' : Int32) (m_worth' : Nat → Int32), (0 ≤ Int32.toInt m_thrown' ∧ Int32.toInt m_thrown' ≤ 0) → (∀ k : Nat, 0 ≤ Int32.toInt (m_worth' k) ∧ Int32.toInt (m_worth' k) ≤ 9) → post r m_thrown' m_worth') : wp_X10_sheet post p0 p1 p2 p3 bW dG pY := by
  have l0 := li_0
  have l1 := li_16
  have l2 := li_3
  have f58 := tp_r p0
  refine And.intro (fun c57 => ?_) (fun c57 => ?_)
  · skip
    have c57 := (fa_lt _ _).mp c57
    refine And.intro (fun _ => ?_) (fun h9 => absurd h9 (by decide))
    exact hpost _ _ _ (by omega) h_m_worth
  · skip
    have c57 := mt (fa_lt _ _).mpr c57
    refine And.intro (fun c59 => ?_) (fun c59 => ?_)
    · skip
      have c59 := (fa_lt _ _).mp c59
      refine And.intro (fun _ => ?_) (fun h9 => absurd h9 (by decide))
      exact hpost _ _ _ (by omega) h_m_worth
    · skip
      have c59 := mt (fa_lt _ _).mpr c59
      refine And.intro (fun h9 => absurd h9 (by decide)) (fun _ => ?_)
      have f61 := tp_r p1
      refine And.intro (fun c60 => ?_) (fun c60 => ?_)
      · skip
        have c60 := (fa_le _ _).mp c60
        refine And.intro (fun c62 => ?_) (fun c62 => ?_)
        · skip
          have c62 := (fa_le _ _).mp c62
          have f63 := tp_r p2
          have f64 := tp_r p3
          exact ts_X10_sheet_34 bW h_m_fruits hpost p0 p1 p2 p3 0 pY (by omega) (by omega) (by omega) h_m_worth
        · skip
          have c62 := mt (fa_le _ _).mpr c62
          refine And.intro (fun c65 => ?_) (fun c65 => ?_)
          · skip
            have c65 := (fa_le _ _).mp c65
            have f66 := tp_r p2
            have f67 := tp_r p3
            exact ts_X10_sheet_34 bW h_m_fruits hpost p0 p1 p2 p3 0 pY (by omega) (by omega) (by omega) h_m_worth
          · skip
            have c65 := mt (fa_le _ _).mpr c65
            exact hpost _ _ _ (by omega) h_m_worth
      · skip
        have c60 := mt (fa_le _ _).mpr c60
        exact hpost _ _ _ (by omega) h_m_worth
set_option maxHeartbeats 8000000 in
set_option maxRecDepth 200000 in
theorem ts_X10_lay_2 {post : (Nat → Int32) → Prop} {SB : Int} {next : Int32 → Int32 → (Nat → Int32) → Prop} {n2 : Int} (rD : Nat → Int32) (e0_m_now : ∀ k : Nat, k = 17 → -1 ≤ Int32.toInt (rD k) ∧ Int32.toInt (rD k) ≤ SB) (e1_m_now : ∀ k : Nat, k = 19 → 0 ≤ Int32.toInt (rD k) ∧ Int32.toInt (rD k) ≤ 9) (hc0 : -1 ≤ SB ∧ SB ≤ 7) (hpost : ∀ (m_undos' : Nat → Int32), (∀ k : Nat, k % 21 = 17 → -1 ≤ Int32.toInt (m_undos' k) ∧ Int32.toInt (m_undos' k) ≤ SB) → (∀ k : Nat, k % 21 = 19 → 0 ≤ Int32.toInt (m_undos' k) ∧ Int32.toInt (m_undos' k) ≤ 9) → post m_undos') (hKn : ∀ (x2 : Int32) (x3 : Int32) (uQ : Nat → Int32), (0 ≤ Int32.toInt x2 ∧ Int32.toInt x2 ≤ 231) → (0 ≤ Int32.toInt x3 ∧ Int32.toInt x3 ≤ 21) → (∀ k : Nat, k % 21 = 17 → -1 ≤ Int32.toInt (uQ k) ∧ Int32.toInt (uQ k) ≤ SB) → (∀ k : Nat, k % 21 = 19 → 0 ≤ Int32.toInt (uQ k) ∧ Int32.toInt (uQ k) ≤ 9) → (Int32.toInt x2 % 21 = 0) → (21 - Int32.toInt x3 < n2) → next x2 x3 uQ) (x2 x3 : Int32) (uQ : Nat → Int32) (h_x2 : 0 ≤ Int32.toInt x2 ∧ Int32.toInt x2 ≤ 231) (h_x3 : 0 ≤ Int32.toInt x3 ∧ Int32.toInt x3 ≤ 21) (e0_m_undos : ∀ k : Nat, k % 21 = 17 → -1 ≤ Int32.toInt (uQ k) ∧ Int32.toInt (uQ k) ≤ SB) (e1_m_undos : ∀ k : Nat, k % 21 = 19 → 0 ≤ Int32.toInt (uQ k) ∧ Int32.toInt (uQ k) ≤ 9) (hx0 : Int32.toInt x2 % 21 = 0) (hn2 : 21 - Int32.toInt x3 ≤ n2) : ws_X10_lay_2 post next rD x2 x3 uQ := by
  have l0 := li_1
  have l1 := li_21
  refine And.intro (fun c1 => ?_) (fun c1 => ?_)
  · skip
    have c1 := (fa_le _ _).mp c1
    exact hpost _ e0_m_undos e1_m_undos
  · skip
    have c1 := mt (fa_le _ _).mpr c1
    intro v2 ev2
    have f3 : Int32.toInt (x2 + x3) = Int32.toInt x2 + Int32.toInt x3 := ta_add _ _ (by omega)
    rw [← ev2] at f3
    refine And.intro (t_in (by omega)) ?_
    have q4 := e0_m_now x3.toNatClampNeg
    have q5 := e1_m_now x3.toNatClampNeg
    have q6 : x3.toNatClampNeg = (Int32.toInt x3).toNat := rfl
    intro v7 ev7
    have hv7 := congrArg Int32.toInt ev7
    refine And.intro (t_in (by omega)) ?_
    have f10 := tp_r v7
    have e9 : ∀ k : Nat, k % 21 = 17 → -1 ≤ Int32.toInt ((upd uQ v2.toNatClampNeg v7) k) ∧ Int32.toInt ((upd uQ v2.toNatClampNeg v7) k) ≤ SB := t_updc (C := fun k => k % 21 = 17) e0_m_undos (fun hk => by have e9 : v2.toNatClampNeg = (Int32.toInt v2).toNat := rfl; have hk : v2.toNatClampNeg % 21 = 17 := hk; omega)
    have e11 : ∀ k : Nat, k % 21 = 19 → 0 ≤ Int32.toInt ((upd uQ v2.toNatClampNeg v7) k) ∧ Int32.toInt ((upd uQ v2.toNatClampNeg v7) k) ≤ 9 := t_updc (C := fun k => k % 21 = 19) e1_m_undos (fun hk => by have e9 : v2.toNatClampNeg = (Int32.toInt v2).toNat := rfl; have hk : v2.toNatClampNeg % 21 = 19 := hk; omega)
    intro v12 ev12
    have f13 : Int32.toInt (x3 + 1) = Int32.toInt x3 + Int32.toInt (1 : Int32) := ta_add _ _ (by omega)
    rw [← ev12] at f13
    exact hKn x2 v12 (upd uQ v2.toNatClampNeg v7) h_x2 (by omega) e9 e11 hx0 (by omega)
set_option maxHeartbeats 8000000 in
set_option maxRecDepth 200000 in
theorem tb_X10_lay_2 {post : (Nat → Int32) → Prop} {SB : Int} (rD : Nat → Int32) (e0_m_now : ∀ k : Nat, k = 17 → -1 ≤ Int32.toInt (rD k) ∧ Int32.toInt (rD k) ≤ SB) (e1_m_now : ∀ k : Nat, k = 19 → 0 ≤ Int32.toInt (rD k) ∧ Int32.toInt (rD k) ≤ 9) (hc0 : -1 ≤ SB ∧ SB ≤ 7) (hpost : ∀ (m_undos' : Nat → Int32), (∀ k : Nat, k % 21 = 17 → -1 ≤ Int32.toInt (m_undos' k) ∧ Int32.toInt (m_undos' k) ≤ SB) → (∀ k : Nat, k % 21 = 19 → 0 ≤ Int32.toInt (m_undos' k) ∧ Int32.toInt (m_undos' k) ≤ 9) → post m_undos') : ∀ (n : Nat) (x2 x3 : Int32) (uQ : Nat → Int32), (0 ≤ Int32.toInt x2 ∧ Int32.toInt x2 ≤ 231) → (0 ≤ Int32.toInt x3 ∧ Int32.toInt x3 ≤ 21) → (∀ k : Nat, k % 21 = 17 → -1 ≤ Int32.toInt (uQ k) ∧ Int32.toInt (uQ k) ≤ SB) → (∀ k : Nat, k % 21 = 19 → 0 ≤ Int32.toInt (uQ k) ∧ Int32.toInt (uQ k) ≤ 9) → (Int32.toInt x2 % 21 = 0) → (21 - Int32.toInt x3 < (n : Int)) → wb_X10_lay_2 post rD n x2 x3 uQ := by
  intro n
  induction n with
  | zero =>
    intro x2 x3 uQ h_x2 h_x3 e0_m_undos e1_m_undos hx0 hm
    exfalso; omega
  | succ n ih =>
    intro x2 x3 uQ h_x2 h_x3 e0_m_undos e1_m_undos hx0 hm
    exact ts_X10_lay_2 rD e0_m_now e1_m_now hc0 hpost ih x2 x3 uQ h_x2 h_x3 e0_m_undos e1_m_undos hx0 (by omega)
set_option maxHeartbeats 8000000 in
set_option maxRecDepth 200000 in
theorem t_X10_lay {post : (Nat → Int32) → Prop} {SB : Int} {p2 : Int32} {rD uQ : Nat → Int32} (h_p2 : 0 ≤ Int32.toInt p2 ∧ Int32.toInt p2 ≤ 231) (e0_m_now : ∀ k : Nat, k = 17 → -1 ≤ Int32.toInt (rD k) ∧ Int32.toInt (rD k) ≤ SB) (e1_m_now : ∀ k : Nat, k = 19 → 0 ≤ Int32.toInt (rD k) ∧ Int32.toInt (rD k) ≤ 9) (e0_m_undos : ∀ k : Nat, k % 21 = 17 → -1 ≤ Int32.toInt (uQ k) ∧ Int32.toInt (uQ k) ≤ SB) (e1_m_undos : ∀ k : Nat, k % 21 = 19 → 0 ≤ Int32.toInt (uQ k) ∧ Int32.toInt (uQ k) ≤ 9) (hc0 : -1 ≤ SB ∧ SB ≤ 7) (hx0 : Int32.toInt p2 % 21 = 0) (hpost : ∀ (m_undos' : Nat → Int32), (∀ k : Nat, k % 21 = 17 → -1 ≤ Int32.toInt (m_undos' k) ∧ Int32.toInt (m_undos' k) ≤ SB) → (∀ k : Nat, k % 21 = 19 → 0 ≤ Int32.toInt (m_undos' k) ∧ Int32.toInt (m_undos' k) ≤ 9) → post m_undos') : wp_X10_lay post p2 rD uQ := by
  have l0 := li_0
  exact ⟨23, tb_X10_lay_2 rD e0_m_now e1_m_now hc0 hpost _ p2 0 uQ h_p2 (by omega) e0_m_undos e1_m_undos (by omega) (by omega)⟩
set_option maxHeartbeats 8000000 in
set_option maxRecDepth 200000 in
theorem ts_X10_remember_49 {post : Int32 → (Nat → Int32) → Prop} {SB : Int} (rD : Nat → Int32) (e0_m_now : ∀ k : Nat, k = 17 → -1 ≤ Int32.toInt (rD k) ∧ Int32.toInt (rD k) ≤ SB) (e1_m_now : ∀ k : Nat, k = 19 → 0 ≤ Int32.toInt (rD k) ∧ Int32.toInt (rD k) ≤ 9) (hc0 : -1 ≤ SB ∧ SB ≤ 7) (hpost : ∀ (m_undoMany' : Int32) (m_undos' : Nat → Int32), (1 ≤ Int32.toInt m_undoMany' ∧ Int32.toInt m_undoMany' ≤ 12) → (∀ k : Nat, k % 21 = 17 → -1 ≤ Int32.toInt (m_undos' k) ∧ Int32.toInt (m_undos' k) ≤ SB) → (∀ k : Nat, k % 21 = 19 → 0 ≤ Int32.toInt (m_undos' k) ∧ Int32.toInt (m_undos' k) ≤ 9) → post m_undoMany' m_undos') (bT : Int32) (uQ : Nat → Int32) (h_m_undoMany : 0 ≤ Int32.toInt bT ∧ Int32.toInt bT ≤ 11) (e0_m_undos : ∀ k : Nat, k % 21 = 17 → -1 ≤ Int32.toInt (uQ k) ∧ Int32.toInt (uQ k) ≤ SB) (e1_m_undos : ∀ k : Nat, k % 21 = 19 → 0 ≤ Int32.toInt (uQ k) ∧ Int32.toInt (uQ k) ≤ 9) : ws_X10_remember_49 post rD bT uQ := by
  have l0 := li_1
  have l1 := li_21
  intro v1 ev1
  have f2 : Int32.toInt (21 * bT) = Int32.toInt bT * 21 := ta_cmul _ _ (by decide) (by omega)
  rw [← ev1] at f2
  refine t_X10_lay (by omega) e0_m_now e1_m_now e0_m_undos e1_m_undos (by omega) (by omega) (fun zU e0_m_undos_3 e1_m_undos_3 => ?_)
  intro v4 ev4
  have f5 : Int32.toInt (bT + 1) = Int32.toInt bT + Int32.toInt (1 : Int32) := ta_add _ _ (by omega)
  rw [← ev4] at f5
  exact hpost _ _ (by omega) e0_m_undos_3 e1_m_undos_3
set_option maxHeartbeats 8000000 in
set_option maxRecDepth 200000 in
theorem ts_X10_remember_11 {post : Int32 → (Nat → Int32) → Prop} {SB : Int} {next : Int32 → Int32 → (Nat → Int32) → Prop} {n11 : Int} (rD : Nat → Int32) (e0_m_now : ∀ k : Nat, k = 17 → -1 ≤ Int32.toInt (rD k) ∧ Int32.toInt (rD k) ≤ SB) (e1_m_now : ∀ k : Nat, k = 19 → 0 ≤ Int32.toInt (rD k) ∧ Int32.toInt (rD k) ≤ 9) (hc0 : -1 ≤ SB ∧ SB ≤ 7) (hpost : ∀ (m_undoMany' : Int32) (m_undos' : Nat → Int32), (1 ≤ Int32.toInt m_undoMany' ∧ Int32.toInt m_undoMany' ≤ 12) → (∀ k : Nat, k % 21 = 17 → -1 ≤ Int32.toInt (m_undos' k) ∧ Int32.toInt (m_undos' k) ≤ SB) → (∀ k : Nat, k % 21 = 19 → 0 ≤ Int32.toInt (m_undos' k) ∧ Int32.toInt (m_undos' k) ≤ 9) → post m_undoMany' m_undos') (hKn : ∀ (x2 : Int32) (bT : Int32) (uQ : Nat → Int32), (0 ≤ Int32.toInt x2 ∧ Int32.toInt x2 ≤ 231) → (12 ≤ Int32.toInt bT ∧ Int32.toInt bT ≤ 12) → (∀ k : Nat, k % 21 = 17 → -1 ≤ Int32.toInt (uQ k) ∧ Int32.toInt (uQ k) ≤ SB) → (∀ k : Nat, k % 21 = 19 → 0 ≤ Int32.toInt (uQ k) ∧ Int32.toInt (uQ k) ≤ 9) → (231 - Int32.toInt x2 < n11) → next x2 bT uQ) (x2 bT : Int32) (uQ : Nat → Int32) (h_x2 : 0 ≤ Int32.toInt x2 ∧ Int32.toInt x2 ≤ 231) (h_m_undoMany : 12 ≤ Int32.toInt bT ∧ Int32.toInt bT ≤ 12) (e0_m_undos : ∀ k : Nat, k % 21 = 17 → -1 ≤ Int32.toInt (uQ k) ∧ Int32.toInt (uQ k) ≤ SB) (e1_m_undos : ∀ k : Nat, k % 21 = 19 → 0 ≤ Int32.toInt (uQ k) ∧ Int32.toInt (uQ k) ≤ 9) (hn11 : 231 - Int32.toInt x2 ≤ n11) : ws_X10_remember_11 post next rD x2 bT uQ := by
  have l0 := li_1
  have l1 := li_21
  have l2 := li_231
  refine And.intro (fun c6 => ?_) (fun c6 => ?_)
  · skip
    have c6 := (fa_le _ _).mp c6
    intro v7 ev7
    have f8 : Int32.toInt (bT - 1) = Int32.toInt bT - Int32.toInt (1 : Int32) := ta_sub _ _ (by omega)
    rw [← ev7] at f8
    exact ts_X10_remember_49 rD e0_m_now e1_m_now hc0 hpost v7 uQ (by omega) e0_m_undos e1_m_undos
  · skip
    have c6 := mt (fa_le _ _).mpr c6
    intro v9 ev9
    have f10 : Int32.toInt (x2 + 21) = Int32.toInt x2 + Int32.toInt (21 : Int32) := ta_add _ _ (by omega)
    rw [← ev9] at f10
    refine And.intro (t_in (by omega)) ?_
    have q11 := e0_m_undos v9.toNatClampNeg
    have q12 := e1_m_undos v9.toNatClampNeg
    have q13 : v9.toNatClampNeg = (Int32.toInt v9).toNat := rfl
    intro v14 ev14
    have hv14 := congrArg Int32.toInt ev14
    refine And.intro (t_in (by omega)) ?_
    have f17 := tp_r v14
    have e16 : ∀ k : Nat, k % 21 = 17 → -1 ≤ Int32.toInt ((upd uQ x2.toNatClampNeg v14) k) ∧ Int32.toInt ((upd uQ x2.toNatClampNeg v14) k) ≤ SB := t_updc (C := fun k => k % 21 = 17) e0_m_undos (fun hk => by have e9 : x2.toNatClampNeg = (Int32.toInt x2).toNat := rfl; have hk : x2.toNatClampNeg % 21 = 17 := hk; omega)
    have e18 : ∀ k : Nat, k % 21 = 19 → 0 ≤ Int32.toInt ((upd uQ x2.toNatClampNeg v14) k) ∧ Int32.toInt ((upd uQ x2.toNatClampNeg v14) k) ≤ 9 := t_updc (C := fun k => k % 21 = 19) e1_m_undos (fun hk => by have e9 : x2.toNatClampNeg = (Int32.toInt x2).toNat := rfl; have hk : x2.toNatClampNeg % 21 = 19 := hk; omega)
    intro v19 ev19
    have f20 : Int32.toInt (x2 + 1) = Int32.toInt x2 + Int32.toInt (1 : Int32) := ta_add _ _ (by omega)
    rw [← ev19] at f20
    exact hKn v19 bT (upd uQ x2.toNatClampNeg v14) (by omega) h_m_undoMany e16 e18 (by omega)
set_option maxHeartbeats 8000000 in
set_option maxRecDepth 200000 in
theorem tb_X10_remember_11 {post : Int32 → (Nat → Int32) → Prop} {SB : Int} (rD : Nat → Int32) (e0_m_now : ∀ k : Nat, k = 17 → -1 ≤ Int32.toInt (rD k) ∧ Int32.toInt (rD k) ≤ SB) (e1_m_now : ∀ k : Nat, k = 19 → 0 ≤ Int32.toInt (rD k) ∧ Int32.toInt (rD k) ≤ 9) (hc0 : -1 ≤ SB ∧ SB ≤ 7) (hpost : ∀ (m_undoMany' : Int32) (m_undos' : Nat → Int32), (1 ≤ Int32.toInt m_undoMany' ∧ Int32.toInt m_undoMany' ≤ 12) → (∀ k : Nat, k % 21 = 17 → -1 ≤ Int32.toInt (m_undos' k) ∧ Int32.toInt (m_undos' k) ≤ SB) → (∀ k : Nat, k % 21 = 19 → 0 ≤ Int32.toInt (m_undos' k) ∧ Int32.toInt (m_undos' k) ≤ 9) → post m_undoMany' m_undos') : ∀ (n : Nat) (x2 bT : Int32) (uQ : Nat → Int32), (0 ≤ Int32.toInt x2 ∧ Int32.toInt x2 ≤ 231) → (12 ≤ Int32.toInt bT ∧ Int32.toInt bT ≤ 12) → (∀ k : Nat, k % 21 = 17 → -1 ≤ Int32.toInt (uQ k) ∧ Int32.toInt (uQ k) ≤ SB) → (∀ k : Nat, k % 21 = 19 → 0 ≤ Int32.toInt (uQ k) ∧ Int32.toInt (uQ k) ≤ 9) → (231 - Int32.toInt x2 < (n : Int)) → wb_X10_remember_11 post rD n x2 bT uQ := by
  intro n
  induction n with
  | zero =>
    intro x2 bT uQ h_x2 h_m_undoMany e0_m_undos e1_m_undos hm
    exfalso; omega
  | succ n ih =>
    intro x2 bT uQ h_x2 h_m_undoMany e0_m_undos e1_m_undos hm
    exact ts_X10_remember_11 rD e0_m_now e1_m_now hc0 hpost ih x2 bT uQ h_x2 h_m_undoMany e0_m_undos e1_m_undos (by omega)
set_option maxHeartbeats 8000000 in
set_option maxRecDepth 200000 in
theorem t_X10_remember {post : Int32 → (Nat → Int32) → Prop} {SB : Int} {bT : Int32} {rD uQ : Nat → Int32} (h_m_undoMany : 0 ≤ Int32.toInt bT ∧ Int32.toInt bT ≤ 12) (e0_m_now : ∀ k : Nat, k = 17 → -1 ≤ Int32.toInt (rD k) ∧ Int32.toInt (rD k) ≤ SB) (e1_m_now : ∀ k : Nat, k = 19 → 0 ≤ Int32.toInt (rD k) ∧ Int32.toInt (rD k) ≤ 9) (e0_m_undos : ∀ k : Nat, k % 21 = 17 → -1 ≤ Int32.toInt (uQ k) ∧ Int32.toInt (uQ k) ≤ SB) (e1_m_undos : ∀ k : Nat, k % 21 = 19 → 0 ≤ Int32.toInt (uQ k) ∧ Int32.toInt (uQ k) ≤ 9) (hc0 : -1 ≤ SB ∧ SB ≤ 7) (hpost : ∀ (m_undoMany' : Int32) (m_undos' : Nat → Int32), (1 ≤ Int32.toInt m_undoMany' ∧ Int32.toInt m_undoMany' ≤ 12) → (∀ k : Nat, k % 21 = 17 → -1 ≤ Int32.toInt (m_undos' k) ∧ Int32.toInt (m_undos' k) ≤ SB) → (∀ k : Nat, k % 21 = 19 → 0 ≤ Int32.toInt (m_undos' k) ∧ Int32.toInt (m_undos' k) ≤ 9) → post m_undoMany' m_undos') : wp_X10_remember post bT rD uQ := by
  have l0 := li_0
  have l1 := li_12
  refine And.intro (fun c21 => ?_) (fun c21 => ?_)
  · skip
    have c21 := mt (fa_eq _ _).mpr c21
    exact ts_X10_remember_49 rD e0_m_now e1_m_now hc0 hpost bT uQ (by omega) e0_m_undos e1_m_undos
  · skip
    have c21 := (fa_eq _ _).mp c21
    exact ⟨233, tb_X10_remember_11 rD e0_m_now e1_m_now hc0 hpost _ 0 bT uQ (by omega) (by omega) e0_m_undos e1_m_undos (by omega)⟩
theorem t_X10_moveOf {post : Int32 → Prop} {p0 p1 : Int32} {oY pX : Nat → Int32} (h_p0 : -1 ≤ Int32.toInt p0 ∧ Int32.toInt p0 ≤ 7) (h_p1 : 0 ≤ Int32.toInt p1 ∧ Int32.toInt p1 ≤ 7) (h_m_foot : ∀ k : Nat, 0 ≤ Int32.toInt (oY k) ∧ Int32.toInt (oY k) ≤ 99) (e0_m_told : ∀ k : Nat, k = 4 → 1 ≤ Int32.toInt (pX k) ∧ Int32.toInt (pX k) ≤ 30) (e1_m_told : ∀ k : Nat, k = 3 → 0 ≤ Int32.toInt (pX k) ∧ Int32.toInt (pX k) ≤ 9) (hx0 : -1 ≤ Int32.toInt p0 ∧ Int32.toInt p0 ≤ 7) (hx1 : 0 ≤ Int32.toInt p1 ∧ Int32.toInt p1 ≤ 7) (hpost : ∀ (r : Int32) , (9 ≤ Int32.toInt r ∧ Int32.toInt r ≤ 900) → (r = mvo oY pX p0 p1) → post r) : wp_X10_moveOf post p0 p1 oY pX := by
  exact f_moveOf hx0 hx1 (hpost _ (mvo_rng h_m_foot e1_m_told _ _) rfl)
set_option maxHeartbeats 8000000 in
set_option maxRecDepth 200000 in
theorem ts_X10_empty_35 {post : Int32 → (Nat → Int32) → Prop} {SB : Int} {m_now0 : Nat → Int32} {K4 : Int32 → Int32 → (Nat → Int32) → Prop} {n4 : Int} (bW : Int32) (h_m_fruits : 0 ≤ Int32.toInt bW ∧ Int32.toInt bW ≤ 16) (hc0 : -1 ≤ SB ∧ SB ≤ 7) (hpost : ∀ (r : Int32) (m_now' : Nat → Int32), (∀ k : Nat, k = 17 → -1 ≤ Int32.toInt (m_now' k) ∧ Int32.toInt (m_now' k) ≤ SB) → (∀ k : Nat, k = 19 → 0 ≤ Int32.toInt (m_now' k) ∧ Int32.toInt (m_now' k) ≤ 9) → (m_now' 19 = m_now0 19) → post r m_now') (hK4 : ∀ (x1 : Int32) (x2 : Int32) (rD : Nat → Int32), (0 ≤ Int32.toInt x2 ∧ Int32.toInt x2 ≤ 16) → (∀ k : Nat, k = 17 → -1 ≤ Int32.toInt (rD k) ∧ Int32.toInt (rD k) ≤ SB) → (∀ k : Nat, k = 19 → 0 ≤ Int32.toInt (rD k) ∧ Int32.toInt (rD k) ≤ 9) → (rD 19 = m_now0 19) → (16 - Int32.toInt x2 < n4) → K4 x1 x2 rD) (x1 x2 : Int32) (rD : Nat → Int32) (h_x2 : 0 ≤ Int32.toInt x2 ∧ Int32.toInt x2 ≤ 15) (e0_m_now : ∀ k : Nat, k = 17 → -1 ≤ Int32.toInt (rD k) ∧ Int32.toInt (rD k) ≤ SB) (e1_m_now : ∀ k : Nat, k = 19 → 0 ≤ Int32.toInt (rD k) ∧ Int32.toInt (rD k) ≤ 9) (hx0 : rD 19 = m_now0 19) (hn4 : 16 - Int32.toInt x2 ≤ n4) : ws_X10_empty_35 post K4 bW x1 x2 rD := by
  have l0 := li_1
  intro v1 ev1
  have f2 : Int32.toInt (x2 + 1) = Int32.toInt x2 + Int32.toInt (1 : Int32) := ta_add _ _ (by omega)
  rw [← ev1] at f2
  have f3 := tp_r x1
  exact hK4 x1 v1 rD (by omega) e0_m_now e1_m_now (by first | assumption | exact rfl | exact t_upk (by assumption) (t_nk (by omega))) (by omega)
set_option maxHeartbeats 8000000 in
set_option maxRecDepth 200000 in
theorem ts_X10_empty_4 {post : Int32 → (Nat → Int32) → Prop} {SB : Int} {m_now0 : Nat → Int32} {next : Int32 → Int32 → (Nat → Int32) → Prop} {n4 : Int} (bW : Int32) (h_m_fruits : 0 ≤ Int32.toInt bW ∧ Int32.toInt bW ≤ 16) (hc0 : -1 ≤ SB ∧ SB ≤ 7) (hpost : ∀ (r : Int32) (m_now' : Nat → Int32), (∀ k : Nat, k = 17 → -1 ≤ Int32.toInt (m_now' k) ∧ Int32.toInt (m_now' k) ≤ SB) → (∀ k : Nat, k = 19 → 0 ≤ Int32.toInt (m_now' k) ∧ Int32.toInt (m_now' k) ≤ 9) → (m_now' 19 = m_now0 19) → post r m_now') (hKn : ∀ (x1 : Int32) (x2 : Int32) (rD : Nat → Int32), (0 ≤ Int32.toInt x2 ∧ Int32.toInt x2 ≤ 16) → (∀ k : Nat, k = 17 → -1 ≤ Int32.toInt (rD k) ∧ Int32.toInt (rD k) ≤ SB) → (∀ k : Nat, k = 19 → 0 ≤ Int32.toInt (rD k) ∧ Int32.toInt (rD k) ≤ 9) → (rD 19 = m_now0 19) → (16 - Int32.toInt x2 < n4) → next x1 x2 rD) (x1 x2 : Int32) (rD : Nat → Int32) (h_x2 : 0 ≤ Int32.toInt x2 ∧ Int32.toInt x2 ≤ 16) (e0_m_now : ∀ k : Nat, k = 17 → -1 ≤ Int32.toInt (rD k) ∧ Int32.toInt (rD k) ≤ SB) (e1_m_now : ∀ k : Nat, k = 19 → 0 ≤ Int32.toInt (rD k) ∧ Int32.toInt (rD k) ≤ 9) (hx0 : rD 19 = m_now0 19) (hn4 : 16 - Int32.toInt x2 ≤ n4) : ws_X10_empty_4 post next bW x1 x2 rD := by
  have l0 := li_1
  have l1 := li_2
  refine And.intro (fun c4 => ?_) (fun c4 => ?_)
  · skip
    have c4 := (fa_le _ _).mp c4
    exact hpost _ _ e0_m_now e1_m_now (by first | assumption | exact rfl | exact t_upk (by assumption) (t_nk (by omega)))
  · skip
    have c4 := mt (fa_le _ _).mpr c4
    refine And.intro (t_in (by omega)) ?_
    intro v5 ev5
    have hv5 := congrArg Int32.toInt ev5
    have f8 := tp_r v5
    refine And.intro (fun c7 => ?_) (fun c7 => ?_)
    · skip
      have c7 := (fa_eq _ _).mp c7
      refine And.intro (t_in (by omega)) ?_
      have e9 : ∀ k : Nat, k = 17 → -1 ≤ Int32.toInt ((upd rD x2.toNatClampNeg 2) k) ∧ Int32.toInt ((upd rD x2.toNatClampNeg 2) k) ≤ SB := t_updc (C := fun k => k = 17) e0_m_now (fun hk => by have e9 : x2.toNatClampNeg = (Int32.toInt x2).toNat := rfl; have hk : x2.toNatClampNeg = 17 := hk; omega)
      have e10 : ∀ k : Nat, k = 19 → 0 ≤ Int32.toInt ((upd rD x2.toNatClampNeg 2) k) ∧ Int32.toInt ((upd rD x2.toNatClampNeg 2) k) ≤ 9 := t_updc (C := fun k => k = 19) e1_m_now (fun hk => by have e9 : x2.toNatClampNeg = (Int32.toInt x2).toNat := rfl; have hk : x2.toNatClampNeg = 19 := hk; omega)
      intro v11 ev11
      have hv11 := congrArg Int32.toInt ev11
      have f13 := tp_r v11
      exact ts_X10_empty_35 bW h_m_fruits hc0 hpost hKn v11 x2 (upd rD x2.toNatClampNeg 2) (by omega) e9 e10 (by first | assumption | exact rfl | exact t_upk (by assumption) (t_nk (by omega))) hn4
    · skip
      have c7 := mt (fa_eq _ _).mpr c7
      have f14 := tp_r x1
      exact ts_X10_empty_35 bW h_m_fruits hc0 hpost hKn x1 x2 rD (by omega) e0_m_now e1_m_now (by first | assumption | exact rfl | exact t_upk (by assumption) (t_nk (by omega))) hn4
set_option maxHeartbeats 8000000 in
set_option maxRecDepth 200000 in
theorem tb_X10_empty_4 {post : Int32 → (Nat → Int32) → Prop} {SB : Int} {m_now0 : Nat → Int32} (bW : Int32) (h_m_fruits : 0 ≤ Int32.toInt bW ∧ Int32.toInt bW ≤ 16) (hc0 : -1 ≤ SB ∧ SB ≤ 7) (hpost : ∀ (r : Int32) (m_now' : Nat → Int32), (∀ k : Nat, k = 17 → -1 ≤ Int32.toInt (m_now' k) ∧ Int32.toInt (m_now' k) ≤ SB) → (∀ k : Nat, k = 19 → 0 ≤ Int32.toInt (m_now' k) ∧ Int32.toInt (m_now' k) ≤ 9) → (m_now' 19 = m_now0 19) → post r m_now') : ∀ (n : Nat) (x1 x2 : Int32) (rD : Nat → Int32), (0 ≤ Int32.toInt x2 ∧ Int32.toInt x2 ≤ 16) → (∀ k : Nat, k = 17 → -1 ≤ Int32.toInt (rD k) ∧ Int32.toInt (rD k) ≤ SB) → (∀ k : Nat, k = 19 → 0 ≤ Int32.toInt (rD k) ∧ Int32.toInt (rD k) ≤ 9) → (rD 19 = m_now0 19) → (16 - Int32.toInt x2 < (n : Int)) → wb_X10_empty_4 post bW n x1 x2 rD := by
  intro n
  induction n with
  | zero =>
    intro x1 x2 rD h_x2 e0_m_now e1_m_now hx0 hm
    exfalso; omega
  | succ n ih =>
    intro x1 x2 rD h_x2 e0_m_now e1_m_now hx0 hm
    exact ts_X10_empty_4 bW h_m_fruits hc0 hpost ih x1 x2 rD h_x2 e0_m_now e1_m_now hx0 (by omega)
set_option maxHeartbeats 8000000 in
set_option maxRecDepth 200000 in
theorem t_X10_empty {post : Int32 → (Nat → Int32) → Prop} {SB : Int} {bW : Int32} {rD : Nat → Int32} (h_m_fruits : 0 ≤ Int32.toInt bW ∧ Int32.toInt bW ≤ 16) (e0_m_now : ∀ k : Nat, k = 17 → -1 ≤ Int32.toInt (rD k) ∧ Int32.toInt (rD k) ≤ SB) (e1_m_now : ∀ k : Nat, k = 19 → 0 ≤ Int32.toInt (rD k) ∧ Int32.toInt (rD k) ≤ 9) (hc0 : -1 ≤ SB ∧ SB ≤ 7) (hpost : ∀ (r : Int32) (m_now' : Nat → Int32), (∀ k : Nat, k = 17 → -1 ≤ Int32.toInt (m_now' k) ∧ Int32.toInt (m_now' k) ≤ SB) → (∀ k : Nat, k = 19 → 0 ≤ Int32.toInt (m_now' k) ∧ Int32.toInt (m_now' k) ≤ 9) → (m_now' 19 = rD 19) → post r m_now') : wp_X10_empty post bW rD := by
  have l0 := li_0
  exact ⟨18, tb_X10_empty_4 bW h_m_fruits hc0 hpost _ 0 0 rD (by omega) e0_m_now e1_m_now (by first | assumption | exact rfl | exact t_upk (by assumption) (t_nk (by omega))) (by omega)⟩
set_option maxHeartbeats 8000000 in
set_option maxRecDepth 200000 in
theorem ts_X10_goMove_50 {post : Int32 → (Nat → Int32) → Prop} {SB : Int} (bW : Int32) (oY pR pX : Nat → Int32) (h_m_fruits : 0 ≤ Int32.toInt bW ∧ Int32.toInt bW ≤ 16) (h_m_foot : ∀ k : Nat, 0 ≤ Int32.toInt (oY k) ∧ Int32.toInt (oY k) ≤ 99) (h_m_fork : ∀ k : Nat, 0 ≤ Int32.toInt (pR k) ∧ Int32.toInt (pR k) ≤ 99) (e0_m_told : ∀ k : Nat, k = 4 → 1 ≤ Int32.toInt (pX k) ∧ Int32.toInt (pX k) ≤ 30) (e1_m_told : ∀ k : Nat, k = 3 → 0 ≤ Int32.toInt (pX k) ∧ Int32.toInt (pX k) ≤ 9) (hc0 : -1 ≤ SB ∧ SB ≤ 7) (hpost : ∀ (r : Int32) (m_now' : Nat → Int32), (9 ≤ Int32.toInt r ∧ Int32.toInt r ≤ 913) → (∀ k : Nat, k = 17 → -1 ≤ Int32.toInt (m_now' k) ∧ Int32.toInt (m_now' k) ≤ SB) → (∀ k : Nat, k = 19 → 0 ≤ Int32.toInt (m_now' k) ∧ Int32.toInt (m_now' k) ≤ 9) → post r m_now') (x1 x2 : Int32) (rD : Nat → Int32) (h_x1 : 0 ≤ Int32.toInt x1 ∧ Int32.toInt x1 ≤ 7) (h_x2 : 9 ≤ Int32.toInt x2 ∧ Int32.toInt x2 ≤ 913) (e0_m_now : ∀ k : Nat, k = 17 → -1 ≤ Int32.toInt (rD k) ∧ Int32.toInt (rD k) ≤ SB) (e1_m_now : ∀ k : Nat, k = 19 → 0 ≤ Int32.toInt (rD k) ∧ Int32.toInt (rD k) ≤ 9) (hx0 : Int32.toInt x1 ≤ SB) : ws_X10_goMove_50 post bW oY pR pX x1 x2 rD := by
  have l0 := li_17
  have l1 := li_20
  have l2 := li_9999
  refine t_X10_empty h_m_fruits e0_m_now e1_m_now (by omega) (fun r2 m_now_1 e0_m_now_1 e1_m_now_1 ox3 => ?_)
  have e4 : ∀ k : Nat, k = 17 → -1 ≤ Int32.toInt ((upd m_now_1 (17 : Int32).toNatClampNeg x1) k) ∧ Int32.toInt ((upd m_now_1 (17 : Int32).toNatClampNeg x1) k) ≤ SB := t_updc (C := fun k => k = 17) e0_m_now_1 (fun hk => by have e9 : (17 : Int32).toNatClampNeg = (Int32.toInt (17 : Int32)).toNat := rfl; have hk : (17 : Int32).toNatClampNeg = 17 := hk; omega)
  have e5 : ∀ k : Nat, k = 19 → 0 ≤ Int32.toInt ((upd m_now_1 (17 : Int32).toNatClampNeg x1) k) ∧ Int32.toInt ((upd m_now_1 (17 : Int32).toNatClampNeg x1) k) ≤ 9 := t_updc (C := fun k => k = 19) e1_m_now_1 (fun hk => by have e9 : (17 : Int32).toNatClampNeg = (Int32.toInt (17 : Int32)).toNat := rfl; have hk : (17 : Int32).toNatClampNeg = 19 := hk; omega)
  intro v6 ev6
  have hv6 := congrArg Int32.toInt ev6
  intro v8 ev8
  have hv8 := congrArg Int32.toInt ev8
  intro v10 ev10
  have f11 := tp_r (if v8 < 9999 then v8 else 9999)
  have f13 := tp_r v8
  have f12 := ti_min (9999 : Int32) v8
  have hv10 := congrArg Int32.toInt ev10
  have f15 := tp_r v10
  have e14 : ∀ k : Nat, k = 17 → -1 ≤ Int32.toInt ((upd (upd m_now_1 (17 : Int32).toNatClampNeg x1) (20 : Int32).toNatClampNeg v10) k) ∧ Int32.toInt ((upd (upd m_now_1 (17 : Int32).toNatClampNeg x1) (20 : Int32).toNatClampNeg v10) k) ≤ SB := t_updc (C := fun k => k = 17) e4 (fun hk => by have e9 : (20 : Int32).toNatClampNeg = (Int32.toInt (20 : Int32)).toNat := rfl; have hk : (20 : Int32).toNatClampNeg = 17 := hk; omega)
  have e16 : ∀ k : Nat, k = 19 → 0 ≤ Int32.toInt ((upd (upd m_now_1 (17 : Int32).toNatClampNeg x1) (20 : Int32).toNatClampNeg v10) k) ∧ Int32.toInt ((upd (upd m_now_1 (17 : Int32).toNatClampNeg x1) (20 : Int32).toNatClampNeg v10) k) ≤ 9 := t_updc (C := fun k => k = 19) e5 (fun hk => by have e9 : (20 : Int32).toNatClampNeg = (Int32.toInt (20 : Int32)).toNat := rfl; have hk : (20 : Int32).toNatClampNeg = 19 := hk; omega)
  exact hpost _ _ h_x2 e14 e16
set_option maxHeartbeats 8000000 in
set_option maxRecDepth 200000 in
theorem t_X10_goMove {post : Int32 → (Nat → Int32) → Prop} {SB : Int} {p0 bW : Int32} {rD oY pR pX : Nat → Int32} (h_p0 : 0 ≤ Int32.toInt p0 ∧ Int32.toInt p0 ≤ 7) (h_m_fruits : 0 ≤ Int32.toInt bW ∧ Int32.toInt bW ≤ 16) (e0_m_now : ∀ k : Nat, k = 17 → -1 ≤ Int32.toInt (rD k) ∧ Int32.toInt (rD k) ≤ SB) (e1_m_now : ∀ k : Nat, k = 19 → 0 ≤ Int32.toInt (rD k) ∧ Int32.toInt (rD k) ≤ 9) (h_m_foot : ∀ k : Nat, 0 ≤ Int32.toInt (oY k) ∧ Int32.toInt (oY k) ≤ 99) (h_m_fork : ∀ k : Nat, 0 ≤ Int32.toInt (pR k) ∧ Int32.toInt (pR k) ≤ 99) (e0_m_told : ∀ k : Nat, k = 4 → 1 ≤ Int32.toInt (pX k) ∧ Int32.toInt (pX k) ≤ 30) (e1_m_told : ∀ k : Nat, k = 3 → 0 ≤ Int32.toInt (pX k) ∧ Int32.toInt (pX k) ≤ 9) (hc0 : -1 ≤ SB ∧ SB ≤ 7) (hx0 : Int32.toInt p0 ≤ SB) (hpost : ∀ (r : Int32) (m_now' : Nat → Int32), (9 ≤ Int32.toInt r ∧ Int32.toInt r ≤ 913) → (∀ k : Nat, k = 17 → -1 ≤ Int32.toInt (m_now' k) ∧ Int32.toInt (m_now' k) ≤ SB) → (∀ k : Nat, k = 19 → 0 ≤ Int32.toInt (m_now' k) ∧ Int32.toInt (m_now' k) ≤ 9) → post r m_now') : wp_X10_goMove post p0 bW rD oY pR pX := by
  have l0 := li_m1
  have l1 := li_0
  have l2 := li_1
  have l3 := li_10
  have l4 := li_17
  have l5 := li_3
  have l6 := li_9
  have q17 := e0_m_now (17 : Int32).toNatClampNeg (by have e9 : (17 : Int32).toNatClampNeg = (Int32.toInt (17 : Int32)).toNat := rfl; omega)
  intro v18 ev18
  have hv18 := congrArg Int32.toInt ev18
  refine t_X10_moveOf (by omega) h_p0 h_m_foot e0_m_told e1_m_told (by omega) (by omega) (fun r20 h_r20 ox21 => ?_)
  refine t_X10_which (by omega) h_m_fruits e0_m_now e1_m_now (by omega) (fun r22 h_r22 ox23 => ?_)
  refine And.intro (fun c24 => ?_) (fun c24 => ?_)
  · skip
    have c24 := (fa_eq _ _).mp c24
    exact ts_X10_goMove_50 bW oY pR pX h_m_fruits h_m_foot h_m_fork e0_m_told e1_m_told hc0 hpost p0 r20 rD h_p0 (by omega) e0_m_now e1_m_now (by omega)
  · skip
    have c24 := mt (fa_eq _ _).mpr c24
    have q25 := e0_m_now (17 : Int32).toNatClampNeg (by have e9 : (17 : Int32).toNatClampNeg = (Int32.toInt (17 : Int32)).toNat := rfl; omega)
    intro v26 ev26
    have hv26 := congrArg Int32.toInt ev26
    refine And.intro (fun c27 => ?_) (fun c27 => ?_)
    · skip
      have c27 := (fa_eq _ _).mp c27
      exact ts_X10_goMove_50 bW oY pR pX h_m_fruits h_m_foot h_m_fork e0_m_told e1_m_told hc0 hpost p0 r20 rD h_p0 (by omega) e0_m_now e1_m_now (by omega)
    · skip
      have c27 := mt (fa_eq _ _).mpr c27
      have q28 := e0_m_now (17 : Int32).toNatClampNeg (by have e9 : (17 : Int32).toNatClampNeg = (Int32.toInt (17 : Int32)).toNat := rfl; omega)
      intro v29 ev29
      have hv29 := congrArg Int32.toInt ev29
      refine And.intro (t_in (by omega)) ?_
      intro v30 ev30
      have f31 := h_m_fork v29.toNatClampNeg
      have hv30 := congrArg Int32.toInt ev30
      intro v32 ev32
      have f33 : Int32.toInt (v30 + 9) = Int32.toInt v30 + Int32.toInt (9 : Int32) := ta_add _ _ (by omega)
      rw [← ev32] at f33
      intro v34 ev34
      have f37 : Int32.toInt (v32 / 10) = Int32.toInt v32 / 10 := ti_div _ _ (by decide) (by omega) (by decide)
      have f36 : Int32.toInt (3 + (v32 / 10)) = Int32.toInt (3 : Int32) + Int32.toInt (v32 / 10) := ta_add _ _ (by omega)
      have f35 : Int32.toInt (r20 + (3 + (v32 / 10))) = Int32.toInt r20 + Int32.toInt (3 + (v32 / 10)) := ta_add _ _ (by omega)
      rw [← ev34] at f35
      exact ts_X10_goMove_50 bW oY pR pX h_m_fruits h_m_foot h_m_fork e0_m_told e1_m_told hc0 hpost p0 v34 rD h_p0 (by omega) e0_m_now e1_m_now (by omega)
set_option maxHeartbeats 8000000 in
set_option maxRecDepth 200000 in
theorem t_X10_move {post : Int32 → Int32 → Int32 → (Nat → Int32) → (Nat → Int32) → Prop} {SB : Int} {p0 bW aG dG bT : Int32} {rD oY pR pX uQ : Nat → Int32} (h_m_fruits : 0 ≤ Int32.toInt bW ∧ Int32.toInt bW ≤ 16) (h_m_standings : 0 ≤ Int32.toInt aG ∧ Int32.toInt aG ≤ 8) (h_m_thrown : 0 ≤ Int32.toInt dG ∧ Int32.toInt dG ≤ 1) (h_m_undoMany : 0 ≤ Int32.toInt bT ∧ Int32.toInt bT ≤ 12) (e0_m_now : ∀ k : Nat, k = 17 → -1 ≤ Int32.toInt (rD k) ∧ Int32.toInt (rD k) ≤ SB) (e1_m_now : ∀ k : Nat, k = 19 → 0 ≤ Int32.toInt (rD k) ∧ Int32.toInt (rD k) ≤ 9) (h_m_foot : ∀ k : Nat, 0 ≤ Int32.toInt (oY k) ∧ Int32.toInt (oY k) ≤ 99) (h_m_fork : ∀ k : Nat, 0 ≤ Int32.toInt (pR k) ∧ Int32.toInt (pR k) ≤ 99) (e0_m_told : ∀ k : Nat, k = 4 → 1 ≤ Int32.toInt (pX k) ∧ Int32.toInt (pX k) ≤ 30) (e1_m_told : ∀ k : Nat, k = 3 → 0 ≤ Int32.toInt (pX k) ∧ Int32.toInt (pX k) ≤ 9) (e0_m_undos : ∀ k : Nat, k % 21 = 17 → -1 ≤ Int32.toInt (uQ k) ∧ Int32.toInt (uQ k) ≤ SB) (e1_m_undos : ∀ k : Nat, k % 21 = 19 → 0 ≤ Int32.toInt (uQ k) ∧ Int32.toInt (uQ k) ≤ 9) (hc0 : -1 ≤ SB ∧ SB ≤ 7) (hc1 : (Int32.toInt aG ≤ 0 ∧ SB = 0) ∨ (1 ≤ Int32.toInt aG ∧ SB = Int32.toInt aG - 1)) (hpost : ∀ (r : Int32) (m_thrown' : Int32) (m_undoMany' : Int32) (m_now' : Nat → Int32) (m_undos' : Nat → Int32), (-2 ≤ Int32.toInt r ∧ Int32.toInt r ≤ 913) → (0 ≤ Int32.toInt m_thrown' ∧ Int32.toInt m_thrown' ≤ 0) → (0 ≤ Int32.toInt m_undoMany' ∧ Int32.toInt m_undoMany' ≤ 12) → (∀ k : Nat, k = 17 → -1 ≤ Int32.toInt (m_now' k) ∧ Int32.toInt (m_now' k) ≤ SB) → (∀ k : Nat, k = 19 → 0 ≤ Int32.toInt (m_now' k) ∧ Int32.toInt (m_now' k) ≤ 9) → (∀ k : Nat, k % 21 = 17 → -1 ≤ Int32.toInt (m_undos' k) ∧ Int32.toInt (m_undos' k) ≤ SB) → (∀ k : Nat, k % 21 = 19 → 0 ≤ Int32.toInt (m_undos' k) ∧ Int32.toInt (m_undos' k) ≤ 9) → post r m_thrown' m_undoMany' m_now' m_undos') : wp_X10_move post p0 bW aG dG bT rD oY pR pX uQ := by
  have l0 := li_m1
  have l1 := li_m2
  have l2 := li_0
  have l3 := li_1
  have l4 := li_17
  intro v1 ev1
  have f2 : Int32.toInt (aG - 1) = Int32.toInt aG - Int32.toInt (1 : Int32) := ta_sub _ _ (by omega)
  rw [← ev1] at f2
  have f4 := tp_r p0
  refine And.intro (fun c3 => ?_) (fun c3 => ?_)
  · skip
    have c3 := (fa_lt _ _).mp c3
    refine And.intro (t_bool (by omega)) ?_
    refine And.intro (fun h9 => absurd h9 (by decide)) (fun _ => ?_)
    refine And.intro (fun h9 => absurd h9 (by decide)) (fun _ => ?_)
    exact hpost _ _ _ _ _ (by omega) (by omega) h_m_undoMany e0_m_now e1_m_now e0_m_undos e1_m_undos
  · skip
    have c3 := mt (fa_lt _ _).mpr c3
    refine And.intro (fun c5 => ?_) (fun c5 => ?_)
    · skip
      have c5 := (fa_lt _ _).mp c5
      refine And.intro (t_bool (by omega)) ?_
      refine And.intro (fun h9 => absurd h9 (by decide)) (fun _ => ?_)
      refine And.intro (fun h9 => absurd h9 (by decide)) (fun _ => ?_)
      exact hpost _ _ _ _ _ (by omega) (by omega) h_m_undoMany e0_m_now e1_m_now e0_m_undos e1_m_undos
    · skip
      have c5 := mt (fa_lt _ _).mpr c5
      refine And.intro (t_bool (by omega)) ?_
      refine And.intro (fun _ => ?_) (fun h9 => absurd h9 (by decide))
      have q6 := e0_m_now (17 : Int32).toNatClampNeg (by have e9 : (17 : Int32).toNatClampNeg = (Int32.toInt (17 : Int32)).toNat := rfl; omega)
      intro v7 ev7
      have hv7 := congrArg Int32.toInt ev7
      refine And.intro (fun c9 => ?_) (fun c9 => ?_)
      · skip
        have c9 := mt (fa_eq _ _).mpr c9
        refine And.intro (fun _ => ?_) (fun h9 => absurd h9 (by decide))
        refine t_X10_remember h_m_undoMany e0_m_now e1_m_now e0_m_undos e1_m_undos (by omega) (fun m_undoMany_10 m_undos_11 h_m_undoMany_10 e0_m_undos_11 e1_m_undos_11 => ?_)
        refine t_X10_goMove (by omega) h_m_fruits e0_m_now e1_m_now h_m_foot h_m_fork e0_m_told e1_m_told (by omega) (by omega) (fun r13 m_now_12 h_r13 e0_m_now_12 e1_m_now_12 => ?_)
        exact hpost _ _ _ _ _ (by omega) (by omega) (by omega) e0_m_now_12 e1_m_now_12 e0_m_undos_11 e1_m_undos_11
      · skip
        have c9 := (fa_eq _ _).mp c9
        refine And.intro (fun h9 => absurd h9 (by decide)) (fun _ => ?_)
        exact hpost _ _ _ _ _ (by omega) (by omega) h_m_undoMany e0_m_now e1_m_now e0_m_undos e1_m_undos
set_option maxHeartbeats 8000000 in
set_option maxRecDepth 200000 in
theorem t_X10_foot {post : Int32 → Int32 → Int32 → (Nat → Int32) → (Nat → Int32) → Prop} {SB : Int} {p0 dG bT : Int32} {rD uQ : Nat → Int32} (h_m_thrown : 0 ≤ Int32.toInt dG ∧ Int32.toInt dG ≤ 1) (h_m_undoMany : 0 ≤ Int32.toInt bT ∧ Int32.toInt bT ≤ 12) (e0_m_now : ∀ k : Nat, k = 17 → -1 ≤ Int32.toInt (rD k) ∧ Int32.toInt (rD k) ≤ SB) (e1_m_now : ∀ k : Nat, k = 19 → 0 ≤ Int32.toInt (rD k) ∧ Int32.toInt (rD k) ≤ 9) (e0_m_undos : ∀ k : Nat, k % 21 = 17 → -1 ≤ Int32.toInt (uQ k) ∧ Int32.toInt (uQ k) ≤ SB) (e1_m_undos : ∀ k : Nat, k % 21 = 19 → 0 ≤ Int32.toInt (uQ k) ∧ Int32.toInt (uQ k) ≤ 9) (hc0 : -1 ≤ SB ∧ SB ≤ 7) (hpost : ∀ (r : Int32) (m_thrown' : Int32) (m_undoMany' : Int32) (m_now' : Nat → Int32) (m_undos' : Nat → Int32), (0 ≤ Int32.toInt m_thrown' ∧ Int32.toInt m_thrown' ≤ 0) → (0 ≤ Int32.toInt m_undoMany' ∧ Int32.toInt m_undoMany' ≤ 12) → (∀ k : Nat, k = 17 → -1 ≤ Int32.toInt (m_now' k) ∧ Int32.toInt (m_now' k) ≤ SB) → (∀ k : Nat, k = 19 → 0 ≤ Int32.toInt (m_now' k) ∧ Int32.toInt (m_now' k) ≤ 9) → (∀ k : Nat, k % 21 = 17 → -1 ≤ Int32.toInt (m_undos' k) ∧ Int32.toInt (m_undos' k) ≤ SB) → (∀ k : Nat, k % 21 = 19 → 0 ≤ Int32.toInt (m_undos' k) ∧ Int32.toInt (m_undos' k) ≤ 9) → post r m_thrown' m_undoMany' m_now' m_undos') : wp_X10_foot post p0 dG bT rD uQ := by
  have l0 := li_0
  have l1 := li_1
  have l2 := li_18
  have f2 := tp_r p0
  refine And.intro (fun c1 => ?_) (fun c1 => ?_)
  · skip
    have c1 := (fa_lt _ _).mp c1
    refine And.intro (fun h9 => absurd h9 (by decide)) (fun _ => ?_)
    exact hpost _ _ _ _ _ (by omega) h_m_undoMany e0_m_now e1_m_now e0_m_undos e1_m_undos
  · skip
    have c1 := mt (fa_lt _ _).mpr c1
    refine And.intro (fun c3 => ?_) (fun c3 => ?_)
    · skip
      have c3 := (fa_lt _ _).mp c3
      refine And.intro (fun h9 => absurd h9 (by decide)) (fun _ => ?_)
      exact hpost _ _ _ _ _ (by omega) h_m_undoMany e0_m_now e1_m_now e0_m_undos e1_m_undos
    · skip
      have c3 := mt (fa_lt _ _).mpr c3
      refine And.intro (fun _ => ?_) (fun h9 => absurd h9 (by decide))
      refine t_X10_remember h_m_undoMany e0_m_now e1_m_now e0_m_undos e1_m_undos (by omega) (fun m_undoMany_4 m_undos_5 h_m_undoMany_4 e0_m_undos_5 e1_m_undos_5 => ?_)
      intro v6 ev6
      have hv6 := congrArg Int32.toInt ev6
      have e8 : ∀ k : Nat, k = 17 → -1 ≤ Int32.toInt ((upd rD (18 : Int32).toNatClampNeg p0) k) ∧ Int32.toInt ((upd rD (18 : Int32).toNatClampNeg p0) k) ≤ SB := t_updc (C := fun k => k = 17) e0_m_now (fun hk => by have e9 : (18 : Int32).toNatClampNeg = (Int32.toInt (18 : Int32)).toNat := rfl; have hk : (18 : Int32).toNatClampNeg = 17 := hk; omega)
      have e9 : ∀ k : Nat, k = 19 → 0 ≤ Int32.toInt ((upd rD (18 : Int32).toNatClampNeg p0) k) ∧ Int32.toInt ((upd rD (18 : Int32).toNatClampNeg p0) k) ≤ 9 := t_updc (C := fun k => k = 19) e1_m_now (fun hk => by have e9 : (18 : Int32).toNatClampNeg = (Int32.toInt (18 : Int32)).toNat := rfl; have hk : (18 : Int32).toNatClampNeg = 19 := hk; omega)
      exact hpost _ _ _ _ _ (by omega) (by omega) e8 e9 e0_m_undos_5 e1_m_undos_5
set_option maxHeartbeats 8000000 in
set_option maxRecDepth 200000 in
theorem ts_X10_secondsOf_80 {post : Int32 → Nat → Int32 → Int32 → Int32 → Int32 → Int32 → Int32 → Int32 → Int32 → Int32 → Prop} (bU : Int32) (m_x jA pY oY pR rG rQ : Nat → Int32) (h_m_ruleSize : 0 ≤ Int32.toInt bU ∧ Int32.toInt bU ≤ 40) (h_m_x : ∀ k : Nat, 0 ≤ Int32.toInt (m_x k) ∧ Int32.toInt (m_x k) ≤ 99) (h_m_height : ∀ k : Nat, 0 ≤ Int32.toInt (jA k) ∧ Int32.toInt (jA k) ≤ 99) (h_m_worth : ∀ k : Nat, 0 ≤ Int32.toInt (pY k) ∧ Int32.toInt (pY k) ≤ 9) (h_m_foot : ∀ k : Nat, 0 ≤ Int32.toInt (oY k) ∧ Int32.toInt (oY k) ≤ 99) (h_m_fork : ∀ k : Nat, 0 ≤ Int32.toInt (pR k) ∧ Int32.toInt (pR k) ≤ 99) (h_m_text : ∀ k : Nat, -128 ≤ Int32.toInt (rG k) ∧ Int32.toInt (rG k) ≤ 127) (h_m_rule : ∀ k : Nat, -128 ≤ Int32.toInt (rQ k) ∧ Int32.toInt (rQ k) ≤ 127) (hpost : ∀ (r : Int32) (m_read' : Nat) (m_length' : Int32) (m_top' : Int32) (m_at' : Int32) (m_wrong' : Int32) (m_isAsked' : Int32) (m_askedFruit' : Int32) (m_askedStanding' : Int32) (m_askedHook' : Int32) (m_askedApron' : Int32), (1 ≤ Int32.toInt r ∧ Int32.toInt r ≤ 99) → (m_read' = 0 ∨ m_read' = 1 ∨ m_read' = 2) → (0 ≤ Int32.toInt m_length' ∧ Int32.toInt m_length' ≤ 80) → (0 ≤ Int32.toInt m_top' ∧ Int32.toInt m_top' ≤ 80) → (0 ≤ Int32.toInt m_at' ∧ Int32.toInt m_at' ≤ 80) → (-1 ≤ Int32.toInt m_wrong' ∧ Int32.toInt m_wrong' ≤ 80) → (0 ≤ Int32.toInt m_isAsked' ∧ Int32.toInt m_isAsked' ≤ 0) → (0 ≤ Int32.toInt m_askedFruit' ∧ Int32.toInt m_askedFruit' ≤ 15) → (0 ≤ Int32.toInt m_askedStanding' ∧ Int32.toInt m_askedStanding' ≤ 7) → (0 ≤ Int32.toInt m_askedHook' ∧ Int32.toInt m_askedHook' ≤ 1) → (0 ≤ Int32.toInt m_askedApron' ∧ Int32.toInt m_askedApron' ≤ 63) → post r m_read' m_length' m_top' m_at' m_wrong' m_isAsked' m_askedFruit' m_askedStanding' m_askedHook' m_askedApron') (x5 : Int32) (jY : Nat) (m_length qG uW eY dN aR aE bJ aW : Int32) (h_m_read : jY = 0 ∨ jY = 1 ∨ jY = 2) (h_m_length : 0 ≤ Int32.toInt m_length ∧ Int32.toInt m_length ≤ 80) (h_m_top : 0 ≤ Int32.toInt qG ∧ Int32.toInt qG ≤ 80) (h_m_at : 0 ≤ Int32.toInt uW ∧ Int32.toInt uW ≤ 80) (h_m_wrong : -1 ≤ Int32.toInt eY ∧ Int32.toInt eY ≤ 80) (h_m_isAsked : 0 ≤ Int32.toInt dN ∧ Int32.toInt dN ≤ 0) (h_m_askedFruit : 0 ≤ Int32.toInt aR ∧ Int32.toInt aR ≤ 15) (h_m_askedStanding : 0 ≤ Int32.toInt aE ∧ Int32.toInt aE ≤ 7) (h_m_askedHook : 0 ≤ Int32.toInt bJ ∧ Int32.toInt bJ ≤ 1) (h_m_askedApron : 0 ≤ Int32.toInt aW ∧ Int32.toInt aW ≤ 63) : ws_X10_secondsOf_80 post bU m_x jA pY oY pR rG rQ x5 jY m_length qG uW eY dN aR aE bJ aW := by
  have l0 := li_1
  have l1 := li_99
  intro v1 ev1
  have f2 := tp_r (if x5 < 99 then x5 else 99)
  have f4 := tp_r x5
  have f3 := ti_min (99 : Int32) x5
  have hv1 := congrArg Int32.toInt ev1
  intro v5 ev5
  have f7 := tp_r v1
  have f6 := ti_max (1 : Int32) v1
  have hv5 := congrArg Int32.toInt ev5
  exact hpost _ _ _ _ _ _ _ _ _ _ _ (by omega) h_m_read h_m_length h_m_top h_m_at h_m_wrong h_m_isAsked h_m_askedFruit h_m_askedStanding h_m_askedHook h_m_askedApron
set_option maxHeartbeats 8000000 in
set_option maxRecDepth 200000 in
theorem t_X10_secondsOf {post : Int32 → Nat → Int32 → Int32 → Int32 → Int32 → Int32 → Int32 → Int32 → Int32 → Int32 → Prop} {p0 p1 p2 p3 : Int32} {jY : Nat} {m_length qG uW eY bU dN aR aE bJ aW : Int32} {m_x jA pY oY pR rG rQ : Nat → Int32} (h_p0 : 0 ≤ Int32.toInt p0 ∧ Int32.toInt p0 ≤ 15) (h_p1 : 0 ≤ Int32.toInt p1 ∧ Int32.toInt p1 ≤ 7) (h_p2 : 0 ≤ Int32.toInt p2 ∧ Int32.toInt p2 ≤ 1) (h_p3 : 0 ≤ Int32.toInt p3 ∧ Int32.toInt p3 ≤ 63) (h_m_read : jY = 0 ∨ jY = 1 ∨ jY = 2) (h_m_length : 0 ≤ Int32.toInt m_length ∧ Int32.toInt m_length ≤ 80) (h_m_top : 0 ≤ Int32.toInt qG ∧ Int32.toInt qG ≤ 80) (h_m_at : 0 ≤ Int32.toInt uW ∧ Int32.toInt uW ≤ 80) (h_m_wrong : -1 ≤ Int32.toInt eY ∧ Int32.toInt eY ≤ 80) (h_m_ruleSize : 0 ≤ Int32.toInt bU ∧ Int32.toInt bU ≤ 40) (h_m_isAsked : 0 ≤ Int32.toInt dN ∧ Int32.toInt dN ≤ 0) (h_m_askedFruit : 0 ≤ Int32.toInt aR ∧ Int32.toInt aR ≤ 15) (h_m_askedStanding : 0 ≤ Int32.toInt aE ∧ Int32.toInt aE ≤ 7) (h_m_askedHook : 0 ≤ Int32.toInt bJ ∧ Int32.toInt bJ ≤ 1) (h_m_askedApron : 0 ≤ Int32.toInt aW ∧ Int32.toInt aW ≤ 63) (h_m_x : ∀ k : Nat, 0 ≤ Int32.toInt (m_x k) ∧ Int32.toInt (m_x k) ≤ 99) (h_m_height : ∀ k : Nat, 0 ≤ Int32.toInt (jA k) ∧ Int32.toInt (jA k) ≤ 99) (h_m_worth : ∀ k : Nat, 0 ≤ Int32.toInt (pY k) ∧ Int32.toInt (pY k) ≤ 9) (h_m_foot : ∀ k : Nat, 0 ≤ Int32.toInt (oY k) ∧ Int32.toInt (oY k) ≤ 99) (h_m_fork : ∀ k : Nat, 0 ≤ Int32.toInt (pR k) ∧ Int32.toInt (pR k) ≤ 99) (h_m_text : ∀ k : Nat, -128 ≤ Int32.toInt (rG k) ∧ Int32.toInt (rG k) ≤ 127) (h_m_rule : ∀ k : Nat, -128 ≤ Int32.toInt (rQ k) ∧ Int32.toInt (rQ k) ≤ 127) (hpost : ∀ (r : Int32) (m_read' : Nat) (m_length' : Int32) (m_top' : Int32) (m_at' : Int32) (m_wrong' : Int32) (m_isAsked' : Int32) (m_askedFruit' : Int32) (m_askedStanding' : Int32) (m_askedHook' : Int32) (m_askedApron' : Int32), (1 ≤ Int32.toInt r ∧ Int32.toInt r ≤ 99) → (m_read' = 0 ∨ m_read' = 1 ∨ m_read' = 2) → (0 ≤ Int32.toInt m_length' ∧ Int32.toInt m_length' ≤ 80) → (0 ≤ Int32.toInt m_top' ∧ Int32.toInt m_top' ≤ 80) → (0 ≤ Int32.toInt m_at' ∧ Int32.toInt m_at' ≤ 80) → (-1 ≤ Int32.toInt m_wrong' ∧ Int32.toInt m_wrong' ≤ 80) → (0 ≤ Int32.toInt m_isAsked' ∧ Int32.toInt m_isAsked' ≤ 0) → (0 ≤ Int32.toInt m_askedFruit' ∧ Int32.toInt m_askedFruit' ≤ 15) → (0 ≤ Int32.toInt m_askedStanding' ∧ Int32.toInt m_askedStanding' ≤ 7) → (0 ≤ Int32.toInt m_askedHook' ∧ Int32.toInt m_askedHook' ≤ 1) → (0 ≤ Int32.toInt m_askedApron' ∧ Int32.toInt m_askedApron' ≤ 63) → post r m_read' m_length' m_top' m_at' m_wrong' m_isAsked' m_askedFruit' m_askedStanding' m_askedHook' m_askedApron') : wp_X10_secondsOf post p0 p1 p2 p3 jY m_length qG uW eY bU dN aR aE bJ aW m_x jA pY oY pR rG rQ := by
  have l0 := li_m1
  have l1 := li_0
  have l2 := li_1
  have l3 := li_2
  have l4 := li_4
  have l5 := li_40
  refine And.intro (t_in (by omega)) ?_
  intro v8 ev8
  have f9 := h_m_x p0.toNatClampNeg
  have hv8 := congrArg Int32.toInt ev8
  refine And.intro (t_in (by omega)) ?_
  intro v10 ev10
  have f12 := h_m_foot p1.toNatClampNeg
  have f11 : Int32.toInt (v8 - (oY p1.toNatClampNeg)) = Int32.toInt v8 - Int32.toInt (oY p1.toNatClampNeg) := ta_sub _ _ (by omega)
  rw [← ev10] at f11
  intro v13 ev13
  have f14 := ti_abs v10 (by omega)
  have hv13 := congrArg Int32.toInt ev13
  intro v15 ev15
  have f17 : Int32.toInt (v13 / 4) = Int32.toInt v13 / 4 := ti_div _ _ (by decide) (by omega) (by decide)
  have f16 : Int32.toInt (2 + (v13 / 4)) = Int32.toInt (2 : Int32) + Int32.toInt (v13 / 4) := ta_add _ _ (by omega)
  rw [← ev15] at f16
  refine And.intro (t_in (by omega)) ?_
  intro v18 ev18
  have f19 := h_m_height p0.toNatClampNeg
  have hv18 := congrArg Int32.toInt ev18
  refine And.intro (t_in (by omega)) ?_
  intro v20 ev20
  have f22 := h_m_fork p1.toNatClampNeg
  have f21 : Int32.toInt (v18 - (pR p1.toNatClampNeg)) = Int32.toInt v18 - Int32.toInt (pR p1.toNatClampNeg) := ta_sub _ _ (by omega)
  rw [← ev20] at f21
  intro v23 ev23
  have f24 := ti_max (0 : Int32) v20
  have hv23 := congrArg Int32.toInt ev23
  intro v25 ev25
  have f27 : Int32.toInt (v23 / 2) = Int32.toInt v23 / 2 := ti_div _ _ (by decide) (by omega) (by decide)
  have f26 : Int32.toInt (v15 + (v23 / 2)) = Int32.toInt v15 + Int32.toInt (v23 / 2) := ta_add _ _ (by omega)
  rw [← ev25] at f26
  refine And.intro (fun c28 => ?_) (fun c28 => ?_)
  · skip
    have c28 := (fa_le _ _).mp c28
    exact ts_X10_secondsOf_80 bU m_x jA pY oY pR rG rQ h_m_ruleSize h_m_x h_m_height h_m_worth h_m_foot h_m_fork h_m_text h_m_rule hpost v25 jY m_length qG uW eY dN aR aE bJ aW h_m_read h_m_length h_m_top h_m_at h_m_wrong h_m_isAsked h_m_askedFruit h_m_askedStanding h_m_askedHook h_m_askedApron
  · skip
    have c28 := mt (fa_le _ _).mpr c28
    refine t_X10_heldR (by omega) (by first | exact Or.inl rfl | exact Or.inr rfl | rfl) (by omega) (by omega) (by omega) (by omega) (by omega) h_p0 h_p1 h_p2 h_p3 h_m_x h_m_height h_m_worth h_m_foot h_m_fork h_m_text h_m_rule (by omega) (by omega) (by omega) (fun r31 m_at_29 m_wrong_30 h_m_at_29 h_m_wrong_30 ox32 ox33 => ?_)
    have f34 := tp_r r31
    exact ts_X10_secondsOf_80 bU m_x jA pY oY pR rG rQ h_m_ruleSize h_m_x h_m_height h_m_worth h_m_foot h_m_fork h_m_text h_m_rule hpost r31 2 bU 40 m_at_29 m_wrong_30 0 p0 p1 p2 p3 (by first | exact h_m_read | exact Or.inl rfl | exact Or.inr rfl | omega) (by omega) (by omega) h_m_at_29 h_m_wrong_30 (by omega) h_p0 h_p1 h_p2 h_p3
set_option maxHeartbeats 8000000 in
set_option maxRecDepth 200000 in
theorem t_X10_pick {post : Int32 → Int32 → Nat → Int32 → Int32 → Int32 → Int32 → Int32 → Int32 → Int32 → Int32 → Int32 → Int32 → (Nat → Int32) → (Nat → Int32) → Prop} {SB : Int} {p0 p1 bW dG : Int32} {jY : Nat} {m_length qG uW eY bU dN aR aE bJ aW bT : Int32} {rD m_x jA pY rW oY pR pX rG rQ uQ : Nat → Int32} (h_m_fruits : 0 ≤ Int32.toInt bW ∧ Int32.toInt bW ≤ 16) (h_m_thrown : 0 ≤ Int32.toInt dG ∧ Int32.toInt dG ≤ 1) (h_m_read : jY = 0 ∨ jY = 1 ∨ jY = 2) (h_m_length : 0 ≤ Int32.toInt m_length ∧ Int32.toInt m_length ≤ 80) (h_m_top : 0 ≤ Int32.toInt qG ∧ Int32.toInt qG ≤ 80) (h_m_at : 0 ≤ Int32.toInt uW ∧ Int32.toInt uW ≤ 80) (h_m_wrong : -1 ≤ Int32.toInt eY ∧ Int32.toInt eY ≤ 80) (h_m_ruleSize : 0 ≤ Int32.toInt bU ∧ Int32.toInt bU ≤ 40) (h_m_isAsked : 0 ≤ Int32.toInt dN ∧ Int32.toInt dN ≤ 0) (h_m_askedFruit : 0 ≤ Int32.toInt aR ∧ Int32.toInt aR ≤ 15) (h_m_askedStanding : 0 ≤ Int32.toInt aE ∧ Int32.toInt aE ≤ 7) (h_m_askedHook : 0 ≤ Int32.toInt bJ ∧ Int32.toInt bJ ≤ 1) (h_m_askedApron : 0 ≤ Int32.toInt aW ∧ Int32.toInt aW ≤ 63) (h_m_undoMany : 0 ≤ Int32.toInt bT ∧ Int32.toInt bT ≤ 12) (e0_m_now : ∀ k : Nat, k = 17 → -1 ≤ Int32.toInt (rD k) ∧ Int32.toInt (rD k) ≤ SB) (e1_m_now : ∀ k : Nat, k = 19 → 0 ≤ Int32.toInt (rD k) ∧ Int32.toInt (rD k) ≤ 9) (h_m_x : ∀ k : Nat, 0 ≤ Int32.toInt (m_x k) ∧ Int32.toInt (m_x k) ≤ 99) (h_m_height : ∀ k : Nat, 0 ≤ Int32.toInt (jA k) ∧ Int32.toInt (jA k) ≤ 99) (h_m_worth : ∀ k : Nat, 0 ≤ Int32.toInt (pY k) ∧ Int32.toInt (pY k) ≤ 9) (h_m_ripe : ∀ k : Nat, 0 ≤ Int32.toInt (rW k) ∧ Int32.toInt (rW k) ≤ 9) (h_m_foot : ∀ k : Nat, 0 ≤ Int32.toInt (oY k) ∧ Int32.toInt (oY k) ≤ 99) (h_m_fork : ∀ k : Nat, 0 ≤ Int32.toInt (pR k) ∧ Int32.toInt (pR k) ≤ 99) (e0_m_told : ∀ k : Nat, k = 4 → 1 ≤ Int32.toInt (pX k) ∧ Int32.toInt (pX k) ≤ 30) (e1_m_told : ∀ k : Nat, k = 3 → 0 ≤ Int32.toInt (pX k) ∧ Int32.toInt (pX k) ≤ 9) (h_m_text : ∀ k : Nat, -128 ≤ Int32.toInt (rG k) ∧ Int32.toInt (rG k) ≤ 127) (h_m_rule : ∀ k : Nat, -128 ≤ Int32.toInt (rQ k) ∧ Int32.toInt (rQ k) ≤ 127) (e0_m_undos : ∀ k : Nat, k % 21 = 17 → -1 ≤ Int32.toInt (uQ k) ∧ Int32.toInt (uQ k) ≤ SB) (e1_m_undos : ∀ k : Nat, k % 21 = 19 → 0 ≤ Int32.toInt (uQ k) ∧ Int32.toInt (uQ k) ≤ 9) (hc0 : -1 ≤ SB ∧ SB ≤ 7) (hpost : ∀ (r : Int32) (m_thrown' : Int32) (m_read' : Nat) (m_length' : Int32) (m_top' : Int32) (m_at' : Int32) (m_wrong' : Int32) (m_isAsked' : Int32) (m_askedFruit' : Int32) (m_askedStanding' : Int32) (m_askedHook' : Int32) (m_askedApron' : Int32) (m_undoMany' : Int32) (m_now' : Nat → Int32) (m_undos' : Nat → Int32), (-5 ≤ Int32.toInt r ∧ Int32.toInt r ≤ 99) → (0 ≤ Int32.toInt m_thrown' ∧ Int32.toInt m_thrown' ≤ 0) → (m_read' = 0 ∨ m_read' = 1 ∨ m_read' = 2) → (0 ≤ Int32.toInt m_length' ∧ Int32.toInt m_length' ≤ 80) → (0 ≤ Int32.toInt m_top' ∧ Int32.toInt m_top' ≤ 80) → (0 ≤ Int32.toInt m_at' ∧ Int32.toInt m_at' ≤ 80) → (-1 ≤ Int32.toInt m_wrong' ∧ Int32.toInt m_wrong' ≤ 80) → (0 ≤ Int32.toInt m_isAsked' ∧ Int32.toInt m_isAsked' ≤ 0) → (0 ≤ Int32.toInt m_askedFruit' ∧ Int32.toInt m_askedFruit' ≤ 15) → (0 ≤ Int32.toInt m_askedStanding' ∧ Int32.toInt m_askedStanding' ≤ 7) → (0 ≤ Int32.toInt m_askedHook' ∧ Int32.toInt m_askedHook' ≤ 1) → (0 ≤ Int32.toInt m_askedApron' ∧ Int32.toInt m_askedApron' ≤ 63) → (0 ≤ Int32.toInt m_undoMany' ∧ Int32.toInt m_undoMany' ≤ 12) → (∀ k : Nat, k = 17 → -1 ≤ Int32.toInt (m_now' k) ∧ Int32.toInt (m_now' k) ≤ SB) → (∀ k : Nat, k = 19 → 0 ≤ Int32.toInt (m_now' k) ∧ Int32.toInt (m_now' k) ≤ 9) → (∀ k : Nat, k % 21 = 17 → -1 ≤ Int32.toInt (m_undos' k) ∧ Int32.toInt (m_undos' k) ≤ SB) → (∀ k : Nat, k % 21 = 19 → 0 ≤ Int32.toInt (m_undos' k) ∧ Int32.toInt (m_undos' k) ≤ 9) → post r m_thrown' m_read' m_length' m_top' m_at' m_wrong' m_isAsked' m_askedFruit' m_askedStanding' m_askedHook' m_askedApron' m_undoMany' m_now' m_undos') : wp_X10_pick post p0 p1 bW dG jY m_length qG uW eY bU dN aR aE bJ aW bT rD m_x jA pY rW oY pR pX rG rQ uQ := by
  have l0 := li_m1
  have l1 := li_m2
  have l2 := li_m3
  have l3 := li_m4
  have l4 := li_m5
  have l5 := li_0
  have l6 := li_1
  have l7 := li_1431655765
  have l8 := li_16
  have l9 := li_17
  have l10 := li_18
  have l11 := li_19
  have l12 := li_2
  have l13 := li_20
  have l14 := li_252645135
  have l15 := li_4
  have l16 := li_63
  have l17 := li_858993459
  have l18 := li_9999
  intro v1 ev1
  have f2 : Int32.toInt (bW - 1) = Int32.toInt bW - Int32.toInt (1 : Int32) := ta_sub _ _ (by omega)
  rw [← ev1] at f2
  have f4 := tp_r p0
  refine And.intro (fun c3 => ?_) (fun c3 => ?_)
  · skip
    have c3 := (fa_lt _ _).mp c3
    refine And.intro (t_bool (by omega)) ?_
    refine And.intro (fun _ => ?_) (fun h9 => absurd h9 (by decide))
    refine And.intro (fun h9 => absurd h9 (by decide)) (fun _ => ?_)
    exact hpost _ _ _ _ _ _ _ _ _ _ _ _ _ _ _ (by omega) (by omega) h_m_read h_m_length h_m_top h_m_at h_m_wrong h_m_isAsked h_m_askedFruit h_m_askedStanding h_m_askedHook h_m_askedApron h_m_undoMany e0_m_now e1_m_now e0_m_undos e1_m_undos
  · skip
    have c3 := mt (fa_lt _ _).mpr c3
    refine And.intro (fun c5 => ?_) (fun c5 => ?_)
    · skip
      have c5 := (fa_lt _ _).mp c5
      refine And.intro (t_bool (by omega)) ?_
      refine And.intro (fun _ => ?_) (fun h9 => absurd h9 (by decide))
      refine And.intro (fun h9 => absurd h9 (by decide)) (fun _ => ?_)
      exact hpost _ _ _ _ _ _ _ _ _ _ _ _ _ _ _ (by omega) (by omega) h_m_read h_m_length h_m_top h_m_at h_m_wrong h_m_isAsked h_m_askedFruit h_m_askedStanding h_m_askedHook h_m_askedApron h_m_undoMany e0_m_now e1_m_now e0_m_undos e1_m_undos
    · skip
      have c5 := mt (fa_lt _ _).mpr c5
      refine And.intro (t_bool (by omega)) ?_
      refine And.intro (fun h9 => absurd h9 (by decide)) (fun _ => ?_)
      have f7 := tp_r p1
      refine And.intro (fun c6 => ?_) (fun c6 => ?_)
      · skip
        have c6 := (fa_lt _ _).mp c6
        refine And.intro (fun h9 => absurd h9 (by decide)) (fun _ => ?_)
        refine And.intro (fun h9 => absurd h9 (by decide)) (fun _ => ?_)
        exact hpost _ _ _ _ _ _ _ _ _ _ _ _ _ _ _ (by omega) (by omega) h_m_read h_m_length h_m_top h_m_at h_m_wrong h_m_isAsked h_m_askedFruit h_m_askedStanding h_m_askedHook h_m_askedApron h_m_undoMany e0_m_now e1_m_now e0_m_undos e1_m_undos
      · skip
        have c6 := mt (fa_lt _ _).mpr c6
        refine And.intro (fun c8 => ?_) (fun c8 => ?_)
        · skip
          have c8 := (fa_lt _ _).mp c8
          refine And.intro (fun h9 => absurd h9 (by decide)) (fun _ => ?_)
          refine And.intro (fun h9 => absurd h9 (by decide)) (fun _ => ?_)
          exact hpost _ _ _ _ _ _ _ _ _ _ _ _ _ _ _ (by omega) (by omega) h_m_read h_m_length h_m_top h_m_at h_m_wrong h_m_isAsked h_m_askedFruit h_m_askedStanding h_m_askedHook h_m_askedApron h_m_undoMany e0_m_now e1_m_now e0_m_undos e1_m_undos
        · skip
          have c8 := mt (fa_lt _ _).mpr c8
          refine And.intro (fun _ => ?_) (fun h9 => absurd h9 (by decide))
          refine And.intro (t_in (by omega)) ?_
          refine And.intro (fun c9 => ?_) (fun c9 => ?_)
          · skip
            have c9 := (fa_eq _ _).mp c9
            refine And.intro (t_in (by omega)) ?_
            intro v11 ev11
            have f12 := h_m_ripe p0.toNatClampNeg
            have hv11 := congrArg Int32.toInt ev11
            have q13 := e1_m_now (19 : Int32).toNatClampNeg (by have e9 : (19 : Int32).toNatClampNeg = (Int32.toInt (19 : Int32)).toNat := rfl; omega)
            refine And.intro (fun c14 => ?_) (fun c14 => ?_)
            · skip
              have c14 := (fa_le _ _).mp c14
              have q16 := e0_m_now (17 : Int32).toNatClampNeg (by have e9 : (17 : Int32).toNatClampNeg = (Int32.toInt (17 : Int32)).toNat := rfl; omega)
              intro v17 ev17
              have hv17 := congrArg Int32.toInt ev17
              refine And.intro (fun c19 => ?_) (fun c19 => ?_)
              · skip
                have c19 := (fa_eq _ _).mp c19
                refine And.intro (fun h9 => absurd h9 (by decide)) (fun _ => ?_)
                exact hpost _ _ _ _ _ _ _ _ _ _ _ _ _ _ _ (by omega) (by omega) h_m_read h_m_length h_m_top h_m_at h_m_wrong h_m_isAsked h_m_askedFruit h_m_askedStanding h_m_askedHook h_m_askedApron h_m_undoMany e0_m_now e1_m_now e0_m_undos e1_m_undos
              · skip
                have c19 := mt (fa_eq _ _).mpr c19
                have q20 := e0_m_now (17 : Int32).toNatClampNeg (by have e9 : (17 : Int32).toNatClampNeg = (Int32.toInt (17 : Int32)).toNat := rfl; omega)
                intro v21 ev21
                have hv21 := congrArg Int32.toInt ev21
                intro v22 ev22
                have hv22 := congrArg Int32.toInt ev22
                intro v24 ev24
                have hv24 := congrArg Int32.toInt ev24
                intro v26 ev26
                have hv26 := congrArg Int32.toInt ev26
                refine And.intro (t_in (by omega)) ?_
                intro v28 ev28
                have f29 := h_m_x p0.toNatClampNeg
                have hv28 := congrArg Int32.toInt ev28
                refine And.intro (t_in (by omega)) ?_
                intro v30 ev30
                have f32 := h_m_foot v21.toNatClampNeg
                have f31 : Int32.toInt (v28 - (oY v21.toNatClampNeg)) = Int32.toInt v28 - Int32.toInt (oY v21.toNatClampNeg) := ta_sub _ _ (by omega)
                rw [← ev30] at f31
                intro v33 ev33
                have f34 := ti_abs v30 (by omega)
                have hv33 := congrArg Int32.toInt ev33
                refine And.intro (t_in (by omega)) ?_
                intro v35 ev35
                have hv35 := congrArg Int32.toInt ev35
                refine And.intro (t_in (by omega)) ?_
                intro v36 ev36
                have f37 : Int32.toInt (v35 - (oY v21.toNatClampNeg)) = Int32.toInt v35 - Int32.toInt (oY v21.toNatClampNeg) := ta_sub _ _ (by omega)
                rw [← ev36] at f37
                intro v38 ev38
                have f39 := ti_abs v36 (by omega)
                have hv38 := congrArg Int32.toInt ev38
                intro v40 ev40
                have hv40 := congrArg Int32.toInt ev40
                refine And.intro (t_in (by omega)) ?_
                intro v42 ev42
                have f43 := h_m_height p0.toNatClampNeg
                have hv42 := congrArg Int32.toInt ev42
                refine And.intro (t_in (by omega)) ?_
                intro v44 ev44
                have f46 := h_m_fork v21.toNatClampNeg
                have f45 : Int32.toInt (v42 - (pR v21.toNatClampNeg)) = Int32.toInt v42 - Int32.toInt (pR v21.toNatClampNeg) := ta_sub _ _ (by omega)
                rw [← ev44] at f45
                intro v47 ev47
                have f48 := ti_max (0 : Int32) v44
                have hv47 := congrArg Int32.toInt ev47
                refine And.intro (t_in (by omega)) ?_
                intro v49 ev49
                have hv49 := congrArg Int32.toInt ev49
                refine And.intro (t_in (by omega)) ?_
                intro v50 ev50
                have f51 : Int32.toInt (v49 - (pR v21.toNatClampNeg)) = Int32.toInt v49 - Int32.toInt (pR v21.toNatClampNeg) := ta_sub _ _ (by omega)
                rw [← ev50] at f51
                intro v52 ev52
                have f53 := ti_max (0 : Int32) v50
                have hv52 := congrArg Int32.toInt ev52
                intro v54 ev54
                have hv54 := congrArg Int32.toInt ev54
                have f57 := tp_r v54
                refine And.intro (fun c56 => ?_) (fun c56 => ?_)
                · skip
                  have c56 := (fa_lt _ _).mp c56
                  refine And.intro (fun h9 => absurd h9 (by decide)) (fun _ => ?_)
                  refine And.intro (fun h9 => absurd h9 (by decide)) (fun _ => ?_)
                  exact hpost _ _ _ _ _ _ _ _ _ _ _ _ _ _ _ (by omega) (by omega) h_m_read h_m_length h_m_top h_m_at h_m_wrong h_m_isAsked h_m_askedFruit h_m_askedStanding h_m_askedHook h_m_askedApron h_m_undoMany e0_m_now e1_m_now e0_m_undos e1_m_undos
                · skip
                  have c56 := mt (fa_lt _ _).mpr c56
                  refine And.intro (fun _ => ?_) (fun h9 => absurd h9 (by decide))
                  refine t_X10_which (by omega) h_m_fruits e0_m_now e1_m_now (by omega) (fun r59 h_r59 ox60 => ?_)
                  intro v61 ev61
                  intro v62 ev62
                  have f64 := ti_andr v61 1431655765 (by omega)
                  have f63 : Int32.toInt (r59 - (v61 &&& 1431655765)) = Int32.toInt r59 - Int32.toInt (v61 &&& 1431655765) := ta_sub _ _ (by omega)
                  rw [← ev62] at f63
                  intro v65 ev65
                  have f66 := ti_andr v62 858993459 (by omega)
                  have hv65 := congrArg Int32.toInt ev65
                  intro v67 ev67
                  intro v68 ev68
                  have f70 := ti_andr v67 858993459 (by omega)
                  have f69 : Int32.toInt (v65 + (v67 &&& 858993459)) = Int32.toInt v65 + Int32.toInt (v67 &&& 858993459) := ta_add _ _ (by omega)
                  rw [← ev68] at f69
                  intro v71 ev71
                  have hv71 := congrArg Int32.toInt ev71
                  intro v73 ev73
                  have f74 := ti_andr v71 252645135 (by omega)
                  have hv73 := congrArg Int32.toInt ev73
                  intro v75 ev75
                  have hv75 := congrArg Int32.toInt ev75
                  intro v77 ev77
                  have hv77 := congrArg Int32.toInt ev77
                  have q79 := e0_m_told (4 : Int32).toNatClampNeg (by have e9 : (4 : Int32).toNatClampNeg = (Int32.toInt (4 : Int32)).toNat := rfl; omega)
                  have f81 := ti_andr v77 63 (by omega)
                  refine And.intro (fun c80 => ?_) (fun c80 => ?_)
                  · skip
                    have c80 := (fa_lt _ _).mp c80
                    refine And.intro (fun _ => ?_) (fun h9 => absurd h9 (by decide))
                    refine t_X10_remember h_m_undoMany e0_m_now e1_m_now e0_m_undos e1_m_undos (by omega) (fun m_undoMany_83 m_undos_84 h_m_undoMany_83 e0_m_undos_84 e1_m_undos_84 => ?_)
                    have q85 := e0_m_now (17 : Int32).toNatClampNeg (by have e9 : (17 : Int32).toNatClampNeg = (Int32.toInt (17 : Int32)).toNat := rfl; omega)
                    intro v86 ev86
                    have hv86 := congrArg Int32.toInt ev86
                    refine t_X10_which (by omega) h_m_fruits e0_m_now e1_m_now (by omega) (fun r87 h_r87 ox88 => ?_)
                    intro v89 ev89
                    intro v90 ev90
                    have f92 := ti_andr v89 1431655765 (by omega)
                    have f91 : Int32.toInt (r87 - (v89 &&& 1431655765)) = Int32.toInt r87 - Int32.toInt (v89 &&& 1431655765) := ta_sub _ _ (by omega)
                    rw [← ev90] at f91
                    intro v93 ev93
                    have f94 := ti_andr v90 858993459 (by omega)
                    have hv93 := congrArg Int32.toInt ev93
                    intro v95 ev95
                    intro v96 ev96
                    have f98 := ti_andr v95 858993459 (by omega)
                    have f97 : Int32.toInt (v93 + (v95 &&& 858993459)) = Int32.toInt v93 + Int32.toInt (v95 &&& 858993459) := ta_add _ _ (by omega)
                    rw [← ev96] at f97
                    intro v99 ev99
                    have hv99 := congrArg Int32.toInt ev99
                    intro v101 ev101
                    have f102 := ti_andr v99 252645135 (by omega)
                    have hv101 := congrArg Int32.toInt ev101
                    intro v103 ev103
                    have hv103 := congrArg Int32.toInt ev103
                    intro v105 ev105
                    have hv105 := congrArg Int32.toInt ev105
                    have f118 := ti_andr v105 63 (by omega)
                    refine t_X10_secondsOf (by omega) (by omega) (by omega) (by omega) h_m_read h_m_length h_m_top h_m_at h_m_wrong h_m_ruleSize h_m_isAsked h_m_askedFruit h_m_askedStanding h_m_askedHook h_m_askedApron h_m_x h_m_height h_m_worth h_m_foot h_m_fork h_m_text h_m_rule (fun r117 m_read_107 m_length_108 m_top_109 m_at_110 m_wrong_111 m_isAsked_112 m_askedFruit_113 m_askedStanding_114 m_askedHook_115 m_askedApron_116 h_r117 h_m_read_107 h_m_length_108 h_m_top_109 h_m_at_110 h_m_wrong_111 h_m_isAsked_112 h_m_askedFruit_113 h_m_askedStanding_114 h_m_askedHook_115 h_m_askedApron_116 => ?_)
                    intro v119 ev119
                    have hv119 := congrArg Int32.toInt ev119
                    refine t_X10_which (by omega) h_m_fruits e0_m_now e1_m_now (by omega) (fun r121 h_r121 ox122 => ?_)
                    refine t_X10_below (by omega) h_r121 h_m_fruits h_m_x h_m_height (fun r123 h_r123 => ?_)
                    intro v124 ev124
                    have f126 := tp_r v124
                    have e125 : ∀ k : Nat, k = 17 → -1 ≤ Int32.toInt ((upd rD (16 : Int32).toNatClampNeg v124) k) ∧ Int32.toInt ((upd rD (16 : Int32).toNatClampNeg v124) k) ≤ SB := t_updc (C := fun k => k = 17) e0_m_now (fun hk => by have e9 : (16 : Int32).toNatClampNeg = (Int32.toInt (16 : Int32)).toNat := rfl; have hk : (16 : Int32).toNatClampNeg = 17 := hk; omega)
                    have e127 : ∀ k : Nat, k = 19 → 0 ≤ Int32.toInt ((upd rD (16 : Int32).toNatClampNeg v124) k) ∧ Int32.toInt ((upd rD (16 : Int32).toNatClampNeg v124) k) ≤ 9 := t_updc (C := fun k => k = 19) e1_m_now (fun hk => by have e9 : (16 : Int32).toNatClampNeg = (Int32.toInt (16 : Int32)).toNat := rfl; have hk : (16 : Int32).toNatClampNeg = 19 := hk; omega)
                    refine And.intro (t_in (by omega)) ?_
                    have e128 : ∀ k : Nat, k = 17 → -1 ≤ Int32.toInt ((upd (upd rD (16 : Int32).toNatClampNeg v124) p0.toNatClampNeg 1) k) ∧ Int32.toInt ((upd (upd rD (16 : Int32).toNatClampNeg v124) p0.toNatClampNeg 1) k) ≤ SB := t_updc (C := fun k => k = 17) e125 (fun hk => by have e9 : p0.toNatClampNeg = (Int32.toInt p0).toNat := rfl; have hk : p0.toNatClampNeg = 17 := hk; omega)
                    have e129 : ∀ k : Nat, k = 19 → 0 ≤ Int32.toInt ((upd (upd rD (16 : Int32).toNatClampNeg v124) p0.toNatClampNeg 1) k) ∧ Int32.toInt ((upd (upd rD (16 : Int32).toNatClampNeg v124) p0.toNatClampNeg 1) k) ≤ 9 := t_updc (C := fun k => k = 19) e127 (fun hk => by have e9 : p0.toNatClampNeg = (Int32.toInt p0).toNat := rfl; have hk : p0.toNatClampNeg = 19 := hk; omega)
                    intro v130 ev130
                    have hv130 := congrArg Int32.toInt ev130
                    intro v132 ev132
                    have hv132 := congrArg Int32.toInt ev132
                    intro v134 ev134
                    have f135 := tp_r (if v132 < 9999 then v132 else 9999)
                    have f137 := tp_r v132
                    have f136 := ti_min (9999 : Int32) v132
                    have hv134 := congrArg Int32.toInt ev134
                    have f139 := tp_r v134
                    have e138 : ∀ k : Nat, k = 17 → -1 ≤ Int32.toInt ((upd (upd (upd rD (16 : Int32).toNatClampNeg v124) p0.toNatClampNeg 1) (20 : Int32).toNatClampNeg v134) k) ∧ Int32.toInt ((upd (upd (upd rD (16 : Int32).toNatClampNeg v124) p0.toNatClampNeg 1) (20 : Int32).toNatClampNeg v134) k) ≤ SB := t_updc (C := fun k => k = 17) e128 (fun hk => by have e9 : (20 : Int32).toNatClampNeg = (Int32.toInt (20 : Int32)).toNat := rfl; have hk : (20 : Int32).toNatClampNeg = 17 := hk; omega)
                    have e140 : ∀ k : Nat, k = 19 → 0 ≤ Int32.toInt ((upd (upd (upd rD (16 : Int32).toNatClampNeg v124) p0.toNatClampNeg 1) (20 : Int32).toNatClampNeg v134) k) ∧ Int32.toInt ((upd (upd (upd rD (16 : Int32).toNatClampNeg v124) p0.toNatClampNeg 1) (20 : Int32).toNatClampNeg v134) k) ≤ 9 := t_updc (C := fun k => k = 19) e129 (fun hk => by have e9 : (20 : Int32).toNatClampNeg = (Int32.toInt (20 : Int32)).toNat := rfl; have hk : (20 : Int32).toNatClampNeg = 19 := hk; omega)
                    exact hpost _ _ _ _ _ _ _ _ _ _ _ _ _ _ _ (by omega) (by omega) h_m_read_107 h_m_length_108 h_m_top_109 h_m_at_110 h_m_wrong_111 h_m_isAsked_112 h_m_askedFruit_113 h_m_askedStanding_114 h_m_askedHook_115 h_m_askedApron_116 (by omega) e138 e140 e0_m_undos_84 e1_m_undos_84
                  · skip
                    have c80 := mt (fa_lt _ _).mpr c80
                    refine And.intro (fun h9 => absurd h9 (by decide)) (fun _ => ?_)
                    exact hpost _ _ _ _ _ _ _ _ _ _ _ _ _ _ _ (by omega) (by omega) h_m_read h_m_length h_m_top h_m_at h_m_wrong h_m_isAsked h_m_askedFruit h_m_askedStanding h_m_askedHook h_m_askedApron h_m_undoMany e0_m_now e1_m_now e0_m_undos e1_m_undos
            · skip
              have c14 := mt (fa_le _ _).mpr c14
              refine And.intro (fun h9 => absurd h9 (by decide)) (fun _ => ?_)
              exact hpost _ _ _ _ _ _ _ _ _ _ _ _ _ _ _ (by omega) (by omega) h_m_read h_m_length h_m_top h_m_at h_m_wrong h_m_isAsked h_m_askedFruit h_m_askedStanding h_m_askedHook h_m_askedApron h_m_undoMany e0_m_now e1_m_now e0_m_undos e1_m_undos
          · skip
            have c9 := mt (fa_eq _ _).mpr c9
            refine And.intro (fun h9 => absurd h9 (by decide)) (fun _ => ?_)
            exact hpost _ _ _ _ _ _ _ _ _ _ _ _ _ _ _ (by omega) (by omega) h_m_read h_m_length h_m_top h_m_at h_m_wrong h_m_isAsked h_m_askedFruit h_m_askedStanding h_m_askedHook h_m_askedApron h_m_undoMany e0_m_now e1_m_now e0_m_undos e1_m_undos
