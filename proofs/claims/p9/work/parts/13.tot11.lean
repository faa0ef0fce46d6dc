theorem t_X10_which {post : Int32 → Prop} {SB : Int} {p1 : Int32} {m_fruits : Int32} {m_now : Nat → Int32} (h_p1 : 0 ≤ Int32.toInt p1 ∧ Int32.toInt p1 ≤ 3) (h_m_fruits : 0 ≤ Int32.toInt m_fruits ∧ Int32.toInt m_fruits ≤ 16) (e0_m_now : ∀ k : Nat, k = 17 → -1 ≤ Int32.toInt (m_now k) ∧ Int32.toInt (m_now k) ≤ SB) (e1_m_now : ∀ k : Nat, k = 19 → 0 ≤ Int32.toInt (m_now k) ∧ Int32.toInt (m_now k) ≤ 9) (hc0 : -1 ≤ SB ∧ SB ≤ 7) (hpost : ∀ (r : Int32) , (0 ≤ Int32.toInt r ∧ Int32.toInt r ≤ 65535) → (r = bsf (Int32.toInt m_fruits).toNat (fun k => decide (m_now k = p1))) → post r) : wp_X10_which post p1 m_fruits m_now := by
  refine f_which h_m_fruits (hpost _ ?_ rfl)
  exact bsf_rng _ (by omega) _
set_option maxHeartbeats 8000000 in
set_option maxRecDepth 200000 in
theorem ts_X10_below_42 {post : Int32 → Prop} {K5 : Int32 → Int32 → Int32 → Int32 → Prop} {n5 : Int} (m_fruits : Int32) (m_x : Nat → Int32) (m_height : Nat → Int32) (h_m_fruits : 0 ≤ Int32.toInt m_fruits ∧ Int32.toInt m_fruits ≤ 16) (h_m_x : ∀ k : Nat, 0 ≤ Int32.toInt (m_x k) ∧ Int32.toInt (m_x k) ≤ 99) (h_m_height : ∀ k : Nat, 0 ≤ Int32.toInt (m_height k) ∧ Int32.toInt (m_height k) ≤ 99) (hpost : ∀ (r : Int32) , (0 ≤ Int32.toInt r ∧ Int32.toInt r ≤ 65535) → post r) (hK5 : ∀ (x1 : Int32) (x2 : Int32) (x3 : Int32) (x4 : Int32), (0 ≤ Int32.toInt x1 ∧ Int32.toInt x1 ≤ 15) → (0 ≤ Int32.toInt x2 ∧ Int32.toInt x2 ≤ 65535) → (0 ≤ Int32.toInt x3 ∧ Int32.toInt x3 ≤ 65535) → (0 ≤ Int32.toInt x4 ∧ Int32.toInt x4 ≤ 16) → (16 - Int32.toInt x4 < n5) → K5 x1 x2 x3 x4) (x1 : Int32) (x2 : Int32) (x4 : Int32) (k0 : Int32) (k1 : Int32) (h_x1 : 0 ≤ Int32.toInt x1 ∧ Int32.toInt x1 ≤ 15) (h_x2 : 0 ≤ Int32.toInt x2 ∧ Int32.toInt x2 ≤ 65535) (h_x4 : 0 ≤ Int32.toInt x4 ∧ Int32.toInt x4 ≤ 15) (h_k0 : 0 ≤ Int32.toInt k0 ∧ Int32.toInt k0 ≤ 65535) (h_k1 : 0 ≤ Int32.toInt k1 ∧ Int32.toInt k1 ≤ 32768) (hn5 : 16 - Int32.toInt x4 ≤ n5) : ws_X10_below_42 post K5 m_fruits m_x m_height x1 x2 x4 k0 k1 := by
  have l0 : Int32.toInt (1 : Int32) = 1 := (by decide)
  intro v1 ev1
  have f2 := ti_or 16 65536 k0 k1 (by decide) (by omega) (by omega)
  have hv1 := congrArg Int32.toInt ev1
  intro v3 ev3
  have f4 : Int32.toInt (x4 + 1) = Int32.toInt x4 + Int32.toInt (1 : Int32) := ta_add _ _ (by omega)
  rw [← ev3] at f4
  exact hK5 x1 x2 v1 v3 (by omega) (by omega) (by omega) (by omega) (by omega)
set_option maxHeartbeats 8000000 in
set_option maxRecDepth 200000 in
theorem ts_X10_below_41 {post : Int32 → Prop} {K5 : Int32 → Int32 → Int32 → Int32 → Prop} {n5 : Int} (m_fruits : Int32) (m_x : Nat → Int32) (m_height : Nat → Int32) (h_m_fruits : 0 ≤ Int32.toInt m_fruits ∧ Int32.toInt m_fruits ≤ 16) (h_m_x : ∀ k : Nat, 0 ≤ Int32.toInt (m_x k) ∧ Int32.toInt (m_x k) ≤ 99) (h_m_height : ∀ k : Nat, 0 ≤ Int32.toInt (m_height k) ∧ Int32.toInt (m_height k) ≤ 99) (hpost : ∀ (r : Int32) , (0 ≤ Int32.toInt r ∧ Int32.toInt r ≤ 65535) → post r) (hK5 : ∀ (x1 : Int32) (x2 : Int32) (x3 : Int32) (x4 : Int32), (0 ≤ Int32.toInt x1 ∧ Int32.toInt x1 ≤ 15) → (0 ≤ Int32.toInt x2 ∧ Int32.toInt x2 ≤ 65535) → (0 ≤ Int32.toInt x3 ∧ Int32.toInt x3 ≤ 65535) → (0 ≤ Int32.toInt x4 ∧ Int32.toInt x4 ≤ 16) → (16 - Int32.toInt x4 < n5) → K5 x1 x2 x3 x4) (x1 : Int32) (x2 : Int32) (x4 : Int32) (k0 : Int32) (h_x1 : 0 ≤ Int32.toInt x1 ∧ Int32.toInt x1 ≤ 15) (h_x2 : 0 ≤ Int32.toInt x2 ∧ Int32.toInt x2 ≤ 65535) (h_x4 : 0 ≤ Int32.toInt x4 ∧ Int32.toInt x4 ≤ 15) (h_k0 : 0 ≤ Int32.toInt k0 ∧ Int32.toInt k0 ≤ 65535) (hn5 : 16 - Int32.toInt x4 ≤ n5) : ws_X10_below_41 post K5 m_fruits m_x m_height x1 x2 x4 k0 := by
  have l0 : Int32.toInt (0 : Int32) = 0 := (by decide)
  exact ts_X10_below_42 m_fruits m_x m_height h_m_fruits h_m_x h_m_height hpost hK5 x1 x2 x4 k0 0 (by omega) (by omega) (by omega) (by omega) (by omega) (by omega)
set_option maxHeartbeats 8000000 in
set_option maxRecDepth 200000 in
theorem ts_X10_below_5 {post : Int32 → Prop} {next : Int32 → Int32 → Int32 → Int32 → Prop} {n5 : Int} (m_fruits : Int32) (m_x : Nat → Int32) (m_height : Nat → Int32) (h_m_fruits : 0 ≤ Int32.toInt m_fruits ∧ Int32.toInt m_fruits ≤ 16) (h_m_x : ∀ k : Nat, 0 ≤ Int32.toInt (m_x k) ∧ Int32.toInt (m_x k) ≤ 99) (h_m_height : ∀ k : Nat, 0 ≤ Int32.toInt (m_height k) ∧ Int32.toInt (m_height k) ≤ 99) (hpost : ∀ (r : Int32) , (0 ≤ Int32.toInt r ∧ Int32.toInt r ≤ 65535) → post r) (hKn : ∀ (x1 : Int32) (x2 : Int32) (x3 : Int32) (x4 : Int32), (0 ≤ Int32.toInt x1 ∧ Int32.toInt x1 ≤ 15) → (0 ≤ Int32.toInt x2 ∧ Int32.toInt x2 ≤ 65535) → (0 ≤ Int32.toInt x3 ∧ Int32.toInt x3 ≤ 65535) → (0 ≤ Int32.toInt x4 ∧ Int32.toInt x4 ≤ 16) → (16 - Int32.toInt x4 < n5) → next x1 x2 x3 x4) (x1 : Int32) (x2 : Int32) (x3 : Int32) (x4 : Int32) (h_x1 : 0 ≤ Int32.toInt x1 ∧ Int32.toInt x1 ≤ 15) (h_x2 : 0 ≤ Int32.toInt x2 ∧ Int32.toInt x2 ≤ 65535) (h_x3 : 0 ≤ Int32.toInt x3 ∧ Int32.toInt x3 ≤ 65535) (h_x4 : 0 ≤ Int32.toInt x4 ∧ Int32.toInt x4 ≤ 16) (hn5 : 16 - Int32.toInt x4 ≤ n5) : ws_X10_below_5 post next m_fruits m_x m_height x1 x2 x3 x4 := by
  have l0 : Int32.toInt (1 : Int32) = 1 := (by decide)
  refine And.intro (fun c5 => ?_) (fun c5 => ?_)
  · skip
    have c5 := (fa_le _ _).mp c5
    exact hpost _ (by omega)
  · skip
    have c5 := mt (fa_le _ _).mpr c5
    intro v6 ev6
    have f7 := ti_shr x2 x4 (by omega)
    have hv6 := congrArg Int32.toInt ev6
    intro v8 ev8
    have f9 := ti_andr v6 1 (by omega)
    have f10 := ti_andl v6 1 (by omega)
    have hv8 := congrArg Int32.toInt ev8
    refine And.intro (fun c11 => ?_) (fun c11 => ?_)
    · skip
      have c11 := mt (fa_eq _ _).mpr c11
      refine And.intro (fun _ => ?_) (fun h9 => absurd h9 (by decide))
      exact ts_X10_below_41 m_fruits m_x m_height h_m_fruits h_m_x h_m_height hpost hKn x1 x2 x4 x3 (by omega) (by omega) (by omega) (by omega) (by omega)
    · skip
      have c11 := (fa_eq _ _).mp c11
      refine And.intro (fun h9 => absurd h9 (by decide)) (fun _ => ?_)
      refine And.intro (t_in (by omega)) ?_
      intro v12 ev12
      have f13 := h_m_x x1.toNatClampNeg
      have hv12 := congrArg Int32.toInt ev12
      refine And.intro (t_in (by omega)) ?_
      intro v14 ev14
      have f16 := h_m_x x4.toNatClampNeg
      have f15 : Int32.toInt (v12 - (m_x x4.toNatClampNeg)) = Int32.toInt v12 - Int32.toInt (m_x x4.toNatClampNeg) := ta_sub _ _ (by omega)
      rw [← ev14] at f15
      intro v17 ev17
      have f18 := ti_abs v14 (by omega)
      have hv17 := congrArg Int32.toInt ev17
      refine And.intro (fun c19 => ?_) (fun c19 => ?_)
      · skip
        have c19 := (fa_lt _ _).mp c19
        refine And.intro (fun _ => ?_) (fun h9 => absurd h9 (by decide))
        exact ts_X10_below_41 m_fruits m_x m_height h_m_fruits h_m_x h_m_height hpost hKn x1 x2 x4 x3 (by omega) (by omega) (by omega) (by omega) (by omega)
      · skip
        have c19 := mt (fa_lt _ _).mpr c19
        refine And.intro (t_in (by omega)) ?_
        intro v20 ev20
        have f21 := h_m_height x4.toNatClampNeg
        have hv20 := congrArg Int32.toInt ev20
        refine And.intro (t_in (by omega)) ?_
        have f23 := h_m_height x1.toNatClampNeg
        refine And.intro (fun c22 => ?_) (fun c22 => ?_)
        · skip
          have c22 := (fa_le _ _).mp c22
          refine And.intro (fun _ => ?_) (fun h9 => absurd h9 (by decide))
          exact ts_X10_below_41 m_fruits m_x m_height h_m_fruits h_m_x h_m_height hpost hKn x1 x2 x4 x3 (by omega) (by omega) (by omega) (by omega) (by omega)
        · skip
          have c22 := mt (fa_le _ _).mpr c22
          refine And.intro (fun h9 => absurd h9 (by decide)) (fun _ => ?_)
          intro v24 ev24
          have f25 := ti_shl1 15 32768 x4 (by decide) (by omega)
          have hv24 := congrArg Int32.toInt ev24
          exact ts_X10_below_42 m_fruits m_x m_height h_m_fruits h_m_x h_m_height hpost hKn x1 x2 x4 x3 v24 (by omega) (by omega) (by omega) (by omega) (by omega) (by omega)
set_option maxHeartbeats 8000000 in
set_option maxRecDepth 200000 in
theorem tb_X10_below_5 {post : Int32 → Prop} (m_fruits : Int32) (m_x : Nat → Int32) (m_height : Nat → Int32) (h_m_fruits : 0 ≤ Int32.toInt m_fruits ∧ Int32.toInt m_fruits ≤ 16) (h_m_x : ∀ k : Nat, 0 ≤ Int32.toInt (m_x k) ∧ Int32.toInt (m_x k) ≤ 99) (h_m_height : ∀ k : Nat, 0 ≤ Int32.toInt (m_height k) ∧ Int32.toInt (m_height k) ≤ 99) (hpost : ∀ (r : Int32) , (0 ≤ Int32.toInt r ∧ Int32.toInt r ≤ 65535) → post r) : ∀ (n : Nat) (x1 : Int32) (x2 : Int32) (x3 : Int32) (x4 : Int32), (0 ≤ Int32.toInt x1 ∧ Int32.toInt x1 ≤ 15) → (0 ≤ Int32.toInt x2 ∧ Int32.toInt x2 ≤ 65535) → (0 ≤ Int32.toInt x3 ∧ Int32.toInt x3 ≤ 65535) → (0 ≤ Int32.toInt x4 ∧ Int32.toInt x4 ≤ 16) → (16 - Int32.toInt x4 < (n : Int)) → wb_X10_below_5 post m_fruits m_x m_height n x1 x2 x3 x4 := by
  intro n
  induction n with
  | zero =>
    intro x1 x2 x3 x4 h_x1 h_x2 h_x3 h_x4 hm
    exfalso; omega
  | succ n ih =>
    intro x1 x2 x3 x4 h_x1 h_x2 h_x3 h_x4 hm
    exact ts_X10_below_5 m_fruits m_x m_height h_m_fruits h_m_x h_m_height hpost ih x1 x2 x3 x4 h_x1 h_x2 h_x3 h_x4 (by omega)
set_option maxHeartbeats 8000000 in
set_option maxRecDepth 200000 in
theorem t_X10_below {post : Int32 → Prop} {p0 : Int32} {p1 : Int32} {m_fruits : Int32} {m_x : Nat → Int32} {m_height : Nat → Int32} (h_p0 : 0 ≤ Int32.toInt p0 ∧ Int32.toInt p0 ≤ 15) (h_p1 : 0 ≤ Int32.toInt p1 ∧ Int32.toInt p1 ≤ 65535) (h_m_fruits : 0 ≤ Int32.toInt m_fruits ∧ Int32.toInt m_fruits ≤ 16) (h_m_x : ∀ k : Nat, 0 ≤ Int32.toInt (m_x k) ∧ Int32.toInt (m_x k) ≤ 99) (h_m_height : ∀ k : Nat, 0 ≤ Int32.toInt (m_height k) ∧ Int32.toInt (m_height k) ≤ 99) (hpost : ∀ (r : Int32) , (0 ≤ Int32.toInt r ∧ Int32.toInt r ≤ 65535) → post r) : wp_X10_below post p0 p1 m_fruits m_x m_height := by
  have l0 : Int32.toInt (0 : Int32) = 0 := (by decide)
  exact ⟨18, tb_X10_below_5 m_fruits m_x m_height h_m_fruits h_m_x h_m_height hpost _ p0 p1 0 0 (by omega) (by omega) (by omega) (by omega) (by omega)⟩
set_option maxHeartbeats 8000000 in
set_option maxRecDepth 200000 in
theorem ts_X10_fruit_23 {post : Int32 → Int32 → Prop} {SB : Int} (m_fruits : Int32) (m_now : Nat → Int32) (m_x : Nat → Int32) (m_height : Nat → Int32) (m_worth : Nat → Int32) (m_ripe : Nat → Int32) (h_m_fruits : 0 ≤ Int32.toInt m_fruits ∧ Int32.toInt m_fruits ≤ 16) (e0_m_now : ∀ k : Nat, k = 17 → -1 ≤ Int32.toInt (m_now k) ∧ Int32.toInt (m_now k) ≤ SB) (e1_m_now : ∀ k : Nat, k = 19 → 0 ≤ Int32.toInt (m_now k) ∧ Int32.toInt (m_now k) ≤ 9) (h_m_x : ∀ k : Nat, 0 ≤ Int32.toInt (m_x k) ∧ Int32.toInt (m_x k) ≤ 99) (h_m_height : ∀ k : Nat, 0 ≤ Int32.toInt (m_height k) ∧ Int32.toInt (m_height k) ≤ 99) (h_m_worth : ∀ k : Nat, 0 ≤ Int32.toInt (m_worth k) ∧ Int32.toInt (m_worth k) ≤ 9) (h_m_ripe : ∀ k : Nat, 0 ≤ Int32.toInt (m_ripe k) ∧ Int32.toInt (m_ripe k) ≤ 9) (hc0 : -1 ≤ SB ∧ SB ≤ 7) (hpost : ∀ (r : Int32) (m_thrown' : Int32), (0 ≤ Int32.toInt m_thrown' ∧ Int32.toInt m_thrown' ≤ 1) → post r m_thrown') (m_thrown : Int32) (h_m_thrown : 0 ≤ Int32.toInt m_thrown ∧ Int32.toInt m_thrown ≤ 0) : ws_X10_fruit_23 post m_fruits m_now m_x m_height m_worth m_ripe m_thrown := by
  have l0 : Int32.toInt (1 : Int32) = 1 := (by decide)
  exact hpost _ _ (by omega)
set_option maxHeartbeats 8000000 in
set_option maxRecDepth 200000 in
theorem t_X10_fruit {post : Int32 → Int32 → Prop} {SB : Int} {p0 : Int32} {p1 : Int32} {m_fruits : Int32} {m_thrown : Int32} {m_now : Nat → Int32} {m_x : Nat → Int32} {m_height : Nat → Int32} {m_worth : Nat → Int32} {m_ripe : Nat → Int32} (h_m_fruits : 0 ≤ Int32.toInt m_fruits ∧ Int32.toInt m_fruits ≤ 16) (h_m_thrown : 0 ≤ Int32.toInt m_thrown ∧ Int32.toInt m_thrown ≤ 1) (e0_m_now : ∀ k : Nat, k = 17 → -1 ≤ Int32.toInt (m_now k) ∧ Int32.toInt (m_now k) ≤ SB) (e1_m_now : ∀ k : Nat, k = 19 → 0 ≤ Int32.toInt (m_now k) ∧ Int32.toInt (m_now k) ≤ 9) (h_m_x : ∀ k : Nat, 0 ≤ Int32.toInt (m_x k) ∧ Int32.toInt (m_x k) ≤ 99) (h_m_height : ∀ k : Nat, 0 ≤ Int32.toInt (m_height k) ∧ Int32.toInt (m_height k) ≤ 99) (h_m_worth : ∀ k : Nat, 0 ≤ Int32.toInt (m_worth k) ∧ Int32.toInt (m_worth k) ≤ 9) (h_m_ripe : ∀ k : Nat, 0 ≤ Int32.toInt (m_ripe k) ∧ Int32.toInt (m_ripe k) ≤ 9) (hc0 : -1 ≤ SB ∧ SB ≤ 7) (hpost : ∀ (r : Int32) (m_thrown' : Int32), (0 ≤ Int32.toInt m_thrown' ∧ Int32.toInt m_thrown' ≤ 1) → post r m_thrown') : wp_X10_fruit post p0 p1 m_fruits m_thrown m_now m_x m_height m_worth m_ripe := by
  have l0 : Int32.toInt (0 : Int32) = 0 := (by decide)
  have l1 : Int32.toInt (1 : Int32) = 1 := (by decide)
  have l2 : Int32.toInt (16 : Int32) = 16 := (by decide)
  have l3 : Int32.toInt (2 : Int32) = 2 := (by decide)
  have l4 : Int32.toInt (3 : Int32) = 3 := (by decide)
  have l5 : Int32.toInt (4 : Int32) = 4 := (by decide)
  have l6 : Int32.toInt (5 : Int32) = 5 := (by decide)
  have l7 : Int32.toInt (6 : Int32) = 6 := (by decide)
  intro v1 ev1
  have f2 : Int32.toInt (m_fruits - 1) = Int32.toInt m_fruits - Int32.toInt (1 : Int32) := ta_sub _ _ (by omega)
  rw [← ev1] at f2
  have f4 := tp_r p0
  refine And.intro (fun c3 => ?_) (fun c3 => ?_)
  · skip
    have c3 := (fa_lt _ _).mp c3
    refine And.intro (t_bool (by omega)) ?_
    refine And.intro (fun _ => ?_) (fun h9 => absurd h9 (by decide))
    exact ts_X10_fruit_23 m_fruits m_now m_x m_height m_worth m_ripe h_m_fruits e0_m_now e1_m_now h_m_x h_m_height h_m_worth h_m_ripe hc0 hpost 0 (by omega)
  · skip
    have c3 := mt (fa_lt _ _).mpr c3
    refine And.intro (fun c5 => ?_) (fun c5 => ?_)
    · skip
      have c5 := (fa_lt _ _).mp c5
      refine And.intro (t_bool (by omega)) ?_
      refine And.intro (fun _ => ?_) (fun h9 => absurd h9 (by decide))
      exact ts_X10_fruit_23 m_fruits m_now m_x m_height m_worth m_ripe h_m_fruits e0_m_now e1_m_now h_m_x h_m_height h_m_worth h_m_ripe hc0 hpost 0 (by omega)
    · skip
      have c5 := mt (fa_lt _ _).mpr c5
      refine And.intro (t_bool (by omega)) ?_
      refine And.intro (fun h9 => absurd h9 (by decide)) (fun _ => ?_)
      have f7 := tp_r p1
      refine And.intro (fun c6 => ?_) (fun c6 => ?_)
      · skip
        have c6 := (fa_lt _ _).mp c6
        refine And.intro (fun h9 => absurd h9 (by decide)) (fun _ => ?_)
        exact ts_X10_fruit_23 m_fruits m_now m_x m_height m_worth m_ripe h_m_fruits e0_m_now e1_m_now h_m_x h_m_height h_m_worth h_m_ripe hc0 hpost 0 (by omega)
      · skip
        have c6 := mt (fa_lt _ _).mpr c6
        refine And.intro (fun c8 => ?_) (fun c8 => ?_)
        · skip
          have c8 := (fa_lt _ _).mp c8
          refine And.intro (fun h9 => absurd h9 (by decide)) (fun _ => ?_)
          exact ts_X10_fruit_23 m_fruits m_now m_x m_height m_worth m_ripe h_m_fruits e0_m_now e1_m_now h_m_x h_m_height h_m_worth h_m_ripe hc0 hpost 0 (by omega)
        · skip
          have c8 := mt (fa_lt _ _).mpr c8
          refine And.intro (fun _ => ?_) (fun h9 => absurd h9 (by decide))
          refine And.intro (fun c9 => ?_) ?_
          · skip
            have c9 := (fa_eq _ _).mp c9
            refine And.intro (t_in (by omega)) ?_
            exact hpost _ _ (by omega)
          refine And.intro (fun c10 => ?_) ?_
          · skip
            have c10 := (fa_eq _ _).mp c10
            refine And.intro (t_in (by omega)) ?_
            exact hpost _ _ (by omega)
          refine And.intro (fun c11 => ?_) ?_
          · skip
            have c11 := (fa_eq _ _).mp c11
            refine And.intro (t_in (by omega)) ?_
            exact hpost _ _ (by omega)
          refine And.intro (fun c12 => ?_) ?_
          · skip
            have c12 := (fa_eq _ _).mp c12
            refine And.intro (t_in (by omega)) ?_
            exact hpost _ _ (by omega)
          refine And.intro (fun c13 => ?_) ?_
          · skip
            have c13 := (fa_eq _ _).mp c13
            refine And.intro (t_in (by omega)) ?_
            exact hpost _ _ (by omega)
          refine And.intro (fun c14 => ?_) ?_
          · skip
            have c14 := (fa_eq _ _).mp c14
            intro v15 ev15
            have hv15 := congrArg Int32.toInt ev15
            intro v17 ev17
            exact hpost _ _ (by omega)
          intro c18 c19 c20 c21 c22 c23
          have c18 := mt (fa_eq _ _).mpr c18
          have c19 := mt (fa_eq _ _).mpr c19
          have c20 := mt (fa_eq _ _).mpr c20
          have c21 := mt (fa_eq _ _).mpr c21
          have c22 := mt (fa_eq _ _).mpr c22
          have c23 := mt (fa_eq _ _).mpr c23
          refine And.intro (t_in (by omega)) ?_
          refine And.intro (fun c24 => ?_) (fun c24 => ?_)
          · skip
            have c24 := mt (fa_eq _ _).mpr c24
            exact hpost _ _ (by omega)
          · skip
            have c24 := (fa_eq _ _).mp c24
            refine t_X10_which (by omega) (by omega) e0_m_now e1_m_now (by omega) (fun r26 h_r26 ox27 => ?_)
            refine t_X10_below (by omega) (by omega) (by omega) (fun k => by have q9 := h_m_x k; omega) (fun k => by have q9 := h_m_height k; omega) (fun r28 h_r28 => ?_)
            exact hpost _ _ (by omega)
set_option maxHeartbeats 8000000 in
set_option maxRecDepth 200000 in
theorem ts_X10_standing_22 {post : Int32 → Int32 → Prop} (m_standings : Int32) (m_foot : Nat → Int32) (m_fork : Nat → Int32) (h_m_standings : 0 ≤ Int32.toInt m_standings ∧ Int32.toInt m_standings ≤ 8) (h_m_foot : ∀ k : Nat, 0 ≤ Int32.toInt (m_foot k) ∧ Int32.toInt (m_foot k) ≤ 99) (h_m_fork : ∀ k : Nat, 0 ≤ Int32.toInt (m_fork k) ∧ Int32.toInt (m_fork k) ≤ 99) (hpost : ∀ (r : Int32) (m_thrown' : Int32), (0 ≤ Int32.toInt r ∧ Int32.toInt r ≤ 99) → (0 ≤ Int32.toInt m_thrown' ∧ Int32.toInt m_thrown' ≤ 1) → post r m_thrown') (m_thrown : Int32) (h_m_thrown : 0 ≤ Int32.toInt m_thrown ∧ Int32.toInt m_thrown ≤ 0) : ws_X10_standing_22 post m_standings m_foot m_fork m_thrown := by
  have l0 : Int32.toInt (0 : Int32) = 0 := (by decide)
  have l1 : Int32.toInt (1 : Int32) = 1 := (by decide)
  exact hpost _ _ (by omega) (by omega)
set_option maxHeartbeats 8000000 in
set_option maxRecDepth 200000 in
theorem t_X10_standing {post : Int32 → Int32 → Prop} {p0 : Int32} {p1 : Int32} {m_standings : Int32} {m_thrown : Int32} {m_foot : Nat → Int32} {m_fork : Nat → Int32} (h_m_standings : 0 ≤ Int32.toInt m_standings ∧ Int32.toInt m_standings ≤ 8) (h_m_thrown : 0 ≤ Int32.toInt m_thrown ∧ Int32.toInt m_thrown ≤ 1) (h_m_foot : ∀ k : Nat, 0 ≤ Int32.toInt (m_foot k) ∧ Int32.toInt (m_foot k) ≤ 99) (h_m_fork : ∀ k : Nat, 0 ≤ Int32.toInt (m_fork k) ∧ Int32.toInt (m_fork k) ≤ 99) (hpost : ∀ (r : Int32) (m_thrown' : Int32), (0 ≤ Int32.toInt r ∧ Int32.toInt r ≤ 99) → (0 ≤ Int32.toInt m_thrown' ∧ Int32.toInt m_thrown' ≤ 1) → post r m_thrown') : wp_X10_standing post p0 p1 m_standings m_thrown m_foot m_fork := by
  have l0 : Int32.toInt (0 : Int32) = 0 := (by decide)
  have l1 : Int32.toInt (1 : Int32) = 1 := (by decide)
  have l2 : Int32.toInt (10 : Int32) = 10 := (by decide)
  have l3 : Int32.toInt (2 : Int32) = 2 := (by decide)
  have l4 : Int32.toInt (3 : Int32) = 3 := (by decide)
  have l5 : Int32.toInt (9 : Int32) = 9 := (by decide)
  intro v1 ev1
  have f2 : Int32.toInt (m_standings - 1) = Int32.toInt m_standings - Int32.toInt (1 : Int32) := ta_sub _ _ (by omega)
  rw [← ev1] at f2
  have f4 := tp_r p0
  refine And.intro (fun c3 => ?_) (fun c3 => ?_)
  · skip
    have c3 := (fa_lt _ _).mp c3
    refine And.intro (t_bool (by omega)) ?_
    refine And.intro (fun _ => ?_) (fun h9 => absurd h9 (by decide))
    exact ts_X10_standing_22 m_standings m_foot m_fork h_m_standings h_m_foot h_m_fork hpost 0 (by omega)
  · skip
    have c3 := mt (fa_lt _ _).mpr c3
    refine And.intro (fun c5 => ?_) (fun c5 => ?_)
    · skip
      have c5 := (fa_lt _ _).mp c5
      refine And.intro (t_bool (by omega)) ?_
      refine And.intro (fun _ => ?_) (fun h9 => absurd h9 (by decide))
      exact ts_X10_standing_22 m_standings m_foot m_fork h_m_standings h_m_foot h_m_fork hpost 0 (by omega)
    · skip
      have c5 := mt (fa_lt _ _).mpr c5
      refine And.intro (t_bool (by omega)) ?_
      refine And.intro (fun h9 => absurd h9 (by decide)) (fun _ => ?_)
      have f7 := tp_r p1
      refine And.intro (fun c6 => ?_) (fun c6 => ?_)
      · skip
        have c6 := (fa_lt _ _).mp c6
        refine And.intro (fun h9 => absurd h9 (by decide)) (fun _ => ?_)
        exact ts_X10_standing_22 m_standings m_foot m_fork h_m_standings h_m_foot h_m_fork hpost 0 (by omega)
      · skip
        have c6 := mt (fa_lt _ _).mpr c6
        refine And.intro (fun c8 => ?_) (fun c8 => ?_)
        · skip
          have c8 := (fa_lt _ _).mp c8
          refine And.intro (fun h9 => absurd h9 (by decide)) (fun _ => ?_)
          exact ts_X10_standing_22 m_standings m_foot m_fork h_m_standings h_m_foot h_m_fork hpost 0 (by omega)
        · skip
          have c8 := mt (fa_lt _ _).mpr c8
          refine And.intro (fun _ => ?_) (fun h9 => absurd h9 (by decide))
          refine And.intro (fun c9 => ?_) (fun c9 => ?_)
          · skip
            have c9 := mt (fa_eq _ _).mpr c9
            refine And.intro (fun c10 => ?_) (fun c10 => ?_)
            · skip
              have c10 := mt (fa_eq _ _).mpr c10
              refine And.intro (t_in (by omega)) ?_
              intro v11 ev11
              have f12 := h_m_fork p0.toNatClampNeg
              have hv11 := congrArg Int32.toInt ev11
              intro v13 ev13
              have f14 : Int32.toInt (v11 + 9) = Int32.toInt v11 + Int32.toInt (9 : Int32) := ta_add _ _ (by omega)
              rw [← ev13] at f14
              have f16 : Int32.toInt (v13 / 10) = Int32.toInt v13 / 10 := ti_div _ _ (by decide) (by omega) (by decide)
              have f15 : Int32.toInt (3 + (v13 / 10)) = Int32.toInt (3 : Int32) + Int32.toInt (v13 / 10) := ta_add _ _ (by omega)
              exact hpost _ _ (by omega) (by omega)
            · skip
              have c10 := (fa_eq _ _).mp c10
              refine And.intro (t_in (by omega)) ?_
              intro v17 ev17
              have f18 := h_m_fork p0.toNatClampNeg
              have hv17 := congrArg Int32.toInt ev17
              exact hpost _ _ (by omega) (by omega)
          · skip
            have c9 := (fa_eq _ _).mp c9
            refine And.intro (t_in (by omega)) ?_
            intro v19 ev19
            have f20 := h_m_foot p0.toNatClampNeg
            have hv19 := congrArg Int32.toInt ev19
            exact hpost _ _ (by omega) (by omega)
set_option maxHeartbeats 8000000 in
set_option maxRecDepth 200000 in
theorem ts_X10_set_47 {post : Int32 → Int32 → (Nat → Int32) → Prop} (hpost : ∀ (r : Int32) (m_thrown' : Int32) (m_told' : Nat → Int32), (0 ≤ Int32.toInt m_thrown' ∧ Int32.toInt m_thrown' ≤ 0) → (∀ k : Nat, k = 4 → 1 ≤ Int32.toInt (m_told' k) ∧ Int32.toInt (m_told' k) ≤ 30) → (∀ k : Nat, k = 3 → 0 ≤ Int32.toInt (m_told' k) ∧ Int32.toInt (m_told' k) ≤ 9) → post r m_thrown' m_told') (x1 : Int32) (x2 : Int32) (k0 : Int32) (k1 : Int32) (k2 : Int32) (m_thrown : Int32) (m_told : Nat → Int32) (h_x1 : 0 ≤ Int32.toInt x1 ∧ Int32.toInt x1 ≤ 4) (h_k1 : 0 ≤ Int32.toInt k1 ∧ Int32.toInt k1 ≤ 1) (h_k2 : 9 ≤ Int32.toInt k2 ∧ Int32.toInt k2 ≤ 30) (h_m_thrown : 0 ≤ Int32.toInt m_thrown ∧ Int32.toInt m_thrown ≤ 0) (e0_m_told : ∀ k : Nat, k = 4 → 1 ≤ Int32.toInt (m_told k) ∧ Int32.toInt (m_told k) ≤ 30) (e1_m_told : ∀ k : Nat, k = 3 → 0 ≤ Int32.toInt (m_told k) ∧ Int32.toInt (m_told k) ≤ 9) (hx0 : Int32.toInt k0 = Int32.toInt x2) (hx1 : Int32.toInt x1 = 4 → Int32.toInt k1 = 1) (hx2 : Int32.toInt x1 = 3 → Int32.toInt k2 ≤ 9) : ws_X10_set_47 post x1 x2 k0 k1 k2 m_thrown m_told := by
  have f2 := tp_r k0
  refine And.intro (fun c1 => ?_) (fun c1 => ?_)
  · skip
    have c1 := (fa_lt _ _).mp c1
    refine And.intro (fun h9 => absurd h9 (by decide)) (fun _ => ?_)
    exact hpost _ _ _ (by omega) e0_m_told e1_m_told
  · skip
    have c1 := mt (fa_lt _ _).mpr c1
    refine And.intro (fun c3 => ?_) (fun c3 => ?_)
    · skip
      have c3 := (fa_lt _ _).mp c3
      refine And.intro (fun h9 => absurd h9 (by decide)) (fun _ => ?_)
      exact hpost _ _ _ (by omega) e0_m_told e1_m_told
    · skip
      have c3 := mt (fa_lt _ _).mpr c3
      refine And.intro (fun _ => ?_) (fun h9 => absurd h9 (by decide))
      refine And.intro (t_in (by omega)) ?_
      intro v4 ev4
      have hv4 := congrArg Int32.toInt ev4
      refine And.intro (t_in (by omega)) ?_
      have f7 := tp_r x2
      have e6 : ∀ k : Nat, k = 4 → 1 ≤ Int32.toInt ((upd m_told x1.toNatClampNeg x2) k) ∧ Int32.toInt ((upd m_told x1.toNatClampNeg x2) k) ≤ 30 := t_updc (C := fun k => k = 4) e0_m_told (fun hk => by have e9 : x1.toNatClampNeg = (Int32.toInt x1).toNat := rfl; have hk : x1.toNatClampNeg = 4 := hk; omega)
      have e8 : ∀ k : Nat, k = 3 → 0 ≤ Int32.toInt ((upd m_told x1.toNatClampNeg x2) k) ∧ Int32.toInt ((upd m_told x1.toNatClampNeg x2) k) ≤ 9 := t_updc (C := fun k => k = 3) e1_m_told (fun hk => by have e9 : x1.toNatClampNeg = (Int32.toInt x1).toNat := rfl; have hk : x1.toNatClampNeg = 3 := hk; omega)
      exact hpost _ _ _ (by omega) e6 e8
set_option maxHeartbeats 8000000 in
set_option maxRecDepth 200000 in
theorem ts_X10_set_25 {post : Int32 → Int32 → (Nat → Int32) → Prop} (hpost : ∀ (r : Int32) (m_thrown' : Int32) (m_told' : Nat → Int32), (0 ≤ Int32.toInt m_thrown' ∧ Int32.toInt m_thrown' ≤ 0) → (∀ k : Nat, k = 4 → 1 ≤ Int32.toInt (m_told' k) ∧ Int32.toInt (m_told' k) ≤ 30) → (∀ k : Nat, k = 3 → 0 ≤ Int32.toInt (m_told' k) ∧ Int32.toInt (m_told' k) ≤ 9) → post r m_thrown' m_told') (x1 : Int32) (x2 : Int32) (k0 : Int32) (k1 : Int32) (m_thrown : Int32) (m_told : Nat → Int32) (h_x1 : 0 ≤ Int32.toInt x1 ∧ Int32.toInt x1 ≤ 4) (h_k1 : 0 ≤ Int32.toInt k1 ∧ Int32.toInt k1 ≤ 1) (h_m_thrown : 0 ≤ Int32.toInt m_thrown ∧ Int32.toInt m_thrown ≤ 0) (e0_m_told : ∀ k : Nat, k = 4 → 1 ≤ Int32.toInt (m_told k) ∧ Int32.toInt (m_told k) ≤ 30) (e1_m_told : ∀ k : Nat, k = 3 → 0 ≤ Int32.toInt (m_told k) ∧ Int32.toInt (m_told k) ≤ 9) (hx0 : Int32.toInt k0 = Int32.toInt x2) (hx1 : Int32.toInt x1 = 4 → Int32.toInt k1 = 1) : ws_X10_set_25 post x1 x2 k0 k1 m_thrown m_told := by
  have l0 : Int32.toInt (16 : Int32) = 16 := (by decide)
  have l1 : Int32.toInt (3 : Int32) = 3 := (by decide)
  have l2 : Int32.toInt (30 : Int32) = 30 := (by decide)
  have l3 : Int32.toInt (4 : Int32) = 4 := (by decide)
  have l4 : Int32.toInt (9 : Int32) = 9 := (by decide)
  refine And.intro (fun c9 => ?_) (fun c9 => ?_)
  · skip
    have c9 := mt (fa_eq _ _).mpr c9
    refine And.intro (fun c10 => ?_) (fun c10 => ?_)
    · skip
      have c10 := mt (fa_eq _ _).mpr c10
      have f11 := tp_r x2
      have f12 := tp_r k0
      exact ts_X10_set_47 hpost x1 x2 k0 k1 30 m_thrown m_told (by omega) (by omega) (by omega) (by omega) e0_m_told e1_m_told (by omega) (by omega) (by omega)
    · skip
      have c10 := (fa_eq _ _).mp c10
      have f13 := tp_r x2
      have f14 := tp_r k0
      exact ts_X10_set_47 hpost x1 x2 k0 k1 9 m_thrown m_told (by omega) (by omega) (by omega) (by omega) e0_m_told e1_m_told (by omega) (by omega) (by omega)
  · skip
    have c9 := (fa_eq _ _).mp c9
    have f15 := tp_r x2
    have f16 := tp_r k0
    exact ts_X10_set_47 hpost x1 x2 k0 k1 16 m_thrown m_told (by omega) (by omega) (by omega) (by omega) e0_m_told e1_m_told (by omega) (by omega) (by omega)
set_option maxHeartbeats 8000000 in
set_option maxRecDepth 200000 in
theorem t_X10_set {post : Int32 → Int32 → (Nat → Int32) → Prop} {p0 : Int32} {p1 : Int32} {m_thrown : Int32} {m_told : Nat → Int32} (h_m_thrown : 0 ≤ Int32.toInt m_thrown ∧ Int32.toInt m_thrown ≤ 1) (e0_m_told : ∀ k : Nat, k = 4 → 1 ≤ Int32.toInt (m_told k) ∧ Int32.toInt (m_told k) ≤ 30) (e1_m_told : ∀ k : Nat, k = 3 → 0 ≤ Int32.toInt (m_told k) ∧ Int32.toInt (m_told k) ≤ 9) (hpost : ∀ (r : Int32) (m_thrown' : Int32) (m_told' : Nat → Int32), (0 ≤ Int32.toInt m_thrown' ∧ Int32.toInt m_thrown' ≤ 0) → (∀ k : Nat, k = 4 → 1 ≤ Int32.toInt (m_told' k) ∧ Int32.toInt (m_told' k) ≤ 30) → (∀ k : Nat, k = 3 → 0 ≤ Int32.toInt (m_told' k) ∧ Int32.toInt (m_told' k) ≤ 9) → post r m_thrown' m_told') : wp_X10_set post p0 p1 m_thrown m_told := by
  have l0 : Int32.toInt (0 : Int32) = 0 := (by decide)
  have l1 : Int32.toInt (1 : Int32) = 1 := (by decide)
  have l2 : Int32.toInt (4 : Int32) = 4 := (by decide)
  have f18 := tp_r p0
  refine And.intro (fun c17 => ?_) (fun c17 => ?_)
  · skip
    have c17 := (fa_lt _ _).mp c17
    refine And.intro (fun _ => ?_) (fun h9 => absurd h9 (by decide))
    exact hpost _ _ _ (by omega) e0_m_told e1_m_told
  · skip
    have c17 := mt (fa_lt _ _).mpr c17
    refine And.intro (fun c19 => ?_) (fun c19 => ?_)
    · skip
      have c19 := (fa_lt _ _).mp c19
      refine And.intro (fun _ => ?_) (fun h9 => absurd h9 (by decide))
      exact hpost _ _ _ (by omega) e0_m_told e1_m_told
    · skip
      have c19 := mt (fa_lt _ _).mpr c19
      refine And.intro (fun h9 => absurd h9 (by decide)) (fun _ => ?_)
      refine And.intro (fun c20 => ?_) (fun c20 => ?_)
      · skip
        have c20 := mt (fa_eq _ _).mpr c20
        have f21 := tp_r p1
        exact ts_X10_set_25 hpost p0 p1 p1 0 0 m_told (by omega) (by omega) (by omega) e0_m_told e1_m_told (by omega) (by omega)
      · skip
        have c20 := (fa_eq _ _).mp c20
        have f22 := tp_r p1
        exact ts_X10_set_25 hpost p0 p1 p1 1 0 m_told (by omega) (by omega) (by omega) e0_m_told e1_m_told (by omega) (by omega)
set_option maxHeartbeats 8000000 in
set_option maxRecDepth 200000 in
theorem ts_X10_sheet_109 {post : Int32 → Int32 → (Nat → Int32) → Prop} {K43 : Int32 → Int32 → Int32 → Int32 → Int32 → Int32 → Int32 → (Nat → Int32) → Prop} {n43 : Int} (m_fruits : Int32) (h_m_fruits : 0 ≤ Int32.toInt m_fruits ∧ Int32.toInt m_fruits ≤ 16) (hpost : ∀ (r : Int32) (m_thrown' : Int32) (m_worth' : Nat → Int32), (0 ≤ Int32.toInt m_thrown' ∧ Int32.toInt m_thrown' ≤ 0) → (∀ k : Nat, 0 ≤ Int32.toInt (m_worth' k) ∧ Int32.toInt (m_worth' k) ≤ 9) → post r m_thrown' m_worth') (hK43 : ∀ (x1 : Int32) (x2 : Int32) (x4 : Int32) (x5 : Int32) (x6 : Int32) (x7 : Int32) (m_thrown : Int32) (m_worth : Nat → Int32), (0 ≤ Int32.toInt x1 ∧ Int32.toInt x1 ≤ 3) → (-2147483648 ≤ Int32.toInt x2 ∧ Int32.toInt x2 ≤ 16) → (0 ≤ Int32.toInt x7 ∧ Int32.toInt x7 ≤ 16) → (0 ≤ Int32.toInt m_thrown ∧ Int32.toInt m_thrown ≤ 0) → (∀ k : Nat, 0 ≤ Int32.toInt (m_worth k) ∧ Int32.toInt (m_worth k) ≤ 9) → (16 - Int32.toInt x7 < n43) → K43 x1 x2 x4 x5 x6 x7 m_thrown m_worth) (x1 : Int32) (x2 : Int32) (x4 : Int32) (x5 : Int32) (x6 : Int32) (x7 : Int32) (k1 : Int32) (k2 : Int32) (m_thrown : Int32) (m_worth : Nat → Int32) (h_x1 : 0 ≤ Int32.toInt x1 ∧ Int32.toInt x1 ≤ 3) (h_x2 : -2147483648 ≤ Int32.toInt x2 ∧ Int32.toInt x2 ≤ 16) (h_x7 : 0 ≤ Int32.toInt x7 ∧ Int32.toInt x7 ≤ 15) (h_k1 : 0 ≤ Int32.toInt k1 ∧ Int32.toInt k1 ≤ 15) (h_k2 : 0 ≤ Int32.toInt k2 ∧ Int32.toInt k2 ≤ 9) (h_m_thrown : 0 ≤ Int32.toInt m_thrown ∧ Int32.toInt m_thrown ≤ 0) (h_m_worth : ∀ k : Nat, 0 ≤ Int32.toInt (m_worth k) ∧ Int32.toInt (m_worth k) ≤ 9) (hn43 : 16 - Int32.toInt x7 ≤ n43) : ws_X10_sheet_109 post K43 m_fruits x1 x2 x4 x5 x6 x7 k1 k2 m_thrown m_worth := by
  have l0 : Int32.toInt (1 : Int32) = 1 := (by decide)
  refine And.intro (t_in (by omega)) ?_
  have a1 : ∀ k : Nat, 0 ≤ Int32.toInt ((upd m_worth k1.toNatClampNeg k2) k) ∧ Int32.toInt ((upd m_worth k1.toNatClampNeg k2) k) ≤ 9 := t_upd (fun k => by have q9 := h_m_worth k; omega) (by omega)
  refine And.intro (t_in (by omega)) ?_
  intro v2 ev2
  have hv2 := congrArg Int32.toInt ev2
  intro v4 ev4
  have hv4 := congrArg Int32.toInt ev4
  intro v6 ev6
  have f7 : Int32.toInt (x7 + 1) = Int32.toInt x7 + Int32.toInt (1 : Int32) := ta_add _ _ (by omega)
  rw [← ev6] at f7
  have f8 := tp_r x2
  have f9 := tp_r x4
  have f10 := tp_r v2
  have f11 := tp_r v4
  exact hK43 x1 x2 x4 v2 v4 v6 m_thrown (upd m_worth k1.toNatClampNeg k2) (by omega) (by omega) (by omega) (by omega) (fun k => by have q9 := a1 k; omega) (by omega)
set_option maxHeartbeats 8000000 in
set_option maxRecDepth 200000 in
theorem ts_X10_sheet_94 {post : Int32 → Int32 → (Nat → Int32) → Prop} {K43 : Int32 → Int32 → Int32 → Int32 → Int32 → Int32 → Int32 → (Nat → Int32) → Prop} {n43 : Int} (m_fruits : Int32) (h_m_fruits : 0 ≤ Int32.toInt m_fruits ∧ Int32.toInt m_fruits ≤ 16) (hpost : ∀ (r : Int32) (m_thrown' : Int32) (m_worth' : Nat → Int32), (0 ≤ Int32.toInt m_thrown' ∧ Int32.toInt m_thrown' ≤ 0) → (∀ k : Nat, 0 ≤ Int32.toInt (m_worth' k) ∧ Int32.toInt (m_worth' k) ≤ 9) → post r m_thrown' m_worth') (hK43 : ∀ (x1 : Int32) (x2 : Int32) (x4 : Int32) (x5 : Int32) (x6 : Int32) (x7 : Int32) (m_thrown : Int32) (m_worth : Nat → Int32), (0 ≤ Int32.toInt x1 ∧ Int32.toInt x1 ≤ 3) → (-2147483648 ≤ Int32.toInt x2 ∧ Int32.toInt x2 ≤ 16) → (0 ≤ Int32.toInt x7 ∧ Int32.toInt x7 ≤ 16) → (0 ≤ Int32.toInt m_thrown ∧ Int32.toInt m_thrown ≤ 0) → (∀ k : Nat, 0 ≤ Int32.toInt (m_worth k) ∧ Int32.toInt (m_worth k) ≤ 9) → (16 - Int32.toInt x7 < n43) → K43 x1 x2 x4 x5 x6 x7 m_thrown m_worth) (x1 : Int32) (x2 : Int32) (x4 : Int32) (x5 : Int32) (x6 : Int32) (x7 : Int32) (k1 : Int32) (m_thrown : Int32) (m_worth : Nat → Int32) (h_x1 : 0 ≤ Int32.toInt x1 ∧ Int32.toInt x1 ≤ 3) (h_x2 : -2147483648 ≤ Int32.toInt x2 ∧ Int32.toInt x2 ≤ 16) (h_x7 : 0 ≤ Int32.toInt x7 ∧ Int32.toInt x7 ≤ 15) (h_k1 : 0 ≤ Int32.toInt k1 ∧ Int32.toInt k1 ≤ 15) (h_m_thrown : 0 ≤ Int32.toInt m_thrown ∧ Int32.toInt m_thrown ≤ 0) (h_m_worth : ∀ k : Nat, 0 ≤ Int32.toInt (m_worth k) ∧ Int32.toInt (m_worth k) ≤ 9) (hn43 : 16 - Int32.toInt x7 ≤ n43) : ws_X10_sheet_94 post K43 m_fruits x1 x2 x4 x5 x6 x7 k1 m_thrown m_worth := by
  have l0 : Int32.toInt (0 : Int32) = 0 := (by decide)
  have f12 := tp_r x2
  have f13 := tp_r x4
  have f14 := tp_r x5
  have f15 := tp_r x6
  exact ts_X10_sheet_109 m_fruits h_m_fruits hpost hK43 x1 x2 x4 x5 x6 x7 k1 0 m_thrown m_worth (by omega) (by omega) (by omega) (by omega) (by omega) (by omega) (fun k => by have q9 := h_m_worth k; omega) (by omega)
set_option maxHeartbeats 8000000 in
set_option maxRecDepth 200000 in
theorem ts_X10_sheet_75 {post : Int32 → Int32 → (Nat → Int32) → Prop} {K43 : Int32 → Int32 → Int32 → Int32 → Int32 → Int32 → Int32 → (Nat → Int32) → Prop} {n43 : Int} (m_fruits : Int32) (h_m_fruits : 0 ≤ Int32.toInt m_fruits ∧ Int32.toInt m_fruits ≤ 16) (hpost : ∀ (r : Int32) (m_thrown' : Int32) (m_worth' : Nat → Int32), (0 ≤ Int32.toInt m_thrown' ∧ Int32.toInt m_thrown' ≤ 0) → (∀ k : Nat, 0 ≤ Int32.toInt (m_worth' k) ∧ Int32.toInt (m_worth' k) ≤ 9) → post r m_thrown' m_worth') (hK43 : ∀ (x1 : Int32) (x2 : Int32) (x4 : Int32) (x5 : Int32) (x6 : Int32) (x7 : Int32) (m_thrown : Int32) (m_worth : Nat → Int32), (0 ≤ Int32.toInt x1 ∧ Int32.toInt x1 ≤ 3) → (-2147483648 ≤ Int32.toInt x2 ∧ Int32.toInt x2 ≤ 16) → (0 ≤ Int32.toInt x7 ∧ Int32.toInt x7 ≤ 16) → (0 ≤ Int32.toInt m_thrown ∧ Int32.toInt m_thrown ≤ 0) → (∀ k : Nat, 0 ≤ Int32.toInt (m_worth k) ∧ Int32.toInt (m_worth k) ≤ 9) → (16 - Int32.toInt x7 < n43) → K43 x1 x2 x4 x5 x6 x7 m_thrown m_worth) (x1 : Int32) (x2 : Int32) (x4 : Int32) (x5 : Int32) (x6 : Int32) (x7 : Int32) (k0 : Int32) (m_thrown : Int32) (m_worth : Nat → Int32) (h_x1 : 0 ≤ Int32.toInt x1 ∧ Int32.toInt x1 ≤ 3) (h_x2 : -2147483648 ≤ Int32.toInt x2 ∧ Int32.toInt x2 ≤ 16) (h_x7 : 0 ≤ Int32.toInt x7 ∧ Int32.toInt x7 ≤ 15) (h_m_thrown : 0 ≤ Int32.toInt m_thrown ∧ Int32.toInt m_thrown ≤ 0) (h_m_worth : ∀ k : Nat, 0 ≤ Int32.toInt (m_worth k) ∧ Int32.toInt (m_worth k) ≤ 9) (hn43 : 16 - Int32.toInt x7 ≤ n43) : ws_X10_sheet_75 post K43 m_fruits x1 x2 x4 x5 x6 x7 k0 m_thrown m_worth := by
  have l0 : Int32.toInt (0 : Int32) = 0 := (by decide)
  have l1 : Int32.toInt (3 : Int32) = 3 := (by decide)
  have l2 : Int32.toInt (9 : Int32) = 9 := (by decide)
  refine And.intro (fun c16 => ?_) (fun c16 => ?_)
  · skip
    have c16 := (fa_eq _ _).mp c16
    have f17 := tp_r x2
    have f18 := tp_r x4
    have f19 := tp_r x5
    have f20 := tp_r x6
    exact ts_X10_sheet_94 m_fruits h_m_fruits hpost hK43 x1 x2 x4 x5 x6 x7 x7 m_thrown m_worth (by omega) (by omega) (by omega) (by omega) (by omega) (fun k => by have q9 := h_m_worth k; omega) (by omega)
  · skip
    have c16 := mt (fa_eq _ _).mpr c16
    have f22 := tp_r x2
    refine And.intro (fun c21 => ?_) (fun c21 => ?_)
    · skip
      have c21 := (fa_lt _ _).mp c21
      intro v23 ev23
      have f24 := tp_r (if k0 < 9 then k0 else 9)
      have f26 := tp_r k0
      have f25 := ti_min (9 : Int32) k0
      have hv23 := congrArg Int32.toInt ev23
      intro v27 ev27
      have f29 := tp_r v23
      have f28 := ti_max (0 : Int32) v23
      have hv27 := congrArg Int32.toInt ev27
      have f30 := tp_r x4
      have f31 := tp_r x5
      have f32 := tp_r x6
      exact ts_X10_sheet_109 m_fruits h_m_fruits hpost hK43 x1 x2 x4 x5 x6 x7 x7 v27 m_thrown m_worth (by omega) (by omega) (by omega) (by omega) (by omega) (by omega) (fun k => by have q9 := h_m_worth k; omega) (by omega)
    · skip
      have c21 := mt (fa_lt _ _).mpr c21
      have f33 := tp_r x4
      have f34 := tp_r x5
      have f35 := tp_r x6
      exact ts_X10_sheet_94 m_fruits h_m_fruits hpost hK43 x1 x2 x4 x5 x6 x7 x7 m_thrown m_worth (by omega) (by omega) (by omega) (by omega) (by omega) (fun k => by have q9 := h_m_worth k; omega) (by omega)
set_option maxHeartbeats 8000000 in
set_option maxRecDepth 200000 in
theorem ts_X10_sheet_43 {post : Int32 → Int32 → (Nat → Int32) → Prop} {next : Int32 → Int32 → Int32 → Int32 → Int32 → Int32 → Int32 → (Nat → Int32) → Prop} {n43 : Int} (m_fruits : Int32) (h_m_fruits : 0 ≤ Int32.toInt m_fruits ∧ Int32.toInt m_fruits ≤ 16) (hpost : ∀ (r : Int32) (m_thrown' : Int32) (m_worth' : Nat → Int32), (0 ≤ Int32.toInt m_thrown' ∧ Int32.toInt m_thrown' ≤ 0) → (∀ k : Nat, 0 ≤ Int32.toInt (m_worth' k) ∧ Int32.toInt (m_worth' k) ≤ 9) → post r m_thrown' m_worth') (hKn : ∀ (x1 : Int32) (x2 : Int32) (x4 : Int32) (x5 : Int32) (x6 : Int32) (x7 : Int32) (m_thrown : Int32) (m_worth : Nat → Int32), (0 ≤ Int32.toInt x1 ∧ Int32.toInt x1 ≤ 3) → (-2147483648 ≤ Int32.toInt x2 ∧ Int32.toInt x2 ≤ 16) → (0 ≤ Int32.toInt x7 ∧ Int32.toInt x7 ≤ 16) → (0 ≤ Int32.toInt m_thrown ∧ Int32.toInt m_thrown ≤ 0) → (∀ k : Nat, 0 ≤ Int32.toInt (m_worth k) ∧ Int32.toInt (m_worth k) ≤ 9) → (16 - Int32.toInt x7 < n43) → next x1 x2 x4 x5 x6 x7 m_thrown m_worth) (x1 : Int32) (x2 : Int32) (x4 : Int32) (x5 : Int32) (x6 : Int32) (x7 : Int32) (m_thrown : Int32) (m_worth : Nat → Int32) (h_x1 : 0 ≤ Int32.toInt x1 ∧ Int32.toInt x1 ≤ 3) (h_x2 : -2147483648 ≤ Int32.toInt x2 ∧ Int32.toInt x2 ≤ 16) (h_x7 : 0 ≤ Int32.toInt x7 ∧ Int32.toInt x7 ≤ 16) (h_m_thrown : 0 ≤ Int32.toInt m_thrown ∧ Int32.toInt m_thrown ≤ 0) (h_m_worth : ∀ k : Nat, 0 ≤ Int32.toInt (m_worth k) ∧ Int32.toInt (m_worth k) ≤ 9) (hn43 : 16 - Int32.toInt x7 ≤ n43) : ws_X10_sheet_43 post next m_fruits x1 x2 x4 x5 x6 x7 m_thrown m_worth := by
  have l0 : Int32.toInt (0 : Int32) = 0 := (by decide)
  have l1 : Int32.toInt (1 : Int32) = 1 := (by decide)
  have l2 : Int32.toInt (3 : Int32) = 3 := (by decide)
  refine And.intro (fun c36 => ?_) (fun c36 => ?_)
  · skip
    have c36 := (fa_le _ _).mp c36
    refine And.intro (fun c37 => ?_) (fun c37 => ?_)
    · skip
      have c37 := mt (fa_eq _ _).mpr c37
      exact hpost _ _ _ (by omega) (fun k => by have q9 := h_m_worth k; omega)
    · skip
      have c37 := (fa_eq _ _).mp c37
      exact hpost _ _ _ (by omega) (fun k => by have q9 := h_m_worth k; omega)
  · skip
    have c36 := mt (fa_le _ _).mpr c36
    refine And.intro (fun c38 => ?_) (fun c38 => ?_)
    · skip
      have c38 := mt (fa_eq _ _).mpr c38
      refine And.intro (fun c39 => ?_) (fun c39 => ?_)
      · skip
        have c39 := mt (fa_eq _ _).mpr c39
        have f40 := tp_r x2
        have f41 := tp_r x4
        have f42 := tp_r x5
        have f43 := tp_r x6
        exact ts_X10_sheet_75 m_fruits h_m_fruits hpost hKn x1 x2 x4 x5 x6 x7 x6 m_thrown m_worth (by omega) (by omega) (by omega) (by omega) (fun k => by have q9 := h_m_worth k; omega) (by omega)
      · skip
        have c39 := (fa_eq _ _).mp c39
        intro v44 ev44
        have hv44 := ti_i2s x6
        rw [← ev44] at hv44
        have f45 := tp_r x2
        have f46 := tp_r x4
        have f47 := tp_r x5
        have f48 := tp_r x6
        exact ts_X10_sheet_75 m_fruits h_m_fruits hpost hKn x1 x2 x4 x5 x6 x7 v44 m_thrown m_worth (by omega) (by omega) (by omega) (by omega) (fun k => by have q9 := h_m_worth k; omega) (by omega)
    · skip
      have c38 := (fa_eq _ _).mp c38
      intro v49 ev49
      have hv49 := ti_i2b x6
      rw [← ev49] at hv49
      have f50 := tp_r x2
      have f51 := tp_r x4
      have f52 := tp_r x5
      have f53 := tp_r x6
      exact ts_X10_sheet_75 m_fruits h_m_fruits hpost hKn x1 x2 x4 x5 x6 x7 v49 m_thrown m_worth (by omega) (by omega) (by omega) (by omega) (fun k => by have q9 := h_m_worth k; omega) (by omega)
set_option maxHeartbeats 8000000 in
set_option maxRecDepth 200000 in
theorem tb_X10_sheet_43 {post : Int32 → Int32 → (Nat → Int32) → Prop} (m_fruits : Int32) (h_m_fruits : 0 ≤ Int32.toInt m_fruits ∧ Int32.toInt m_fruits ≤ 16) (hpost : ∀ (r : Int32) (m_thrown' : Int32) (m_worth' : Nat → Int32), (0 ≤ Int32.toInt m_thrown' ∧ Int32.toInt m_thrown' ≤ 0) → (∀ k : Nat, 0 ≤ Int32.toInt (m_worth' k) ∧ Int32.toInt (m_worth' k) ≤ 9) → post r m_thrown' m_worth') : ∀ (n : Nat) (x1 : Int32) (x2 : Int32) (x4 : Int32) (x5 : Int32) (x6 : Int32) (x7 : Int32) (m_thrown : Int32) (m_worth : Nat → Int32), (0 ≤ Int32.toInt x1 ∧ Int32.toInt x1 ≤ 3) → (-2147483648 ≤ Int32.toInt x2 ∧ Int32.toInt x2 ≤ 16) → (0 ≤ Int32.toInt x7 ∧ Int32.toInt x7 ≤ 16) → (0 ≤ Int32.toInt m_thrown ∧ Int32.toInt m_thrown ≤ 0) → (∀ k : Nat, 0 ≤ Int32.toInt (m_worth k) ∧ Int32.toInt (m_worth k) ≤ 9) → (16 - Int32.toInt x7 < (n : Int)) → wb_X10_sheet_43 post m_fruits n x1 x2 x4 x5 x6 x7 m_thrown m_worth := by
  intro n
  induction n with
  | zero =>
    intro x1 x2 x4 x5 x6 x7 m_thrown m_worth h_x1 h_x2 h_x7 h_m_thrown h_m_worth hm
    exfalso; omega
  | succ n ih =>
    intro x1 x2 x4 x5 x6 x7 m_thrown m_worth h_x1 h_x2 h_x7 h_m_thrown h_m_worth hm
    exact ts_X10_sheet_43 m_fruits h_m_fruits hpost ih x1 x2 x4 x5 x6 x7 m_thrown m_worth h_x1 h_x2 h_x7 h_m_thrown h_m_worth (by omega)
set_option maxHeartbeats 8000000 in
set_option maxRecDepth 200000 in
theorem ts_X10_sheet_34 {post : Int32 → Int32 → (Nat → Int32) → Prop} (m_fruits : Int32) (h_m_fruits : 0 ≤ Int32.toInt m_fruits ∧ Int32.toInt m_fruits ≤ 16) (hpost : ∀ (r : Int32) (m_thrown' : Int32) (m_worth' : Nat → Int32), (0 ≤ Int32.toInt m_thrown' ∧ Int32.toInt m_thrown' ≤ 0) → (∀ k : Nat, 0 ≤ Int32.toInt (m_worth' k) ∧ Int32.toInt (m_worth' k) ≤ 9) → post r m_thrown' m_worth') (x1 : Int32) (x2 : Int32) (x3 : Int32) (x4 : Int32) (m_thrown : Int32) (m_worth : Nat → Int32) (h_x1 : 0 ≤ Int32.toInt x1 ∧ Int32.toInt x1 ≤ 3) (h_x2 : -2147483648 ≤ Int32.toInt x2 ∧ Int32.toInt x2 ≤ 16) (h_m_thrown : 0 ≤ Int32.toInt m_thrown ∧ Int32.toInt m_thrown ≤ 0) (h_m_worth : ∀ k : Nat, 0 ≤ Int32.toInt (m_worth k) ∧ Int32.toInt (m_worth k) ≤ 9) : ws_X10_sheet_34 post m_fruits x1 x2 x3 x4 m_thrown m_worth := by
  have l0 : Int32.toInt (0 : Int32) = 0 := (by decide)
  have f54 := tp_r x2
  have f55 := tp_r x4
  have f56 := tp_r x3
  exact ⟨18, tb_X10_sheet_43 m_fruits h_m_fruits hpost _ x1 x2 x4 0 x3 0 m_thrown m_worth (by omega) (by omega) (by omega) (by omega) (fun k => by have q9 := h_m_worth k; omega) (by omega)⟩
set_option maxHeartbeats 8000000 in
set_option maxRecDepth 200000 in
theorem t_X10_sheet {post : Int32 → Int32 → (Nat → Int32) → Prop} {p0 : Int32} {p1 : Int32} {p2 : Int32} {p3 : Int32} {m_fruits : Int32} {m_thrown : Int32} {m_worth : Nat → Int32} (h_m_fruits : 0 ≤ Int32.toInt m_fruits ∧ Int32.toInt m_fruits ≤ 16) (h_m_thrown : 0 ≤ Int32.toInt m_thrown ∧ Int32.toInt m_thrown ≤ 1) (h_m_worth : ∀ k : Nat, 0 ≤ Int32.toInt (m_worth k) ∧ Int32.toInt (m_worth k) ≤ 9) (hpost : ∀ (r : Int32) (m_thrown' : Int32) (m_worth' : Nat → Int32), (0 ≤ Int32.toInt m_thrown' ∧ Int32.toInt m_thrown' ≤ 0) → (∀ k : Nat, 0 ≤ Int32.toInt (m_worth' k) ∧ Int32.toInt (m_worth' k) ≤ 9) → post r m_thrown' m_worth') : wp_X10_sheet post p0 p1 p2 p3 m_fruits m_thrown m_worth := by
  have l0 : Int32.toInt (0 : Int32) = 0 := (by decide)
  have l1 : Int32.toInt (16 : Int32) = 16 := (by decide)
  have l2 : Int32.toInt (3 : Int32) = 3 := (by decide)
  have f58 := tp_r p0
  refine And.intro (fun c57 => ?_) (fun c57 => ?_)
  · skip
    have c57 := (fa_lt _ _).mp c57
    refine And.intro (fun _ => ?_) (fun h9 => absurd h9 (by decide))
    exact hpost _ _ _ (by omega) (fun k => by have q9 := h_m_worth k; omega)
  · skip
    have c57 := mt (fa_lt _ _).mpr c57
    refine And.intro (fun c59 => ?_) (fun c59 => ?_)
    · skip
      have c59 := (fa_lt _ _).mp c59
      refine And.intro (fun _ => ?_) (fun h9 => absurd h9 (by decide))
      exact hpost _ _ _ (by omega) (fun k => by have q9 := h_m_worth k; omega)
    · skip
      have c59 := mt (fa_lt _ _).mpr c59
      refine And.intro (fun h9 => absurd h9 (by decide)) (fun _ => ?_)
      have f61 := tp_r p1
      refine And.intro (fun c60 => ?_) (fun c60 => ?_)
      · skip
        have c60 := (fa_le _ _).mp c60
        refine And.intro (fun c62 => ?_) (fun c62 => ?_)
        · skip
          have c62 := (fa_le _ _).mp c62
          have f63 := tp_r p2
          have f64 := tp_r p3
          exact ts_X10_sheet_34 m_fruits h_m_fruits hpost p0 p1 p2 p3 0 m_worth (by omega) (by omega) (by omega) (fun k => by have q9 := h_m_worth k; omega)
        · skip
          have c62 := mt (fa_le _ _).mpr c62
          refine And.intro (fun c65 => ?_) (fun c65 => ?_)
          · skip
            have c65 := (fa_le _ _).mp c65
            have f66 := tp_r p2
            have f67 := tp_r p3
            exact ts_X10_sheet_34 m_fruits h_m_fruits hpost p0 p1 p2 p3 0 m_worth (by omega) (by omega) (by omega) (fun k => by have q9 := h_m_worth k; omega)
          · skip
            have c65 := mt (fa_le _ _).mpr c65
            exact hpost _ _ _ (by omega) (fun k => by have q9 := h_m_worth k; omega)
      · skip
        have c60 := mt (fa_le _ _).mpr c60
        exact hpost _ _ _ (by omega) (fun k => by have q9 := h_m_worth k; omega)
set_option maxHeartbeats 8000000 in
set_option maxRecDepth 200000 in
theorem ts_X10_lay_2 {post : (Nat → Int32) → Prop} {SB : Int} {next : Int32 → Int32 → (Nat → Int32) → Prop} {n2 : Int} (m_now : Nat → Int32) (e0_m_now : ∀ k : Nat, k = 17 → -1 ≤ Int32.toInt (m_now k) ∧ Int32.toInt (m_now k) ≤ SB) (e1_m_now : ∀ k : Nat, k = 19 → 0 ≤ Int32.toInt (m_now k) ∧ Int32.toInt (m_now k) ≤ 9) (hc0 : -1 ≤ SB ∧ SB ≤ 7) (hpost : ∀ (m_undos' : Nat → Int32), (∀ k : Nat, k % 21 = 17 → -1 ≤ Int32.toInt (m_undos' k) ∧ Int32.toInt (m_undos' k) ≤ SB) → (∀ k : Nat, k % 21 = 19 → 0 ≤ Int32.toInt (m_undos' k) ∧ Int32.toInt (m_undos' k) ≤ 9) → post m_undos') (hKn : ∀ (x2 : Int32) (x3 : Int32) (m_undos : Nat → Int32), (0 ≤ Int32.toInt x2 ∧ Int32.toInt x2 ≤ 231) → (0 ≤ Int32.toInt x3 ∧ Int32.toInt x3 ≤ 21) → (∀ k : Nat, k % 21 = 17 → -1 ≤ Int32.toInt (m_undos k) ∧ Int32.toInt (m_undos k) ≤ SB) → (∀ k : Nat, k % 21 = 19 → 0 ≤ Int32.toInt (m_undos k) ∧ Int32.toInt (m_undos k) ≤ 9) → (Int32.toInt x2 % 21 = 0) → (21 - Int32.toInt x3 < n2) → next x2 x3 m_undos) (x2 : Int32) (x3 : Int32) (m_undos : Nat → Int32) (h_x2 : 0 ≤ Int32.toInt x2 ∧ Int32.toInt x2 ≤ 231) (h_x3 : 0 ≤ Int32.toInt x3 ∧ Int32.toInt x3 ≤ 21) (e0_m_undos : ∀ k : Nat, k % 21 = 17 → -1 ≤ Int32.toInt (m_undos k) ∧ Int32.toInt (m_undos k) ≤ SB) (e1_m_undos : ∀ k : Nat, k % 21 = 19 → 0 ≤ Int32.toInt (m_undos k) ∧ Int32.toInt (m_undos k) ≤ 9) (hx0 : Int32.toInt x2 % 21 = 0) (hn2 : 21 - Int32.toInt x3 ≤ n2) : ws_X10_lay_2 post next m_now x2 x3 m_undos := by
  have l0 : Int32.toInt (1 : Int32) = 1 := (by decide)
  have l1 : Int32.toInt (21 : Int32) = 21 := (by decide)
  refine And.intro (fun c1 => ?_) (fun c1 => ?_)
  · skip
    have c1 := (fa_le _ _).mp c1
    exact hpost _ e0_m_undos e1_m_undos
  · skip
    have c1 := mt (fa_le _ _).mpr c1
    intro v2 ev2
    have f3 : Int32.toInt (x2 + x3) = Int32.toInt x2 + Int32.toInt x3 := ta_add _ _ (by omega)
    rw [← ev2] at f3
    refine And.intro (t_in (by omega)) ?_
    have q4 := e0_m_now x3.toNatClampNeg
    have q5 := e1_m_now x3.toNatClampNeg
    have q6 : x3.toNatClampNeg = (Int32.toInt x3).toNat := rfl
    intro v7 ev7
    have hv7 := congrArg Int32.toInt ev7
    refine And.intro (t_in (by omega)) ?_
    have f10 := tp_r v7
    have e9 : ∀ k : Nat, k % 21 = 17 → -1 ≤ Int32.toInt ((upd m_undos v2.toNatClampNeg v7) k) ∧ Int32.toInt ((upd m_undos v2.toNatClampNeg v7) k) ≤ SB := t_updc (C := fun k => k % 21 = 17) e0_m_undos (fun hk => by have e9 : v2.toNatClampNeg = (Int32.toInt v2).toNat := rfl; have hk : v2.toNatClampNeg % 21 = 17 := hk; omega)
    have e11 : ∀ k : Nat, k % 21 = 19 → 0 ≤ Int32.toInt ((upd m_undos v2.toNatClampNeg v7) k) ∧ Int32.toInt ((upd m_undos v2.toNatClampNeg v7) k) ≤ 9 := t_updc (C := fun k => k % 21 = 19) e1_m_undos (fun hk => by have e9 : v2.toNatClampNeg = (Int32.toInt v2).toNat := rfl; have hk : v2.toNatClampNeg % 21 = 19 := hk; omega)
    intro v12 ev12
    have f13 : Int32.toInt (x3 + 1) = Int32.toInt x3 + Int32.toInt (1 : Int32) := ta_add _ _ (by omega)
    rw [← ev12] at f13
    exact hKn x2 v12 (upd m_undos v2.toNatClampNeg v7) (by omega) (by omega) e9 e11 (by omega) (by omega)
set_option maxHeartbeats 8000000 in
set_option maxRecDepth 200000 in
theorem tb_X10_lay_2 {post : (Nat → Int32) → Prop} {SB : Int} (m_now : Nat → Int32) (e0_m_now : ∀ k : Nat, k = 17 → -1 ≤ Int32.toInt (m_now k) ∧ Int32.toInt (m_now k) ≤ SB) (e1_m_now : ∀ k : Nat, k = 19 → 0 ≤ Int32.toInt (m_now k) ∧ Int32.toInt (m_now k) ≤ 9) (hc0 : -1 ≤ SB ∧ SB ≤ 7) (hpost : ∀ (m_undos' : Nat → Int32), (∀ k : Nat, k % 21 = 17 → -1 ≤ Int32.toInt (m_undos' k) ∧ Int32.toInt (m_undos' k) ≤ SB) → (∀ k : Nat, k % 21 = 19 → 0 ≤ Int32.toInt (m_undos' k) ∧ Int32.toInt (m_undos' k) ≤ 9) → post m_undos') : ∀ (n : Nat) (x2 : Int32) (x3 : Int32) (m_undos : Nat → Int32), (0 ≤ Int32.toInt x2 ∧ Int32.toInt x2 ≤ 231) → (0 ≤ Int32.toInt x3 ∧ Int32.toInt x3 ≤ 21) → (∀ k : Nat, k % 21 = 17 → -1 ≤ Int32.toInt (m_undos k) ∧ Int32.toInt (m_undos k) ≤ SB) → (∀ k : Nat, k % 21 = 19 → 0 ≤ Int32.toInt (m_undos k) ∧ Int32.toInt (m_undos k) ≤ 9) → (Int32.toInt x2 % 21 = 0) → (21 - Int32.toInt x3 < (n : Int)) → wb_X10_lay_2 post m_now n x2 x3 m_undos := by
  intro n
  induction n with
  | zero =>
    intro x2 x3 m_undos h_x2 h_x3 e0_m_undos e1_m_undos hx0 hm
    exfalso; omega
  | succ n ih =>
    intro x2 x3 m_undos h_x2 h_x3 e0_m_undos e1_m_undos hx0 hm
    exact ts_X10_lay_2 m_now e0_m_now e1_m_now hc0 hpost ih x2 x3 m_undos h_x2 h_x3 e0_m_undos e1_m_undos hx0 (by omega)
set_option maxHeartbeats 8000000 in
set_option maxRecDepth 200000 in
theorem t_X10_lay {post : (Nat → Int32) → Prop} {SB : Int} {p2 : Int32} {m_now : Nat → Int32} {m_undos : Nat → Int32} (h_p2 : 0 ≤ Int32.toInt p2 ∧ Int32.toInt p2 ≤ 231) (e0_m_now : ∀ k : Nat, k = 17 → -1 ≤ Int32.toInt (m_now k) ∧ Int32.toInt (m_now k) ≤ SB) (e1_m_now : ∀ k : Nat, k = 19 → 0 ≤ Int32.toInt (m_now k) ∧ Int32.toInt (m_now k) ≤ 9) (e0_m_undos : ∀ k : Nat, k % 21 = 17 → -1 ≤ Int32.toInt (m_undos k) ∧ Int32.toInt (m_undos k) ≤ SB) (e1_m_undos : ∀ k : Nat, k % 21 = 19 → 0 ≤ Int32.toInt (m_undos k) ∧ Int32.toInt (m_undos k) ≤ 9) (hc0 : -1 ≤ SB ∧ SB ≤ 7) (hx0 : Int32.toInt p2 % 21 = 0) (hpost : ∀ (m_undos' : Nat → Int32), (∀ k : Nat, k % 21 = 17 → -1 ≤ Int32.toInt (m_undos' k) ∧ Int32.toInt (m_undos' k) ≤ SB) → (∀ k : Nat, k % 21 = 19 → 0 ≤ Int32.toInt (m_undos' k) ∧ Int32.toInt (m_undos' k) ≤ 9) → post m_undos') : wp_X10_lay post p2 m_now m_undos := by
  have l0 : Int32.toInt (0 : Int32) = 0 := (by decide)
  exact ⟨23, tb_X10_lay_2 m_now e0_m_now e1_m_now hc0 hpost _ p2 0 m_undos (by omega) (by omega) e0_m_undos e1_m_undos (by omega) (by omega)⟩
set_option maxHeartbeats 8000000 in
set_option maxRecDepth 200000 in
theorem ts_X10_remember_49 {post : Int32 → (Nat → Int32) → Prop} {SB : Int} (m_now : Nat → Int32) (e0_m_now : ∀ k : Nat, k = 17 → -1 ≤ Int32.toInt (m_now k) ∧ Int32.toInt (m_now k) ≤ SB) (e1_m_now : ∀ k : Nat, k = 19 → 0 ≤ Int32.toInt (m_now k) ∧ Int32.toInt (m_now k) ≤ 9) (hc0 : -1 ≤ SB ∧ SB ≤ 7) (hpost : ∀ (m_undoMany' : Int32) (m_undos' : Nat → Int32), (1 ≤ Int32.toInt m_undoMany' ∧ Int32.toInt m_undoMany' ≤ 12) → (∀ k : Nat, k % 21 = 17 → -1 ≤ Int32.toInt (m_undos' k) ∧ Int32.toInt (m_undos' k) ≤ SB) → (∀ k : Nat, k % 21 = 19 → 0 ≤ Int32.toInt (m_undos' k) ∧ Int32.toInt (m_undos' k) ≤ 9) → post m_undoMany' m_undos') (m_undoMany : Int32) (m_undos : Nat → Int32) (h_m_undoMany : 0 ≤ Int32.toInt m_undoMany ∧ Int32.toInt m_undoMany ≤ 11) (e0_m_undos : ∀ k : Nat, k % 21 = 17 → -1 ≤ Int32.toInt (m_undos k) ∧ Int32.toInt (m_undos k) ≤ SB) (e1_m_undos : ∀ k : Nat, k % 21 = 19 → 0 ≤ Int32.toInt (m_undos k) ∧ Int32.toInt (m_undos k) ≤ 9) : ws_X10_remember_49 post m_now m_undoMany m_undos := by
  have l0 : Int32.toInt (1 : Int32) = 1 := (by decide)
  have l1 : Int32.toInt (21 : Int32) = 21 := (by decide)
  intro v1 ev1
  have f2 : Int32.toInt (21 * m_undoMany) = Int32.toInt m_undoMany * 21 := ta_cmul _ _ (by decide) (by omega)
  rw [← ev1] at f2
  refine t_X10_lay (by omega) e0_m_now e1_m_now e0_m_undos e1_m_undos (by omega) (by omega) (fun m_undos_3 e0_m_undos_3 e1_m_undos_3 => ?_)
  intro v4 ev4
  have f5 : Int32.toInt (m_undoMany + 1) = Int32.toInt m_undoMany + Int32.toInt (1 : Int32) := ta_add _ _ (by omega)
  rw [← ev4] at f5
  exact hpost _ _ (by omega) e0_m_undos_3 e1_m_undos_3
set_option maxHeartbeats 8000000 in
set_option maxRecDepth 200000 in
theorem ts_X10_remember_11 {post : Int32 → (Nat → Int32) → Prop} {SB : Int} {next : Int32 → Int32 → (Nat → Int32) → Prop} {n11 : Int} (m_now : Nat → Int32) (e0_m_now : ∀ k : Nat, k = 17 → -1 ≤ Int32.toInt (m_now k) ∧ Int32.toInt (m_now k) ≤ SB) (e1_m_now : ∀ k : Nat, k = 19 → 0 ≤ Int32.toInt (m_now k) ∧ Int32.toInt (m_now k) ≤ 9) (hc0 : -1 ≤ SB ∧ SB ≤ 7) (hpost : ∀ (m_undoMany' : Int32) (m_undos' : Nat → Int32), (1 ≤ Int32.toInt m_undoMany' ∧ Int32.toInt m_undoMany' ≤ 12) → (∀ k : Nat, k % 21 = 17 → -1 ≤ Int32.toInt (m_undos' k) ∧ Int32.toInt (m_undos' k) ≤ SB) → (∀ k : Nat, k % 21 = 19 → 0 ≤ Int32.toInt (m_undos' k) ∧ Int32.toInt (m_undos' k) ≤ 9) → post m_undoMany' m_undos') (hKn : ∀ (x2 : Int32) (m_undoMany : Int32) (m_undos : Nat → Int32), (0 ≤ Int32.toInt x2 ∧ Int32.toInt x2 ≤ 231) → (12 ≤ Int32.toInt m_undoMany ∧ Int32.toInt m_undoMany ≤ 12) → (∀ k : Nat, k % 21 = 17 → -1 ≤ Int32.toInt (m_undos k) ∧ Int32.toInt (m_undos k) ≤ SB) → (∀ k : Nat, k % 21 = 19 → 0 ≤ Int32.toInt (m_undos k) ∧ Int32.toInt (m_undos k) ≤ 9) → (231 - Int32.toInt x2 < n11) → next x2 m_undoMany m_undos) (x2 : Int32) (m_undoMany : Int32) (m_undos : Nat → Int32) (h_x2 : 0 ≤ Int32.toInt x2 ∧ Int32.toInt x2 ≤ 231) (h_m_undoMany : 12 ≤ Int32.toInt m_undoMany ∧ Int32.toInt m_undoMany ≤ 12) (e0_m_undos : ∀ k : Nat, k % 21 = 17 → -1 ≤ Int32.toInt (m_undos k) ∧ Int32.toInt (m_undos k) ≤ SB) (e1_m_undos : ∀ k : Nat, k % 21 = 19 → 0 ≤ Int32.toInt (m_undos k) ∧ Int32.toInt (m_undos k) ≤ 9) (hn11 : 231 - Int32.toInt x2 ≤ n11) : ws_X10_remember_11 post next m_now x2 m_undoMany m_undos := by
  have l0 : Int32.toInt (1 : Int32) = 1 := (by decide)
  have l1 : Int32.toInt (21 : Int32) = 21 := (by decide)
  have l2 : Int32.toInt (231 : Int32) = 231 := (by decide)
  refine And.intro (fun c6 => ?_) (fun c6 => ?_)
  · skip
    have c6 := (fa_le _ _).mp c6
    intro v7 ev7
    have f8 : Int32.toInt (m_undoMany - 1) = Int32.toInt m_undoMany - Int32.toInt (1 : Int32) := ta_sub _ _ (by omega)
    rw [← ev7] at f8
    exact ts_X10_remember_49 m_now e0_m_now e1_m_now hc0 hpost v7 m_undos (by omega) e0_m_undos e1_m_undos
  · skip
    have c6 := mt (fa_le _ _).mpr c6
    intro v9 ev9
    have f10 : Int32.toInt (x2 + 21) = Int32.toInt x2 + Int32.toInt (21 : Int32) := ta_add _ _ (by omega)
    rw [← ev9] at f10
    refine And.intro (t_in (by omega)) ?_
    have q11 := e0_m_undos v9.toNatClampNeg
    have q12 := e1_m_undos v9.toNatClampNeg
    have q13 : v9.toNatClampNeg = (Int32.toInt v9).toNat := rfl
    intro v14 ev14
    have hv14 := congrArg Int32.toInt ev14
    refine And.intro (t_in (by omega)) ?_
    have f17 := tp_r v14
    have e16 : ∀ k : Nat, k % 21 = 17 → -1 ≤ Int32.toInt ((upd m_undos x2.toNatClampNeg v14) k) ∧ Int32.toInt ((upd m_undos x2.toNatClampNeg v14) k) ≤ SB := t_updc (C := fun k => k % 21 = 17) e0_m_undos (fun hk => by have e9 : x2.toNatClampNeg = (Int32.toInt x2).toNat := rfl; have hk : x2.toNatClampNeg % 21 = 17 := hk; omega)
    have e18 : ∀ k : Nat, k % 21 = 19 → 0 ≤ Int32.toInt ((upd m_undos x2.toNatClampNeg v14) k) ∧ Int32.toInt ((upd m_undos x2.toNatClampNeg v14) k) ≤ 9 := t_updc (C := fun k => k % 21 = 19) e1_m_undos (fun hk => by have e9 : x2.toNatClampNeg = (Int32.toInt x2).toNat := rfl; have hk : x2.toNatClampNeg % 21 = 19 := hk; omega)
    intro v19 ev19
    have f20 : Int32.toInt (x2 + 1) = Int32.toInt x2 + Int32.toInt (1 : Int32) := ta_add _ _ (by omega)
    rw [← ev19] at f20
    exact hKn v19 m_undoMany (upd m_undos x2.toNatClampNeg v14) (by omega) (by omega) e16 e18 (by omega)
set_option maxHeartbeats 8000000 in
set_option maxRecDepth 200000 in
theorem tb_X10_remember_11 {post : Int32 → (Nat → Int32) → Prop} {SB : Int} (m_now : Nat → Int32) (e0_m_now : ∀ k : Nat, k = 17 → -1 ≤ Int32.toInt (m_now k) ∧ Int32.toInt (m_now k) ≤ SB) (e1_m_now : ∀ k : Nat, k = 19 → 0 ≤ Int32.toInt (m_now k) ∧ Int32.toInt (m_now k) ≤ 9) (hc0 : -1 ≤ SB ∧ SB ≤ 7) (hpost : ∀ (m_undoMany' : Int32) (m_undos' : Nat → Int32), (1 ≤ Int32.toInt m_undoMany' ∧ Int32.toInt m_undoMany' ≤ 12) → (∀ k : Nat, k % 21 = 17 → -1 ≤ Int32.toInt (m_undos' k) ∧ Int32.toInt (m_undos' k) ≤ SB) → (∀ k : Nat, k % 21 = 19 → 0 ≤ Int32.toInt (m_undos' k) ∧ Int32.toInt (m_undos' k) ≤ 9) → post m_undoMany' m_undos') : ∀ (n : Nat) (x2 : Int32) (m_undoMany : Int32) (m_undos : Nat → Int32), (0 ≤ Int32.toInt x2 ∧ Int32.toInt x2 ≤ 231) → (12 ≤ Int32.toInt m_undoMany ∧ Int32.toInt m_undoMany ≤ 12) → (∀ k : Nat, k % 21 = 17 → -1 ≤ Int32.toInt (m_undos k) ∧ Int32.toInt (m_undos k) ≤ SB) → (∀ k : Nat, k % 21 = 19 → 0 ≤ Int32.toInt (m_undos k) ∧ Int32.toInt (m_undos k) ≤ 9) → (231 - Int32.toInt x2 < (n : Int)) → wb_X10_remember_11 post m_now n x2 m_undoMany m_undos := by
  intro n
  induction n with
  | zero =>
    intro x2 m_undoMany m_undos h_x2 h_m_undoMany e0_m_undos e1_m_undos hm
    exfalso; omega
  | succ n ih =>
    intro x2 m_undoMany m_undos h_x2 h_m_undoMany e0_m_undos e1_m_undos hm
    exact ts_X10_remember_11 m_now e0_m_now e1_m_now hc0 hpost ih x2 m_undoMany m_undos h_x2 h_m_undoMany e0_m_undos e1_m_undos (by omega)
set_option maxHeartbeats 8000000 in
set_option maxRecDepth 200000 in
theorem t_X10_remember {post : Int32 → (Nat → Int32) → Prop} {SB : Int} {m_undoMany : Int32} {m_now : Nat → Int32} {m_undos : Nat → Int32} (h_m_undoMany : 0 ≤ Int32.toInt m_undoMany ∧ Int32.toInt m_undoMany ≤ 12) (e0_m_now : ∀ k : Nat, k = 17 → -1 ≤ Int32.toInt (m_now k) ∧ Int32.toInt (m_now k) ≤ SB) (e1_m_now : ∀ k : Nat, k = 19 → 0 ≤ Int32.toInt (m_now k) ∧ Int32.toInt (m_now k) ≤ 9) (e0_m_undos : ∀ k : Nat, k % 21 = 17 → -1 ≤ Int32.toInt (m_undos k) ∧ Int32.toInt (m_undos k) ≤ SB) (e1_m_undos : ∀ k : Nat, k % 21 = 19 → 0 ≤ Int32.toInt (m_undos k) ∧ Int32.toInt (m_undos k) ≤ 9) (hc0 : -1 ≤ SB ∧ SB ≤ 7) (hpost : ∀ (m_undoMany' : Int32) (m_undos' : Nat → Int32), (1 ≤ Int32.toInt m_undoMany' ∧ Int32.toInt m_undoMany' ≤ 12) → (∀ k : Nat, k % 21 = 17 → -1 ≤ Int32.toInt (m_undos' k) ∧ Int32.toInt (m_undos' k) ≤ SB) → (∀ k : Nat, k % 21 = 19 → 0 ≤ Int32.toInt (m_undos' k) ∧ Int32.toInt (m_undos' k) ≤ 9) → post m_undoMany' m_undos') : wp_X10_remember post m_undoMany m_now m_undos := by
  have l0 : Int32.toInt (0 : Int32) = 0 := (by decide)
  have l1 : Int32.toInt (12 : Int32) = 12 := (by decide)
  refine And.intro (fun c21 => ?_) (fun c21 => ?_)
  · skip
    have c21 := mt (fa_eq _ _).mpr c21
    exact ts_X10_remember_49 m_now e0_m_now e1_m_now hc0 hpost m_undoMany m_undos (by omega) e0_m_undos e1_m_undos
  · skip
    have c21 := (fa_eq _ _).mp c21
    exact ⟨233, tb_X10_remember_11 m_now e0_m_now e1_m_now hc0 hpost _ 0 m_undoMany m_undos (by omega) (by omega) e0_m_undos e1_m_undos (by omega)⟩
theorem t_X10_moveOf {post : Int32 → Prop} {p0 : Int32} {p1 : Int32} {m_foot : Nat → Int32} {m_told : Nat → Int32} (h_p0 : -1 ≤ Int32.toInt p0 ∧ Int32.toInt p0 ≤ 7) (h_p1 : 0 ≤ Int32.toInt p1 ∧ Int32.toInt p1 ≤ 7) (h_m_foot : ∀ k : Nat, 0 ≤ Int32.toInt (m_foot k) ∧ Int32.toInt (m_foot k) ≤ 99) (e0_m_told : ∀ k : Nat, k = 4 → 1 ≤ Int32.toInt (m_told k) ∧ Int32.toInt (m_told k) ≤ 30) (e1_m_told : ∀ k : Nat, k = 3 → 0 ≤ Int32.toInt (m_told k) ∧ Int32.toInt (m_told k) ≤ 9) (hx0 : -1 ≤ Int32.toInt p0 ∧ Int32.toInt p0 ≤ 7) (hx1 : 0 ≤ Int32.toInt p1 ∧ Int32.toInt p1 ≤ 7) (hpost : ∀ (r : Int32) , (9 ≤ Int32.toInt r ∧ Int32.toInt r ≤ 900) → (r = mvo m_foot m_told p0 p1) → post r) : wp_X10_moveOf post p0 p1 m_foot m_told := by
  exact f_moveOf hx0 hx1 (hpost _ (mvo_rng h_m_foot e1_m_told _ _) rfl)
set_option maxHeartbeats 8000000 in
set_option maxRecDepth 200000 in
theorem ts_X10_empty_35 {post : Int32 → (Nat → Int32) → Prop} {SB : Int} {m_now0 : Nat → Int32} {K4 : Int32 → Int32 → (Nat → Int32) → Prop} {n4 : Int} (m_fruits : Int32) (h_m_fruits : 0 ≤ Int32.toInt m_fruits ∧ Int32.toInt m_fruits ≤ 16) (hc0 : -1 ≤ SB ∧ SB ≤ 7) (hpost : ∀ (r : Int32) (m_now' : Nat → Int32), (∀ k : Nat, k = 17 → -1 ≤ Int32.toInt (m_now' k) ∧ Int32.toInt (m_now' k) ≤ SB) → (∀ k : Nat, k = 19 → 0 ≤ Int32.toInt (m_now' k) ∧ Int32.toInt (m_now' k) ≤ 9) → (m_now' 19 = m_now0 19) → post r m_now') (hK4 : ∀ (x1 : Int32) (x2 : Int32) (m_now : Nat → Int32), (0 ≤ Int32.toInt x2 ∧ Int32.toInt x2 ≤ 16) → (∀ k : Nat, k = 17 → -1 ≤ Int32.toInt (m_now k) ∧ Int32.toInt (m_now k) ≤ SB) → (∀ k : Nat, k = 19 → 0 ≤ Int32.toInt (m_now k) ∧ Int32.toInt (m_now k) ≤ 9) → (m_now 19 = m_now0 19) → (16 - Int32.toInt x2 < n4) → K4 x1 x2 m_now) (x1 : Int32) (x2 : Int32) (m_now : Nat → Int32) (h_x2 : 0 ≤ Int32.toInt x2 ∧ Int32.toInt x2 ≤ 15) (e0_m_now : ∀ k : Nat, k = 17 → -1 ≤ Int32.toInt (m_now k) ∧ Int32.toInt (m_now k) ≤ SB) (e1_m_now : ∀ k : Nat, k = 19 → 0 ≤ Int32.toInt (m_now k) ∧ Int32.toInt (m_now k) ≤ 9) (hx0 : m_now 19 = m_now0 19) (hn4 : 16 - Int32.toInt x2 ≤ n4) : ws_X10_empty_35 post K4 m_fruits x1 x2 m_now := by
  have l0 : Int32.toInt (1 : Int32) = 1 := (by decide)
  intro v1 ev1
  have f2 : Int32.toInt (x2 + 1) = Int32.toInt x2 + Int32.toInt (1 : Int32) := ta_add _ _ (by omega)
  rw [← ev1] at f2
  have f3 := tp_r x1
  exact hK4 x1 v1 m_now (by omega) e0_m_now e1_m_now (by first | assumption | exact rfl | exact t_upk (by assumption) (t_nk (by omega))) (by omega)
set_option maxHeartbeats 8000000 in
set_option maxRecDepth 200000 in
theorem ts_X10_empty_4 {post : Int32 → (Nat → Int32) → Prop} {SB : Int} {m_now0 : Nat → Int32} {next : Int32 → Int32 → (Nat → Int32) → Prop} {n4 : Int} (m_fruits : Int32) (h_m_fruits : 0 ≤ Int32.toInt m_fruits ∧ Int32.toInt m_fruits ≤ 16) (hc0 : -1 ≤ SB ∧ SB ≤ 7) (hpost : ∀ (r : Int32) (m_now' : Nat → Int32), (∀ k : Nat, k = 17 → -1 ≤ Int32.toInt (m_now' k) ∧ Int32.toInt (m_now' k) ≤ SB) → (∀ k : Nat, k = 19 → 0 ≤ Int32.toInt (m_now' k) ∧ Int32.toInt (m_now' k) ≤ 9) → (m_now' 19 = m_now0 19) → post r m_now') (hKn : ∀ (x1 : Int32) (x2 : Int32) (m_now : Nat → Int32), (0 ≤ Int32.toInt x2 ∧ Int32.toInt x2 ≤ 16) → (∀ k : Nat, k = 17 → -1 ≤ Int32.toInt (m_now k) ∧ Int32.toInt (m_now k) ≤ SB) → (∀ k : Nat, k = 19 → 0 ≤ Int32.toInt (m_now k) ∧ Int32.toInt (m_now k) ≤ 9) → (m_now 19 = m_now0 19) → (16 - Int32.toInt x2 < n4) → next x1 x2 m_now) (x1 : Int32) (x2 : Int32) (m_now : Nat → Int32) (h_x2 : 0 ≤ Int32.toInt x2 ∧ Int32.toInt x2 ≤ 16) (e0_m_now : ∀ k : Nat, k = 17 → -1 ≤ Int32.toInt (m_now k) ∧ Int32.toInt (m_now k) ≤ SB) (e1_m_now : ∀ k : Nat, k = 19 → 0 ≤ Int32.toInt (m_now k) ∧ Int32.toInt (m_now k) ≤ 9) (hx0 : m_now 19 = m_now0 19) (hn4 : 16 - Int32.toInt x2 ≤ n4) : ws_X10_empty_4 post next m_fruits x1 x2 m_now := by
  have l0 : Int32.toInt (1 : Int32) = 1 := (by decide)
  have l1 : Int32.toInt (2 : Int32) = 2 := (by decide)
  refine And.intro (fun c4 => ?_) (fun c4 => ?_)
  · skip
    have c4 := (fa_le _ _).mp c4
    exact hpost _ _ e0_m_now e1_m_now (by first | assumption | exact rfl | exact t_upk (by assumption) (t_nk (by omega)))
  · skip
    have c4 := mt (fa_le _ _).mpr c4
    refine And.intro (t_in (by omega)) ?_
    intro v5 ev5
    have hv5 := congrArg Int32.toInt ev5
    have f8 := tp_r v5
    refine And.intro (fun c7 => ?_) (fun c7 => ?_)
    · skip
      have c7 := (fa_eq _ _).mp c7
      refine And.intro (t_in (by omega)) ?_
      have e9 : ∀ k : Nat, k = 17 → -1 ≤ Int32.toInt ((upd m_now x2.toNatClampNeg 2) k) ∧ Int32.toInt ((upd m_now x2.toNatClampNeg 2) k) ≤ SB := t_updc (C := fun k => k = 17) e0_m_now (fun hk => by have e9 : x2.toNatClampNeg = (Int32.toInt x2).toNat := rfl; have hk : x2.toNatClampNeg = 17 := hk; omega)
      have e10 : ∀ k : Nat, k = 19 → 0 ≤ Int32.toInt ((upd m_now x2.toNatClampNeg 2) k) ∧ Int32.toInt ((upd m_now x2.toNatClampNeg 2) k) ≤ 9 := t_updc (C := fun k => k = 19) e1_m_now (fun hk => by have e9 : x2.toNatClampNeg = (Int32.toInt x2).toNat := rfl; have hk : x2.toNatClampNeg = 19 := hk; omega)
      intro v11 ev11
      have hv11 := congrArg Int32.toInt ev11
      have f13 := tp_r v11
      exact ts_X10_empty_35 m_fruits h_m_fruits hc0 hpost hKn v11 x2 (upd m_now x2.toNatClampNeg 2) (by omega) e9 e10 (by first | assumption | exact rfl | exact t_upk (by assumption) (t_nk (by omega))) (by omega)
    · skip
      have c7 := mt (fa_eq _ _).mpr c7
      have f14 := tp_r x1
      exact ts_X10_empty_35 m_fruits h_m_fruits hc0 hpost hKn x1 x2 m_now (by omega) e0_m_now e1_m_now (by first | assumption | exact rfl | exact t_upk (by assumption) (t_nk (by omega))) (by omega)
set_option maxHeartbeats 8000000 in
set_option maxRecDepth 200000 in
theorem tb_X10_empty_4 {post : Int32 → (Nat → Int32) → Prop} {SB : Int} {m_now0 : Nat → Int32} (m_fruits : Int32) (h_m_fruits : 0 ≤ Int32.toInt m_fruits ∧ Int32.toInt m_fruits ≤ 16) (hc0 : -1 ≤ SB ∧ SB ≤ 7) (hpost : ∀ (r : Int32) (m_now' : Nat → Int32), (∀ k : Nat, k = 17 → -1 ≤ Int32.toInt (m_now' k) ∧ Int32.toInt (m_now' k) ≤ SB) → (∀ k : Nat, k = 19 → 0 ≤ Int32.toInt (m_now' k) ∧ Int32.toInt (m_now' k) ≤ 9) → (m_now' 19 = m_now0 19) → post r m_now') : ∀ (n : Nat) (x1 : Int32) (x2 : Int32) (m_now : Nat → Int32), (0 ≤ Int32.toInt x2 ∧ Int32.toInt x2 ≤ 16) → (∀ k : Nat, k = 17 → -1 ≤ Int32.toInt (m_now k) ∧ Int32.toInt (m_now k) ≤ SB) → (∀ k : Nat, k = 19 → 0 ≤ Int32.toInt (m_now k) ∧ Int32.toInt (m_now k) ≤ 9) → (m_now 19 = m_now0 19) → (16 - Int32.toInt x2 < (n : Int)) → wb_X10_empty_4 post m_fruits n x1 x2 m_now := by
  intro n
  induction n with
  | zero =>
    intro x1 x2 m_now h_x2 e0_m_now e1_m_now hx0 hm
    exfalso; omega
  | succ n ih =>
    intro x1 x2 m_now h_x2 e0_m_now e1_m_now hx0 hm
    exact ts_X10_empty_4 m_fruits h_m_fruits hc0 hpost ih x1 x2 m_now h_x2 e0_m_now e1_m_now hx0 (by omega)
set_option maxHeartbeats 8000000 in
set_option maxRecDepth 200000 in
theorem t_X10_empty {post : Int32 → (Nat → Int32) → Prop} {SB : Int} {m_fruits : Int32} {m_now : Nat → Int32} (h_m_fruits : 0 ≤ Int32.toInt m_fruits ∧ Int32.toInt m_fruits ≤ 16) (e0_m_now : ∀ k : Nat, k = 17 → -1 ≤ Int32.toInt (m_now k) ∧ Int32.toInt (m_now k) ≤ SB) (e1_m_now : ∀ k : Nat, k = 19 → 0 ≤ Int32.toInt (m_now k) ∧ Int32.toInt (m_now k) ≤ 9) (hc0 : -1 ≤ SB ∧ SB ≤ 7) (hpost : ∀ (r : Int32) (m_now' : Nat → Int32), (∀ k : Nat, k = 17 → -1 ≤ Int32.toInt (m_now' k) ∧ Int32.toInt (m_now' k) ≤ SB) → (∀ k : Nat, k = 19 → 0 ≤ Int32.toInt (m_now' k) ∧ Int32.toInt (m_now' k) ≤ 9) → (m_now' 19 = m_now 19) → post r m_now') : wp_X10_empty post m_fruits m_now := by
  have l0 : Int32.toInt (0 : Int32) = 0 := (by decide)
  exact ⟨18, tb_X10_empty_4 m_fruits h_m_fruits hc0 hpost _ 0 0 m_now (by omega) e0_m_now e1_m_now (by first | assumption | exact rfl | exact t_upk (by assumption) (t_nk (by omega))) (by omega)⟩
set_option maxHeartbeats 8000000 in
set_option maxRecDepth 200000 in
theorem ts_X10_goMove_50 {post : Int32 → (Nat → Int32) → Prop} {SB : Int} (m_fruits : Int32) (m_foot : Nat → Int32) (m_fork : Nat → Int32) (m_told : Nat → Int32) (h_m_fruits : 0 ≤ Int32.toInt m_fruits ∧ Int32.toInt m_fruits ≤ 16) (h_m_foot : ∀ k : Nat, 0 ≤ Int32.toInt (m_foot k) ∧ Int32.toInt (m_foot k) ≤ 99) (h_m_fork : ∀ k : Nat, 0 ≤ Int32.toInt (m_fork k) ∧ Int32.toInt (m_fork k) ≤ 99) (e0_m_told : ∀ k : Nat, k = 4 → 1 ≤ Int32.toInt (m_told k) ∧ Int32.toInt (m_told k) ≤ 30) (e1_m_told : ∀ k : Nat, k = 3 → 0 ≤ Int32.toInt (m_told k) ∧ Int32.toInt (m_told k) ≤ 9) (hc0 : -1 ≤ SB ∧ SB ≤ 7) (hpost : ∀ (r : Int32) (m_now' : Nat → Int32), (9 ≤ Int32.toInt r ∧ Int32.toInt r ≤ 913) → (∀ k : Nat, k = 17 → -1 ≤ Int32.toInt (m_now' k) ∧ Int32.toInt (m_now' k) ≤ SB) → (∀ k : Nat, k = 19 → 0 ≤ Int32.toInt (m_now' k) ∧ Int32.toInt (m_now' k) ≤ 9) → post r m_now') (x1 : Int32) (x2 : Int32) (m_now : Nat → Int32) (h_x1 : 0 ≤ Int32.toInt x1 ∧ Int32.toInt x1 ≤ 7) (h_x2 : 9 ≤ Int32.toInt x2 ∧ Int32.toInt x2 ≤ 913) (e0_m_now : ∀ k : Nat, k = 17 → -1 ≤ Int32.toInt (m_now k) ∧ Int32.toInt (m_now k) ≤ SB) (e1_m_now : ∀ k : Nat, k = 19 → 0 ≤ Int32.toInt (m_now k) ∧ Int32.toInt (m_now k) ≤ 9) (hx0 : Int32.toInt x1 ≤ SB) : ws_X10_goMove_50 post m_fruits m_foot m_fork m_told x1 x2 m_now := by
  have l0 : Int32.toInt (17 : Int32) = 17 := (by decide)
  have l1 : Int32.toInt (20 : Int32) = 20 := (by decide)
  have l2 : Int32.toInt (9999 : Int32) = 9999 := (by decide)
  refine t_X10_empty (by omega) e0_m_now e1_m_now (by omega) (fun r2 m_now_1 e0_m_now_1 e1_m_now_1 ox3 => ?_)
  have e4 : ∀ k : Nat, k = 17 → -1 ≤ Int32.toInt ((upd m_now_1 (17 : Int32).toNatClampNeg x1) k) ∧ Int32.toInt ((upd m_now_1 (17 : Int32).toNatClampNeg x1) k) ≤ SB := t_updc (C := fun k => k = 17) e0_m_now_1 (fun hk => by have e9 : (17 : Int32).toNatClampNeg = (Int32.toInt (17 : Int32)).toNat := rfl; have hk : (17 : Int32).toNatClampNeg = 17 := hk; omega)
  have e5 : ∀ k : Nat, k = 19 → 0 ≤ Int32.toInt ((upd m_now_1 (17 : Int32).toNatClampNeg x1) k) ∧ Int32.toInt ((upd m_now_1 (17 : Int32).toNatClampNeg x1) k) ≤ 9 := t_updc (C := fun k => k = 19) e1_m_now_1 (fun hk => by have e9 : (17 : Int32).toNatClampNeg = (Int32.toInt (17 : Int32)).toNat := rfl; have hk : (17 : Int32).toNatClampNeg = 19 := hk; omega)
  intro v6 ev6
  have hv6 := congrArg Int32.toInt ev6
  intro v8 ev8
  have hv8 := congrArg Int32.toInt ev8
  intro v10 ev10
  have f11 := tp_r (if v8 < 9999 then v8 else 9999)
  have f13 := tp_r v8
  have f12 := ti_min (9999 : Int32) v8
  have hv10 := congrArg Int32.toInt ev10
  have f15 := tp_r v10
  have e14 : ∀ k : Nat, k = 17 → -1 ≤ Int32.toInt ((upd (upd m_now_1 (17 : Int32).toNatClampNeg x1) (20 : Int32).toNatClampNeg v10) k) ∧ Int32.toInt ((upd (upd m_now_1 (17 : Int32).toNatClampNeg x1) (20 : Int32).toNatClampNeg v10) k) ≤ SB := t_updc (C := fun k => k = 17) e4 (fun hk => by have e9 : (20 : Int32).toNatClampNeg = (Int32.toInt (20 : Int32)).toNat := rfl; have hk : (20 : Int32).toNatClampNeg = 17 := hk; omega)
  have e16 : ∀ k : Nat, k = 19 → 0 ≤ Int32.toInt ((upd (upd m_now_1 (17 : Int32).toNatClampNeg x1) (20 : Int32).toNatClampNeg v10) k) ∧ Int32.toInt ((upd (upd m_now_1 (17 : Int32).toNatClampNeg x1) (20 : Int32).toNatClampNeg v10) k) ≤ 9 := t_updc (C := fun k => k = 19) e5 (fun hk => by have e9 : (20 : Int32).toNatClampNeg = (Int32.toInt (20 : Int32)).toNat := rfl; have hk : (20 : Int32).toNatClampNeg = 19 := hk; omega)
  exact hpost _ _ (by omega) e14 e16
set_option maxHeartbeats 8000000 in
set_option maxRecDepth 200000 in
theorem t_X10_goMove {post : Int32 → (Nat → Int32) → Prop} {SB : Int} {p0 : Int32} {m_fruits : Int32} {m_now : Nat → Int32} {m_foot : Nat → Int32} {m_fork : Nat → Int32} {m_told : Nat → Int32} (h_p0 : 0 ≤ Int32.toInt p0 ∧ Int32.toInt p0 ≤ 7) (h_m_fruits : 0 ≤ Int32.toInt m_fruits ∧ Int32.toInt m_fruits ≤ 16) (e0_m_now : ∀ k : Nat, k = 17 → -1 ≤ Int32.toInt (m_now k) ∧ Int32.toInt (m_now k) ≤ SB) (e1_m_now : ∀ k : Nat, k = 19 → 0 ≤ Int32.toInt (m_now k) ∧ Int32.toInt (m_now k) ≤ 9) (h_m_foot : ∀ k : Nat, 0 ≤ Int32.toInt (m_foot k) ∧ Int32.toInt (m_foot k) ≤ 99) (h_m_fork : ∀ k : Nat, 0 ≤ Int32.toInt (m_fork k) ∧ Int32.toInt (m_fork k) ≤ 99) (e0_m_told : ∀ k : Nat, k = 4 → 1 ≤ Int32.toInt (m_told k) ∧ Int32.toInt (m_told k) ≤ 30) (e1_m_told : ∀ k : Nat, k = 3 → 0 ≤ Int32.toInt (m_told k) ∧ Int32.toInt (m_told k) ≤ 9) (hc0 : -1 ≤ SB ∧ SB ≤ 7) (hx0 : Int32.toInt p0 ≤ SB) (hpost : ∀ (r : Int32) (m_now' : Nat → Int32), (9 ≤ Int32.toInt r ∧ Int32.toInt r ≤ 913) → (∀ k : Nat, k = 17 → -1 ≤ Int32.toInt (m_now' k) ∧ Int32.toInt (m_now' k) ≤ SB) → (∀ k : Nat, k = 19 → 0 ≤ Int32.toInt (m_now' k) ∧ Int32.toInt (m_now' k) ≤ 9) → post r m_now') : wp_X10_goMove post p0 m_fruits m_now m_foot m_fork m_told := by
  have l0 : Int32.toInt ((-1) : Int32) = -1 := (by decide)
  have l1 : Int32.toInt (0 : Int32) = 0 := (by decide)
  have l2 : Int32.toInt (1 : Int32) = 1 := (by decide)
  have l3 : Int32.toInt (10 : Int32) = 10 := (by decide)
  have l4 : Int32.toInt (17 : Int32) = 17 := (by decide)
  have l5 : Int32.toInt (3 : Int32) = 3 := (by decide)
  have l6 : Int32.toInt (9 : Int32) = 9 := (by decide)
  have q17 := e0_m_now (17 : Int32).toNatClampNeg (by have e9 : (17 : Int32).toNatClampNeg = (Int32.toInt (17 : Int32)).toNat := rfl; omega)
  intro v18 ev18
  have hv18 := congrArg Int32.toInt ev18
  refine t_X10_moveOf (by omega) (by omega) (fun k => by have q9 := h_m_foot k; omega) e0_m_told e1_m_told (by omega) (by omega) (fun r20 h_r20 ox21 => ?_)
  refine t_X10_which (by omega) (by omega) e0_m_now e1_m_now (by omega) (fun r22 h_r22 ox23 => ?_)
  refine And.intro (fun c24 => ?_) (fun c24 => ?_)
  · skip
    have c24 := (fa_eq _ _).mp c24
    exact ts_X10_goMove_50 m_fruits m_foot m_fork m_told h_m_fruits h_m_foot h_m_fork e0_m_told e1_m_told hc0 hpost p0 r20 m_now (by omega) (by omega) e0_m_now e1_m_now (by omega)
  · skip
    have c24 := mt (fa_eq _ _).mpr c24
    have q25 := e0_m_now (17 : Int32).toNatClampNeg (by have e9 : (17 : Int32).toNatClampNeg = (Int32.toInt (17 : Int32)).toNat := rfl; omega)
    intro v26 ev26
    have hv26 := congrArg Int32.toInt ev26
    refine And.intro (fun c27 => ?_) (fun c27 => ?_)
    · skip
      have c27 := (fa_eq _ _).mp c27
      exact ts_X10_goMove_50 m_fruits m_foot m_fork m_told h_m_fruits h_m_foot h_m_fork e0_m_told e1_m_told hc0 hpost p0 r20 m_now (by omega) (by omega) e0_m_now e1_m_now (by omega)
    · skip
      have c27 := mt (fa_eq _ _).mpr c27
      have q28 := e0_m_now (17 : Int32).toNatClampNeg (by have e9 : (17 : Int32).toNatClampNeg = (Int32.toInt (17 : Int32)).toNat := rfl; omega)
      intro v29 ev29
      have hv29 := congrArg Int32.toInt ev29
      refine And.intro (t_in (by omega)) ?_
      intro v30 ev30
      have f31 := h_m_fork v29.toNatClampNeg
      have hv30 := congrArg Int32.toInt ev30
      intro v32 ev32
      have f33 : Int32.toInt (v30 + 9) = Int32.toInt v30 + Int32.toInt (9 : Int32) := ta_add _ _ (by omega)
      rw [← ev32] at f33
      intro v34 ev34
      have f37 : Int32.toInt (v32 / 10) = Int32.toInt v32 / 10 := ti_div _ _ (by decide) (by omega) (by decide)
      have f36 : Int32.toInt (3 + (v32 / 10)) = Int32.toInt (3 : Int32) + Int32.toInt (v32 / 10) := ta_add _ _ (by omega)
      have f35 : Int32.toInt (r20 + (3 + (v32 / 10))) = Int32.toInt r20 + Int32.toInt (3 + (v32 / 10)) := ta_add _ _ (by omega)
      rw [← ev34] at f35
      exact ts_X10_goMove_50 m_fruits m_foot m_fork m_told h_m_fruits h_m_foot h_m_fork e0_m_told e1_m_told hc0 hpost p0 v34 m_now (by omega) (by omega) e0_m_now e1_m_now (by omega)
set_option maxHeartbeats 8000000 in
set_option maxRecDepth 200000 in
theorem t_X10_move {post : Int32 → Int32 → Int32 → (Nat → Int32) → (Nat → Int32) → Prop} {SB : Int} {p0 : Int32} {m_fruits : Int32} {m_standings : Int32} {m_thrown : Int32} {m_undoMany : Int32} {m_now : Nat → Int32} {m_foot : Nat → Int32} {m_fork : Nat → Int32} {m_told : Nat → Int32} {m_undos : Nat → Int32} (h_m_fruits : 0 ≤ Int32.toInt m_fruits ∧ Int32.toInt m_fruits ≤ 16) (h_m_standings : 0 ≤ Int32.toInt m_standings ∧ Int32.toInt m_standings ≤ 8) (h_m_thrown : 0 ≤ Int32.toInt m_thrown ∧ Int32.toInt m_thrown ≤ 1) (h_m_undoMany : 0 ≤ Int32.toInt m_undoMany ∧ Int32.toInt m_undoMany ≤ 12) (e0_m_now : ∀ k : Nat, k = 17 → -1 ≤ Int32.toInt (m_now k) ∧ Int32.toInt (m_now k) ≤ SB) (e1_m_now : ∀ k : Nat, k = 19 → 0 ≤ Int32.toInt (m_now k) ∧ Int32.toInt (m_now k) ≤ 9) (h_m_foot : ∀ k : Nat, 0 ≤ Int32.toInt (m_foot k) ∧ Int32.toInt (m_foot k) ≤ 99) (h_m_fork : ∀ k : Nat, 0 ≤ Int32.toInt (m_fork k) ∧ Int32.toInt (m_fork k) ≤ 99) (e0_m_told : ∀ k : Nat, k = 4 → 1 ≤ Int32.toInt (m_told k) ∧ Int32.toInt (m_told k) ≤ 30) (e1_m_told : ∀ k : Nat, k = 3 → 0 ≤ Int32.toInt (m_told k) ∧ Int32.toInt (m_told k) ≤ 9) (e0_m_undos : ∀ k : Nat, k % 21 = 17 → -1 ≤ Int32.toInt (m_undos k) ∧ Int32.toInt (m_undos k) ≤ SB) (e1_m_undos : ∀ k : Nat, k % 21 = 19 → 0 ≤ Int32.toInt (m_undos k) ∧ Int32.toInt (m_undos k) ≤ 9) (hc0 : -1 ≤ SB ∧ SB ≤ 7) (hc1 : (Int32.toInt m_standings ≤ 0 ∧ SB = 0) ∨ (1 ≤ Int32.toInt m_standings ∧ SB = Int32.toInt m_standings - 1)) (hpost : ∀ (r : Int32) (m_thrown' : Int32) (m_undoMany' : Int32) (m_now' : Nat → Int32) (m_undos' : Nat → Int32), (-2 ≤ Int32.toInt r ∧ Int32.toInt r ≤ 913) → (0 ≤ Int32.toInt m_thrown' ∧ Int32.toInt m_thrown' ≤ 0) → (0 ≤ Int32.toInt m_undoMany' ∧ Int32.toInt m_undoMany' ≤ 12) → (∀ k : Nat, k = 17 → -1 ≤ Int32.toInt (m_now' k) ∧ Int32.toInt (m_now' k) ≤ SB) → (∀ k : Nat, k = 19 → 0 ≤ Int32.toInt (m_now' k) ∧ Int32.toInt (m_now' k) ≤ 9) → (∀ k : Nat, k % 21 = 17 → -1 ≤ Int32.toInt (m_undos' k) ∧ Int32.toInt (m_undos' k) ≤ SB) → (∀ k : Nat, k % 21 = 19 → 0 ≤ Int32.toInt (m_undos' k) ∧ Int32.toInt (m_undos' k) ≤ 9) → post r m_thrown' m_undoMany' m_now' m_undos') : wp_X10_move post p0 m_fruits m_standings m_thrown m_undoMany m_now m_foot m_fork m_told m_undos := by
  have l0 : Int32.toInt ((-1) : Int32) = -1 := (by decide)
  have l1 : Int32.toInt ((-2) : Int32) = -2 := (by decide)
  have l2 : Int32.toInt (0 : Int32) = 0 := (by decide)
  have l3 : Int32.toInt (1 : Int32) = 1 := (by decide)
  have l4 : Int32.toInt (17 : Int32) = 17 := (by decide)
  intro v1 ev1
  have f2 : Int32.toInt (m_standings - 1) = Int32.toInt m_standings - Int32.toInt (1 : Int32) := ta_sub _ _ (by omega)
  rw [← ev1] at f2
  have f4 := tp_r p0
  refine And.intro (fun c3 => ?_) (fun c3 => ?_)
  · skip
    have c3 := (fa_lt _ _).mp c3
    refine And.intro (t_bool (by omega)) ?_
    refine And.intro (fun h9 => absurd h9 (by decide)) (fun _ => ?_)
    refine And.intro (fun h9 => absurd h9 (by decide)) (fun _ => ?_)
    exact hpost _ _ _ _ _ (by omega) (by omega) (by omega) e0_m_now e1_m_now e0_m_undos e1_m_undos
  · skip
    have c3 := mt (fa_lt _ _).mpr c3
    refine And.intro (fun c5 => ?_) (fun c5 => ?_)
    · skip
      have c5 := (fa_lt _ _).mp c5
      refine And.intro (t_bool (by omega)) ?_
      refine And.intro (fun h9 => absurd h9 (by decide)) (fun _ => ?_)
      refine And.intro (fun h9 => absurd h9 (by decide)) (fun _ => ?_)
      exact hpost _ _ _ _ _ (by omega) (by omega) (by omega) e0_m_now e1_m_now e0_m_undos e1_m_undos
    · skip
      have c5 := mt (fa_lt _ _).mpr c5
      refine And.intro (t_bool (by omega)) ?_
      refine And.intro (fun _ => ?_) (fun h9 => absurd h9 (by decide))
      have q6 := e0_m_now (17 : Int32).toNatClampNeg (by have e9 : (17 : Int32).toNatClampNeg = (Int32.toInt (17 : Int32)).toNat := rfl; omega)
      intro v7 ev7
      have hv7 := congrArg Int32.toInt ev7
      refine And.intro (fun c9 => ?_) (fun c9 => ?_)
      · skip
        have c9 := mt (fa_eq _ _).mpr c9
        refine And.intro (fun _ => ?_) (fun h9 => absurd h9 (by decide))
        refine t_X10_remember (by omega) e0_m_now e1_m_now e0_m_undos e1_m_undos (by omega) (fun m_undoMany_10 m_undos_11 h_m_undoMany_10 e0_m_undos_11 e1_m_undos_11 => ?_)
        refine t_X10_goMove (by omega) (by omega) e0_m_now e1_m_now (fun k => by have q9 := h_m_foot k; omega) (fun k => by have q9 := h_m_fork k; omega) e0_m_told e1_m_told (by omega) (by omega) (fun r13 m_now_12 h_r13 e0_m_now_12 e1_m_now_12 => ?_)
        exact hpost _ _ _ _ _ (by omega) (by omega) (by omega) e0_m_now_12 e1_m_now_12 e0_m_undos_11 e1_m_undos_11
      · skip
        have c9 := (fa_eq _ _).mp c9
        refine And.intro (fun h9 => absurd h9 (by decide)) (fun _ => ?_)
        exact hpost _ _ _ _ _ (by omega) (by omega) (by omega) e0_m_now e1_m_now e0_m_undos e1_m_undos
set_option maxHeartbeats 8000000 in
set_option maxRecDepth 200000 in
theorem t_X10_foot {post : Int32 → Int32 → Int32 → (Nat → Int32) → (Nat → Int32) → Prop} {SB : Int} {p0 : Int32} {m_thrown : Int32} {m_undoMany : Int32} {m_now : Nat → Int32} {m_undos : Nat → Int32} (h_m_thrown : 0 ≤ Int32.toInt m_thrown ∧ Int32.toInt m_thrown ≤ 1) (h_m_undoMany : 0 ≤ Int32.toInt m_undoMany ∧ Int32.toInt m_undoMany ≤ 12) (e0_m_now : ∀ k : Nat, k = 17 → -1 ≤ Int32.toInt (m_now k) ∧ Int32.toInt (m_now k) ≤ SB) (e1_m_now : ∀ k : Nat, k = 19 → 0 ≤ Int32.toInt (m_now k) ∧ Int32.toInt (m_now k) ≤ 9) (e0_m_undos : ∀ k : Nat, k % 21 = 17 → -1 ≤ Int32.toInt (m_undos k) ∧ Int32.toInt (m_undos k) ≤ SB) (e1_m_undos : ∀ k : Nat, k % 21 = 19 → 0 ≤ Int32.toInt (m_undos k) ∧ Int32.toInt (m_undos k) ≤ 9) (hc0 : -1 ≤ SB ∧ SB ≤ 7) (hpost : ∀ (r : Int32) (m_thrown' : Int32) (m_undoMany' : Int32) (m_now' : Nat → Int32) (m_undos' : Nat → Int32), (0 ≤ Int32.toInt m_thrown' ∧ Int32.toInt m_thrown' ≤ 0) → (0 ≤ Int32.toInt m_undoMany' ∧ Int32.toInt m_undoMany' ≤ 12) → (∀ k : Nat, k = 17 → -1 ≤ Int32.toInt (m_now' k) ∧ Int32.toInt (m_now' k) ≤ SB) → (∀ k : Nat, k = 19 → 0 ≤ Int32.toInt (m_now' k) ∧ Int32.toInt (m_now' k) ≤ 9) → (∀ k : Nat, k % 21 = 17 → -1 ≤ Int32.toInt (m_undos' k) ∧ Int32.toInt (m_undos' k) ≤ SB) → (∀ k : Nat, k % 21 = 19 → 0 ≤ Int32.toInt (m_undos' k) ∧ Int32.toInt (m_undos' k) ≤ 9) → post r m_thrown' m_undoMany' m_now' m_undos') : wp_X10_foot post p0 m_thrown m_undoMany m_now m_undos := by
  have l0 : Int32.toInt (0 : Int32) = 0 := (by decide)
  have l1 : Int32.toInt (1 : Int32) = 1 := (by decide)
  have l2 : Int32.toInt (18 : Int32) = 18 := (by decide)
  have f2 := tp_r p0
  refine And.intro (fun c1 => ?_) (fun c1 => ?_)
  · skip
    have c1 := (fa_lt _ _).mp c1
    refine And.intro (fun h9 => absurd h9 (by decide)) (fun _ => ?_)
    exact hpost _ _ _ _ _ (by omega) (by omega) e0_m_now e1_m_now e0_m_undos e1_m_undos
  · skip
    have c1 := mt (fa_lt _ _).mpr c1
    refine And.intro (fun c3 => ?_) (fun c3 => ?_)
    · skip
      have c3 := (fa_lt _ _).mp c3
      refine And.intro (fun h9 => absurd h9 (by decide)) (fun _ => ?_)
      exact hpost _ _ _ _ _ (by omega) (by omega) e0_m_now e1_m_now e0_m_undos e1_m_undos
    · skip
      have c3 := mt (fa_lt _ _).mpr c3
      refine And.intro (fun _ => ?_) (fun h9 => absurd h9 (by decide))
      refine t_X10_remember (by omega) e0_m_now e1_m_now e0_m_undos e1_m_undos (by omega) (fun m_undoMany_4 m_undos_5 h_m_undoMany_4 e0_m_undos_5 e1_m_undos_5 => ?_)
      intro v6 ev6
      have hv6 := congrArg Int32.toInt ev6
      have e8 : ∀ k : Nat, k = 17 → -1 ≤ Int32.toInt ((upd m_now (18 : Int32).toNatClampNeg p0) k) ∧ Int32.toInt ((upd m_now (18 : Int32).toNatClampNeg p0) k) ≤ SB := t_updc (C := fun k => k = 17) e0_m_now (fun hk => by have e9 : (18 : Int32).toNatClampNeg = (Int32.toInt (18 : Int32)).toNat := rfl; have hk : (18 : Int32).toNatClampNeg = 17 := hk; omega)
      have e9 : ∀ k : Nat, k = 19 → 0 ≤ Int32.toInt ((upd m_now (18 : Int32).toNatClampNeg p0) k) ∧ Int32.toInt ((upd m_now (18 : Int32).toNatClampNeg p0) k) ≤ 9 := t_updc (C := fun k => k = 19) e1_m_now (fun hk => by have e9 : (18 : Int32).toNatClampNeg = (Int32.toInt (18 : Int32)).toNat := rfl; have hk : (18 : Int32).toNatClampNeg = 19 := hk; omega)
      exact hpost _ _ _ _ _ (by omega) (by omega) e8 e9 e0_m_undos_5 e1_m_undos_5
set_option maxHeartbeats 8000000 in
set_option maxRecDepth 200000 in
theorem ts_X10_secondsOf_80 {post : Int32 → Nat → Int32 → Int32 → Int32 → Int32 → Int32 → Int32 → Int32 → Int32 → Int32 → Prop} (m_ruleSize : Int32) (m_x : Nat → Int32) (m_height : Nat → Int32) (m_worth : Nat → Int32) (m_foot : Nat → Int32) (m_fork : Nat → Int32) (m_text : Nat → Int32) (m_rule : Nat → Int32) (h_m_ruleSize : 0 ≤ Int32.toInt m_ruleSize ∧ Int32.toInt m_ruleSize ≤ 40) (h_m_x : ∀ k : Nat, 0 ≤ Int32.toInt (m_x k) ∧ Int32.toInt (m_x k) ≤ 99) (h_m_height : ∀ k : Nat, 0 ≤ Int32.toInt (m_height k) ∧ Int32.toInt (m_height k) ≤ 99) (h_m_worth : ∀ k : Nat, 0 ≤ Int32.toInt (m_worth k) ∧ Int32.toInt (m_worth k) ≤ 9) (h_m_foot : ∀ k : Nat, 0 ≤ Int32.toInt (m_foot k) ∧ Int32.toInt (m_foot k) ≤ 99) (h_m_fork : ∀ k : Nat, 0 ≤ Int32.toInt (m_fork k) ∧ Int32.toInt (m_fork k) ≤ 99) (h_m_text : ∀ k : Nat, -128 ≤ Int32.toInt (m_text k) ∧ Int32.toInt (m_text k) ≤ 127) (h_m_rule : ∀ k : Nat, -128 ≤ Int32.toInt (m_rule k) ∧ Int32.toInt (m_rule k) ≤ 127) (hpost : ∀ (r : Int32) (m_read' : Nat) (m_length' : Int32) (m_top' : Int32) (m_at' : Int32) (m_wrong' : Int32) (m_isAsked' : Int32) (m_askedFruit' : Int32) (m_askedStanding' : Int32) (m_askedHook' : Int32) (m_askedApron' : Int32), (1 ≤ Int32.toInt r ∧ Int32.toInt r ≤ 99) → (m_read' = 0 ∨ m_read' = 1 ∨ m_read' = 2) → (0 ≤ Int32.toInt m_length' ∧ Int32.toInt m_length' ≤ 80) → (0 ≤ Int32.toInt m_top' ∧ Int32.toInt m_top' ≤ 80) → (0 ≤ Int32.toInt m_at' ∧ Int32.toInt m_at' ≤ 80) → (-1 ≤ Int32.toInt m_wrong' ∧ Int32.toInt m_wrong' ≤ 80) → (0 ≤ Int32.toInt m_isAsked' ∧ Int32.toInt m_isAsked' ≤ 0) → (0 ≤ Int32.toInt m_askedFruit' ∧ Int32.toInt m_askedFruit' ≤ 15) → (0 ≤ Int32.toInt m_askedStanding' ∧ Int32.toInt m_askedStanding' ≤ 7) → (0 ≤ Int32.toInt m_askedHook' ∧ Int32.toInt m_askedHook' ≤ 1) → (0 ≤ Int32.toInt m_askedApron' ∧ Int32.toInt m_askedApron' ≤ 63) → post r m_read' m_length' m_top' m_at' m_wrong' m_isAsked' m_askedFruit' m_askedStanding' m_askedHook' m_askedApron') (x5 : Int32) (m_read : Nat) (m_length : Int32) (m_top : Int32) (m_at : Int32) (m_wrong : Int32) (m_isAsked : Int32) (m_askedFruit : Int32) (m_askedStanding : Int32) (m_askedHook : Int32) (m_askedApron : Int32) (h_m_read : m_read = 0 ∨ m_read = 1 ∨ m_read = 2) (h_m_length : 0 ≤ Int32.toInt m_length ∧ Int32.toInt m_length ≤ 80) (h_m_top : 0 ≤ Int32.toInt m_top ∧ Int32.toInt m_top ≤ 80) (h_m_at : 0 ≤ Int32.toInt m_at ∧ Int32.toInt m_at ≤ 80) (h_m_wrong : -1 ≤ Int32.toInt m_wrong ∧ Int32.toInt m_wrong ≤ 80) (h_m_isAsked : 0 ≤ Int32.toInt m_isAsked ∧ Int32.toInt m_isAsked ≤ 0) (h_m_askedFruit : 0 ≤ Int32.toInt m_askedFruit ∧ Int32.toInt m_askedFruit ≤ 15) (h_m_askedStanding : 0 ≤ Int32.toInt m_askedStanding ∧ Int32.toInt m_askedStanding ≤ 7) (h_m_askedHook : 0 ≤ Int32.toInt m_askedHook ∧ Int32.toInt m_askedHook ≤ 1) (h_m_askedApron : 0 ≤ Int32.toInt m_askedApron ∧ Int32.toInt m_askedApron ≤ 63) : ws_X10_secondsOf_80 post m_ruleSize m_x m_height m_worth m_foot m_fork m_text m_rule x5 m_read m_length m_top m_at m_wrong m_isAsked m_askedFruit m_askedStanding m_askedHook m_askedApron := by
  have l0 : Int32.toInt (1 : Int32) = 1 := (by decide)
  have l1 : Int32.toInt (99 : Int32) = 99 := (by decide)
  intro v1 ev1
  have f2 := tp_r (if x5 < 99 then x5 else 99)
  have f4 := tp_r x5
  have f3 := ti_min (99 : Int32) x5
  have hv1 := congrArg Int32.toInt ev1
  intro v5 ev5
  have f7 := tp_r v1
  have f6 := ti_max (1 : Int32) v1
  have hv5 := congrArg Int32.toInt ev5
  exact hpost _ _ _ _ _ _ _ _ _ _ _ (by omega) (by first | exact h_m_read | exact Or.inl rfl | exact Or.inr rfl | omega) (by omega) (by omega) (by omega) (by omega) (by omega) (by omega) (by omega) (by omega) (by omega)
set_option maxHeartbeats 8000000 in
set_option maxRecDepth 200000 in
theorem t_X10_secondsOf {post : Int32 → Nat → Int32 → Int32 → Int32 → Int32 → Int32 → Int32 → Int32 → Int32 → Int32 → Prop} {p0 : Int32} {p1 : Int32} {p2 : Int32} {p3 : Int32} {m_read : Nat} {m_length : Int32} {m_top : Int32} {m_at : Int32} {m_wrong : Int32} {m_ruleSize : Int32} {m_isAsked : Int32} {m_askedFruit : Int32} {m_askedStanding : Int32} {m_askedHook : Int32} {m_askedApron : Int32} {m_x : Nat → Int32} {m_height : Nat → Int32} {m_worth : Nat → Int32} {m_foot : Nat → Int32} {m_fork : Nat → Int32} {m_text : Nat → Int32} {m_rule : Nat → Int32} (h_p0 : 0 ≤ Int32.toInt p0 ∧ Int32.toInt p0 ≤ 15) (h_p1 : 0 ≤ Int32.toInt p1 ∧ Int32.toInt p1 ≤ 7) (h_p2 : 0 ≤ Int32.toInt p2 ∧ Int32.toInt p2 ≤ 1) (h_p3 : 0 ≤ Int32.toInt p3 ∧ Int32.toInt p3 ≤ 63) (h_m_read : m_read = 0 ∨ m_read = 1 ∨ m_read = 2) (h_m_length : 0 ≤ Int32.toInt m_length ∧ Int32.toInt m_length ≤ 80) (h_m_top : 0 ≤ Int32.toInt m_top ∧ Int32.toInt m_top ≤ 80) (h_m_at : 0 ≤ Int32.toInt m_at ∧ Int32.toInt m_at ≤ 80) (h_m_wrong : -1 ≤ Int32.toInt m_wrong ∧ Int32.toInt m_wrong ≤ 80) (h_m_ruleSize : 0 ≤ Int32.toInt m_ruleSize ∧ Int32.toInt m_ruleSize ≤ 40) (h_m_isAsked : 0 ≤ Int32.toInt m_isAsked ∧ Int32.toInt m_isAsked ≤ 0) (h_m_askedFruit : 0 ≤ Int32.toInt m_askedFruit ∧ Int32.toInt m_askedFruit ≤ 15) (h_m_askedStanding : 0 ≤ Int32.toInt m_askedStanding ∧ Int32.toInt m_askedStanding ≤ 7) (h_m_askedHook : 0 ≤ Int32.toInt m_askedHook ∧ Int32.toInt m_askedHook ≤ 1) (h_m_askedApron : 0 ≤ Int32.toInt m_askedApron ∧ Int32.toInt m_askedApron ≤ 63) (h_m_x : ∀ k : Nat, 0 ≤ Int32.toInt (m_x k) ∧ Int32.toInt (m_x k) ≤ 99) (h_m_height : ∀ k : Nat, 0 ≤ Int32.toInt (m_height k) ∧ Int32.toInt (m_height k) ≤ 99) (h_m_worth : ∀ k : Nat, 0 ≤ Int32.toInt (m_worth k) ∧ Int32.toInt (m_worth k) ≤ 9) (h_m_foot : ∀ k : Nat, 0 ≤ Int32.toInt (m_foot k) ∧ Int32.toInt (m_foot k) ≤ 99) (h_m_fork : ∀ k : Nat, 0 ≤ Int32.toInt (m_fork k) ∧ Int32.toInt (m_fork k) ≤ 99) (h_m_text : ∀ k : Nat, -128 ≤ Int32.toInt (m_text k) ∧ Int32.toInt (m_text k) ≤ 127) (h_m_rule : ∀ k : Nat, -128 ≤ Int32.toInt (m_rule k) ∧ Int32.toInt (m_rule k) ≤ 127) (hpost : ∀ (r : Int32) (m_read' : Nat) (m_length' : Int32) (m_top' : Int32) (m_at' : Int32) (m_wrong' : Int32) (m_isAsked' : Int32) (m_askedFruit' : Int32) (m_askedStanding' : Int32) (m_askedHook' : Int32) (m_askedApron' : Int32), (1 ≤ Int32.toInt r ∧ Int32.toInt r ≤ 99) → (m_read' = 0 ∨ m_read' = 1 ∨ m_read' = 2) → (0 ≤ Int32.toInt m_length' ∧ Int32.toInt m_length' ≤ 80) → (0 ≤ Int32.toInt m_top' ∧ Int32.toInt m_top' ≤ 80) → (0 ≤ Int32.toInt m_at' ∧ Int32.toInt m_at' ≤ 80) → (-1 ≤ Int32.toInt m_wrong' ∧ Int32.toInt m_wrong' ≤ 80) → (0 ≤ Int32.toInt m_isAsked' ∧ Int32.toInt m_isAsked' ≤ 0) → (0 ≤ Int32.toInt m_askedFruit' ∧ Int32.toInt m_askedFruit' ≤ 15) → (0 ≤ Int32.toInt m_askedStanding' ∧ Int32.toInt m_askedStanding' ≤ 7) → (0 ≤ Int32.toInt m_askedHook' ∧ Int32.toInt m_askedHook' ≤ 1) → (0 ≤ Int32.toInt m_askedApron' ∧ Int32.toInt m_askedApron' ≤ 63) → post r m_read' m_length' m_top' m_at' m_wrong' m_isAsked' m_askedFruit' m_askedStanding' m_askedHook' m_askedApron') : wp_X10_secondsOf post p0 p1 p2 p3 m_read m_length m_top m_at m_wrong m_ruleSize m_isAsked m_askedFruit m_askedStanding m_askedHook m_askedApron m_x m_height m_worth m_foot m_fork m_text m_rule := by
  have l0 : Int32.toInt ((-1) : Int32) = -1 := (by decide)
  have l1 : Int32.toInt (0 : Int32) = 0 := (by decide)
  have l2 : Int32.toInt (1 : Int32) = 1 := (by decide)
  have l3 : Int32.toInt (2 : Int32) = 2 := (by decide)
  have l4 : Int32.toInt (4 : Int32) = 4 := (by decide)
  have l5 : Int32.toInt (40 : Int32) = 40 := (by decide)
  refine And.intro (t_in (by omega)) ?_
  intro v8 ev8
  have f9 := h_m_x p0.toNatClampNeg
  have hv8 := congrArg Int32.toInt ev8
  refine And.intro (t_in (by omega)) ?_
  intro v10 ev10
  have f12 := h_m_foot p1.toNatClampNeg
  have f11 : Int32.toInt (v8 - (m_foot p1.toNatClampNeg)) = Int32.toInt v8 - Int32.toInt (m_foot p1.toNatClampNeg) := ta_sub _ _ (by omega)
  rw [← ev10] at f11
  intro v13 ev13
  have f14 := ti_abs v10 (by omega)
  have hv13 := congrArg Int32.toInt ev13
  intro v15 ev15
  have f17 : Int32.toInt (v13 / 4) = Int32.toInt v13 / 4 := ti_div _ _ (by decide) (by omega) (by decide)
  have f16 : Int32.toInt (2 + (v13 / 4)) = Int32.toInt (2 : Int32) + Int32.toInt (v13 / 4) := ta_add _ _ (by omega)
  rw [← ev15] at f16
  refine And.intro (t_in (by omega)) ?_
  intro v18 ev18
  have f19 := h_m_height p0.toNatClampNeg
  have hv18 := congrArg Int32.toInt ev18
  refine And.intro (t_in (by omega)) ?_
  intro v20 ev20
  have f22 := h_m_fork p1.toNatClampNeg
  have f21 : Int32.toInt (v18 - (m_fork p1.toNatClampNeg)) = Int32.toInt v18 - Int32.toInt (m_fork p1.toNatClampNeg) := ta_sub _ _ (by omega)
  rw [← ev20] at f21
  intro v23 ev23
  have f24 := ti_max (0 : Int32) v20
  have hv23 := congrArg Int32.toInt ev23
  intro v25 ev25
  have f27 : Int32.toInt (v23 / 2) = Int32.toInt v23 / 2 := ti_div _ _ (by decide) (by omega) (by decide)
  have f26 : Int32.toInt (v15 + (v23 / 2)) = Int32.toInt v15 + Int32.toInt (v23 / 2) := ta_add _ _ (by omega)
  rw [← ev25] at f26
  refine And.intro (fun c28 => ?_) (fun c28 => ?_)
  · skip
    have c28 := (fa_le _ _).mp c28
    exact ts_X10_secondsOf_80 m_ruleSize m_x m_height m_worth m_foot m_fork m_text m_rule h_m_ruleSize h_m_x h_m_height h_m_worth h_m_foot h_m_fork h_m_text h_m_rule hpost v25 m_read m_length m_top m_at m_wrong m_isAsked m_askedFruit m_askedStanding m_askedHook m_askedApron (by first | exact h_m_read | exact Or.inl rfl | exact Or.inr rfl | omega) (by omega) (by omega) (by omega) (by omega) (by omega) (by omega) (by omega) (by omega) (by omega)
  · skip
    have c28 := mt (fa_le _ _).mpr c28
    refine t_X10_heldR (by omega) (by first | exact Or.inl rfl | exact Or.inr rfl | rfl) (by omega) (by omega) (by omega) (by omega) (by omega) (by omega) (by omega) (by omega) (by omega) (fun k => by have q9 := h_m_x k; omega) (fun k => by have q9 := h_m_height k; omega) (fun k => by have q9 := h_m_worth k; omega) (fun k => by have q9 := h_m_foot k; omega) (fun k => by have q9 := h_m_fork k; omega) (fun k => by have q9 := h_m_text k; omega) (fun k => by have q9 := h_m_rule k; omega) (by omega) (by omega) (by omega) (fun r31 m_at_29 m_wrong_30 h_m_at_29 h_m_wrong_30 ox32 ox33 => ?_)
    have f34 := tp_r r31
    exact ts_X10_secondsOf_80 m_ruleSize m_x m_height m_worth m_foot m_fork m_text m_rule h_m_ruleSize h_m_x h_m_height h_m_worth h_m_foot h_m_fork h_m_text h_m_rule hpost r31 2 m_ruleSize 40 m_at_29 m_wrong_30 0 p0 p1 p2 p3 (by first | exact h_m_read | exact Or.inl rfl | exact Or.inr rfl | omega) (by omega) (by omega) (by omega) (by omega) (by omega) (by omega) (by omega) (by omega) (by omega)
set_option maxHeartbeats 8000000 in
set_option maxRecDepth 200000 in
theorem t_X10_pick {post : Int32 → Int32 → Nat → Int32 → Int32 → Int32 → Int32 → Int32 → Int32 → Int32 → Int32 → Int32 → Int32 → (Nat → Int32) → (Nat → Int32) → Prop} {SB : Int} {p0 : Int32} {p1 : Int32} {m_fruits : Int32} {m_thrown : Int32} {m_read : Nat} {m_length : Int32} {m_top : Int32} {m_at : Int32} {m_wrong : Int32} {m_ruleSize : Int32} {m_isAsked : Int32} {m_askedFruit : Int32} {m_askedStanding : Int32} {m_askedHook : Int32} {m_askedApron : Int32} {m_undoMany : Int32} {m_now : Nat → Int32} {m_x : Nat → Int32} {m_height : Nat → Int32} {m_worth : Nat → Int32} {m_ripe : Nat → Int32} {m_foot : Nat → Int32} {m_fork : Nat → Int32} {m_told : Nat → Int32} {m_text : Nat → Int32} {m_rule : Nat → Int32} {m_undos : Nat → Int32} (h_m_fruits : 0 ≤ Int32.toInt m_fruits ∧ Int32.toInt m_fruits ≤ 16) (h_m_thrown : 0 ≤ Int32.toInt m_thrown ∧ Int32.toInt m_thrown ≤ 1) (h_m_read : m_read = 0 ∨ m_read = 1 ∨ m_read = 2) (h_m_length : 0 ≤ Int32.toInt m_length ∧ Int32.toInt m_length ≤ 80) (h_m_top : 0 ≤ Int32.toInt m_top ∧ Int32.toInt m_top ≤ 80) (h_m_at : 0 ≤ Int32.toInt m_at ∧ Int32.toInt m_at ≤ 80) (h_m_wrong : -1 ≤ Int32.toInt m_wrong ∧ Int32.toInt m_wrong ≤ 80) (h_m_ruleSize : 0 ≤ Int32.toInt m_ruleSize ∧ Int32.toInt m_ruleSize ≤ 40) (h_m_isAsked : 0 ≤ Int32.toInt m_isAsked ∧ Int32.toInt m_isAsked ≤ 0) (h_m_askedFruit : 0 ≤ Int32.toInt m_askedFruit ∧ Int32.toInt m_askedFruit ≤ 15) (h_m_askedStanding : 0 ≤ Int32.toInt m_askedStanding ∧ Int32.toInt m_askedStanding ≤ 7) (h_m_askedHook : 0 ≤ Int32.toInt m_askedHook ∧ Int32.toInt m_askedHook ≤ 1) (h_m_askedApron : 0 ≤ Int32.toInt m_askedApron ∧ Int32.toInt m_askedApron ≤ 63) (h_m_undoMany : 0 ≤ Int32.toInt m_undoMany ∧ Int32.toInt m_undoMany ≤ 12) (e0_m_now : ∀ k : Nat, k = 17 → -1 ≤ Int32.toInt (m_now k) ∧ Int32.toInt (m_now k) ≤ SB) (e1_m_now : ∀ k : Nat, k = 19 → 0 ≤ Int32.toInt (m_now k) ∧ Int32.toInt (m_now k) ≤ 9) (h_m_x : ∀ k : Nat, 0 ≤ Int32.toInt (m_x k) ∧ Int32.toInt (m_x k) ≤ 99) (h_m_height : ∀ k : Nat, 0 ≤ Int32.toInt (m_height k) ∧ Int32.toInt (m_height k) ≤ 99) (h_m_worth : ∀ k : Nat, 0 ≤ Int32.toInt (m_worth k) ∧ Int32.toInt (m_worth k) ≤ 9) (h_m_ripe : ∀ k : Nat, 0 ≤ Int32.toInt (m_ripe k) ∧ Int32.toInt (m_ripe k) ≤ 9) (h_m_foot : ∀ k : Nat, 0 ≤ Int32.toInt (m_foot k) ∧ Int32.toInt (m_foot k) ≤ 99) (h_m_fork : ∀ k : Nat, 0 ≤ Int32.toInt (m_fork k) ∧ Int32.toInt (m_fork k) ≤ 99) (e0_m_told : ∀ k : Nat, k = 4 → 1 ≤ Int32.toInt (m_told k) ∧ Int32.toInt (m_told k) ≤ 30) (e1_m_told : ∀ k : Nat, k = 3 → 0 ≤ Int32.toInt (m_told k) ∧ Int32.toInt (m_told k) ≤ 9) (h_m_text : ∀ k : Nat, -128 ≤ Int32.toInt (m_text k) ∧ Int32.toInt (m_text k) ≤ 127) (h_m_rule : ∀ k : Nat, -128 ≤ Int32.toInt (m_rule k) ∧ Int32.toInt (m_rule k) ≤ 127) (e0_m_undos : ∀ k : Nat, k % 21 = 17 → -1 ≤ Int32.toInt (m_undos k) ∧ Int32.toInt (m_undos k) ≤ SB) (e1_m_undos : ∀ k : Nat, k % 21 = 19 → 0 ≤ Int32.toInt (m_undos k) ∧ Int32.toInt (m_undos k) ≤ 9) (hc0 : -1 ≤ SB ∧ SB ≤ 7) (hpost : ∀ (r : Int32) (m_thrown' : Int32) (m_read' : Nat) (m_length' : Int32) (m_top' : Int32) (m_at' : Int32) (m_wrong' : Int32) (m_isAsked' : Int32) (m_askedFruit' : Int32) (m_askedStanding' : Int32) (m_askedHook' : Int32) (m_askedApron' : Int32) (m_undoMany' : Int32) (m_now' : Nat → Int32) (m_undos' : Nat → Int32), (-5 ≤ Int32.toInt r ∧ Int32.toInt r ≤ 99) → (0 ≤ Int32.toInt m_thrown' ∧ Int32.toInt m_thrown' ≤ 0) → (m_read' = 0 ∨ m_read' = 1 ∨ m_read' = 2) → (0 ≤ Int32.toInt m_length' ∧ Int32.toInt m_length' ≤ 80) → (0 ≤ Int32.toInt m_top' ∧ Int32.toInt m_top' ≤ 80) → (0 ≤ Int32.toInt m_at' ∧ Int32.toInt m_at' ≤ 80) → (-1 ≤ Int32.toInt m_wrong' ∧ Int32.toInt m_wrong' ≤ 80) → (0 ≤ Int32.toInt m_isAsked' ∧ Int32.toInt m_isAsked' ≤ 0) → (0 ≤ Int32.toInt m_askedFruit' ∧ Int32.toInt m_askedFruit' ≤ 15) → (0 ≤ Int32.toInt m_askedStanding' ∧ Int32.toInt m_askedStanding' ≤ 7) → (0 ≤ Int32.toInt m_askedHook' ∧ Int32.toInt m_askedHook' ≤ 1) → (0 ≤ Int32.toInt m_askedApron' ∧ Int32.toInt m_askedApron' ≤ 63) → (0 ≤ Int32.toInt m_undoMany' ∧ Int32.toInt m_undoMany' ≤ 12) → (∀ k : Nat, k = 17 → -1 ≤ Int32.toInt (m_now' k) ∧ Int32.toInt (m_now' k) ≤ SB) → (∀ k : Nat, k = 19 → 0 ≤ Int32.toInt (m_now' k) ∧ Int32.toInt (m_now' k) ≤ 9) → (∀ k : Nat, k % 21 = 17 → -1 ≤ Int32.toInt (m_undos' k) ∧ Int32.toInt (m_undos' k) ≤ SB) → (∀ k : Nat, k % 21 = 19 → 0 ≤ Int32.toInt (m_undos' k) ∧ Int32.toInt (m_undos' k) ≤ 9) → post r m_thrown' m_read' m_length' m_top' m_at' m_wrong' m_isAsked' m_askedFruit' m_askedStanding' m_askedHook' m_askedApron' m_undoMany' m_now' m_undos') : wp_X10_pick post p0 p1 m_fruits m_thrown m_read m_length m_top m_at m_wrong m_ruleSize m_isAsked m_askedFruit m_askedStanding m_askedHook m_askedApron m_undoMany m_now m_x m_height m_worth m_ripe m_foot m_fork m_told m_text m_rule m_undos := by
  have l0 : Int32.toInt ((-1) : Int32) = -1 := (by decide)
  have l1 : Int32.toInt ((-2) : Int32) = -2 := (by decide)
  have l2 : Int32.toInt ((-3) : Int32) = -3 := (by decide)
  have l3 : Int32.toInt ((-4) : Int32) = -4 := (by decide)
  have l4 : Int32.toInt ((-5) : Int32) = -5 := (by decide)
  have l5 : Int32.toInt (0 : Int32) = 0 := (by decide)
  have l6 : Int32.toInt (1 : Int32) = 1 := (by decide)
  have l7 : Int32.toInt (1431655765 : Int32) = 1431655765 := (by decide)
  have l8 : Int32.toInt (16 : Int32) = 16 := (by decide)
  have l9 : Int32.toInt (17 : Int32) = 17 := (by decide)
  have l10 : Int32.toInt (18 : Int32) = 18 := (by decide)
  have l11 : Int32.toInt (19 : Int32) = 19 := (by decide)
  have l12 : Int32.toInt (2 : Int32) = 2 := (by decide)
  have l13 : Int32.toInt (20 : Int32) = 20 := (by decide)
  have l14 : Int32.toInt (252645135 : Int32) = 252645135 := (by decide)
  have l15 : Int32.toInt (4 : Int32) = 4 := (by decide)
  have l16 : Int32.toInt (63 : Int32) = 63 := (by decide)
  have l17 : Int32.toInt (858993459 : Int32) = 858993459 := (by decide)
  have l18 : Int32.toInt (9999 : Int32) = 9999 := (by decide)
  intro v1 ev1
  have f2 : Int32.toInt (m_fruits - 1) = Int32.toInt m_fruits - Int32.toInt (1 : Int32) := ta_sub _ _ (by omega)
  rw [← ev1] at f2
  have f4 := tp_r p0
  refine And.intro (fun c3 => ?_) (fun c3 => ?_)
  · skip
    have c3 := (fa_lt _ _).mp c3
    refine And.intro (t_bool (by omega)) ?_
    refine And.intro (fun _ => ?_) (fun h9 => absurd h9 (by decide))
    refine And.intro (fun h9 => absurd h9 (by decide)) (fun _ => ?_)
    exact hpost _ _ _ _ _ _ _ _ _ _ _ _ _ _ _ (by omega) (by omega) (by first | exact h_m_read | exact Or.inl rfl | exact Or.inr rfl | omega) (by omega) (by omega) (by omega) (by omega) (by omega) (by omega) (by omega) (by omega) (by omega) (by omega) e0_m_now e1_m_now e0_m_undos e1_m_undos
  · skip
    have c3 := mt (fa_lt _ _).mpr c3
    refine And.intro (fun c5 => ?_) (fun c5 => ?_)
    · skip
      have c5 := (fa_lt _ _).mp c5
      refine And.intro (t_bool (by omega)) ?_
      refine And.intro (fun _ => ?_) (fun h9 => absurd h9 (by decide))
      refine And.intro (fun h9 => absurd h9 (by decide)) (fun _ => ?_)
      exact hpost _ _ _ _ _ _ _ _ _ _ _ _ _ _ _ (by omega) (by omega) (by first | exact h_m_read | exact Or.inl rfl | exact Or.inr rfl | omega) (by omega) (by omega) (by omega) (by omega) (by omega) (by omega) (by omega) (by omega) (by omega) (by omega) e0_m_now e1_m_now e0_m_undos e1_m_undos
    · skip
      have c5 := mt (fa_lt _ _).mpr c5
      refine And.intro (t_bool (by omega)) ?_
      refine And.intro (fun h9 => absurd h9 (by decide)) (fun _ => ?_)
      have f7 := tp_r p1
      refine And.intro (fun c6 => ?_) (fun c6 => ?_)
      · skip
        have c6 := (fa_lt _ _).mp c6
        refine And.intro (fun h9 => absurd h9 (by decide)) (fun _ => ?_)
        refine And.intro (fun h9 => absurd h9 (by decide)) (fun _ => ?_)
        exact hpost _ _ _ _ _ _ _ _ _ _ _ _ _ _ _ (by omega) (by omega) (by first | exact h_m_read | exact Or.inl rfl | exact Or.inr rfl | omega) (by omega) (by omega) (by omega) (by omega) (by omega) (by omega) (by omega) (by omega) (by omega) (by omega) e0_m_now e1_m_now e0_m_undos e1_m_undos
      · skip
        have c6 := mt (fa_lt _ _).mpr c6
        refine And.intro (fun c8 => ?_) (fun c8 => ?_)
        · skip
          have c8 := (fa_lt _ _).mp c8
          refine And.intro (fun h9 => absurd h9 (by decide)) (fun _ => ?_)
          refine And.intro (fun h9 => absurd h9 (by decide)) (fun _ => ?_)
          exact hpost _ _ _ _ _ _ _ _ _ _ _ _ _ _ _ (by omega) (by omega) (by first | exact h_m_read | exact Or.inl rfl | exact Or.inr rfl | omega) (by omega) (by omega) (by omega) (by omega) (by omega) (by omega) (by omega) (by omega) (by omega) (by omega) e0_m_now e1_m_now e0_m_undos e1_m_undos
        · skip
          have c8 := mt (fa_lt _ _).mpr c8
          refine And.intro (fun _ => ?_) (fun h9 => absurd h9 (by decide))
          refine And.intro (t_in (by omega)) ?_
          refine And.intro (fun c9 => ?_) (fun c9 => ?_)
          · skip
            have c9 := (fa_eq _ _).mp c9
            refine And.intro (t_in (by omega)) ?_
            intro v11 ev11
            have f12 := h_m_ripe p0.toNatClampNeg
            have hv11 := congrArg Int32.toInt ev11
            have q13 := e1_m_now (19 : Int32).toNatClampNeg (by have e9 : (19 : Int32).toNatClampNeg = (Int32.toInt (19 : Int32)).toNat := rfl; omega)
            refine And.intro (fun c14 => ?_) (fun c14 => ?_)
            · skip
              have c14 := (fa_le _ _).mp c14
              have q16 := e0_m_now (17 : Int32).toNatClampNeg (by have e9 : (17 : Int32).toNatClampNeg = (Int32.toInt (17 : Int32)).toNat := rfl; omega)
              intro v17 ev17
              have hv17 := congrArg Int32.toInt ev17
              refine And.intro (fun c19 => ?_) (fun c19 => ?_)
              · skip
                have c19 := (fa_eq _ _).mp c19
                refine And.intro (fun h9 => absurd h9 (by decide)) (fun _ => ?_)
                exact hpost _ _ _ _ _ _ _ _ _ _ _ _ _ _ _ (by omega) (by omega) (by first | exact h_m_read | exact Or.inl rfl | exact Or.inr rfl | omega) (by omega) (by omega) (by omega) (by omega) (by omega) (by omega) (by omega) (by omega) (by omega) (by omega) e0_m_now e1_m_now e0_m_undos e1_m_undos
              · skip
                have c19 := mt (fa_eq _ _).mpr c19
                have q20 := e0_m_now (17 : Int32).toNatClampNeg (by have e9 : (17 : Int32).toNatClampNeg = (Int32.toInt (17 : Int32)).toNat := rfl; omega)
                intro v21 ev21
                have hv21 := congrArg Int32.toInt ev21
                intro v22 ev22
                have hv22 := congrArg Int32.toInt ev22
                intro v24 ev24
                have hv24 := congrArg Int32.toInt ev24
                intro v26 ev26
                have hv26 := congrArg Int32.toInt ev26
                refine And.intro (t_in (by omega)) ?_
                intro v28 ev28
                have f29 := h_m_x p0.toNatClampNeg
                have hv28 := congrArg Int32.toInt ev28
                refine And.intro (t_in (by omega)) ?_
                intro v30 ev30
                have f32 := h_m_foot v21.toNatClampNeg
                have f31 : Int32.toInt (v28 - (m_foot v21.toNatClampNeg)) = Int32.toInt v28 - Int32.toInt (m_foot v21.toNatClampNeg) := ta_sub _ _ (by omega)
                rw [← ev30] at f31
                intro v33 ev33
                have f34 := ti_abs v30 (by omega)
                have hv33 := congrArg Int32.toInt ev33
                refine And.intro (t_in (by omega)) ?_
                intro v35 ev35
                have hv35 := congrArg Int32.toInt ev35
                refine And.intro (t_in (by omega)) ?_
                intro v36 ev36
                have f37 : Int32.toInt (v35 - (m_foot v21.toNatClampNeg)) = Int32.toInt v35 - Int32.toInt (m_foot v21.toNatClampNeg) := ta_sub _ _ (by omega)
                rw [← ev36] at f37
                intro v38 ev38
                have f39 := ti_abs v36 (by omega)
                have hv38 := congrArg Int32.toInt ev38
                intro v40 ev40
                have hv40 := congrArg Int32.toInt ev40
                refine And.intro (t_in (by omega)) ?_
                intro v42 ev42
                have f43 := h_m_height p0.toNatClampNeg
                have hv42 := congrArg Int32.toInt ev42
                refine And.intro (t_in (by omega)) ?_
                intro v44 ev44
                have f46 := h_m_fork v21.toNatClampNeg
                have f45 : Int32.toInt (v42 - (m_fork v21.toNatClampNeg)) = Int32.toInt v42 - Int32.toInt (m_fork v21.toNatClampNeg) := ta_sub _ _ (by omega)
                rw [← ev44] at f45
                intro v47 ev47
                have f48 := ti_max (0 : Int32) v44
                have hv47 := congrArg Int32.toInt ev47
                refine And.intro (t_in (by omega)) ?_
                intro v49 ev49
                have hv49 := congrArg Int32.toInt ev49
                refine And.intro (t_in (by omega)) ?_
                intro v50 ev50
                have f51 : Int32.toInt (v49 - (m_fork v21.toNatClampNeg)) = Int32.toInt v49 - Int32.toInt (m_fork v21.toNatClampNeg) := ta_sub _ _ (by omega)
                rw [← ev50] at f51
                intro v52 ev52
                have f53 := ti_max (0 : Int32) v50
                have hv52 := congrArg Int32.toInt ev52
                intro v54 ev54
                have hv54 := congrArg Int32.toInt ev54
                have f57 := tp_r v54
                refine And.intro (fun c56 => ?_) (fun c56 => ?_)
                · skip
                  have c56 := (fa_lt _ _).mp c56
                  refine And.intro (fun h9 => absurd h9 (by decide)) (fun _ => ?_)
                  refine And.intro (fun h9 => absurd h9 (by decide)) (fun _ => ?_)
                  exact hpost _ _ _ _ _ _ _ _ _ _ _ _ _ _ _ (by omega) (by omega) (by first | exact h_m_read | exact Or.inl rfl | exact Or.inr rfl | omega) (by omega) (by omega) (by omega) (by omega) (by omega) (by omega) (by omega) (by omega) (by omega) (by omega) e0_m_now e1_m_now e0_m_undos e1_m_undos
                · skip
                  have c56 := mt (fa_lt _ _).mpr c56
                  refine And.intro (fun _ => ?_) (fun h9 => absurd h9 (by decide))
                  refine t_X10_which (by omega) (by omega) e0_m_now e1_m_now (by omega) (fun r59 h_r59 ox60 => ?_)
                  intro v61 ev61
                  intro v62 ev62
                  have f64 := ti_andr v61 1431655765 (by omega)
                  have f63 : Int32.toInt (r59 - (v61 &&& 1431655765)) = Int32.toInt r59 - Int32.toInt (v61 &&& 1431655765) := ta_sub _ _ (by omega)
                  rw [← ev62] at f63
                  intro v65 ev65
                  have f66 := ti_andr v62 858993459 (by omega)
                  have hv65 := congrArg Int32.toInt ev65
                  intro v67 ev67
                  intro v68 ev68
                  have f70 := ti_andr v67 858993459 (by omega)
                  have f69 : Int32.toInt (v65 + (v67 &&& 858993459)) = Int32.toInt v65 + Int32.toInt (v67 &&& 858993459) := ta_add _ _ (by omega)
                  rw [← ev68] at f69
                  intro v71 ev71
                  have hv71 := congrArg Int32.toInt ev71
                  intro v73 ev73
                  have f74 := ti_andr v71 252645135 (by omega)
                  have hv73 := congrArg Int32.toInt ev73
                  intro v75 ev75
                  have hv75 := congrArg Int32.toInt ev75
                  intro v77 ev77
                  have hv77 := congrArg Int32.toInt ev77
                  have q79 := e0_m_told (4 : Int32).toNatClampNeg (by have e9 : (4 : Int32).toNatClampNeg = (Int32.toInt (4 : Int32)).toNat := rfl; omega)
                  have f81 := ti_andr v77 63 (by omega)
                  refine And.intro (fun c80 => ?_) (fun c80 => ?_)
                  · skip
                    have c80 := (fa_lt _ _).mp c80
                    refine And.intro (fun _ => ?_) (fun h9 => absurd h9 (by decide))
                    refine t_X10_remember (by omega) e0_m_now e1_m_now e0_m_undos e1_m_undos (by omega) (fun m_undoMany_83 m_undos_84 h_m_undoMany_83 e0_m_undos_84 e1_m_undos_84 => ?_)
                    have q85 := e0_m_now (17 : Int32).toNatClampNeg (by have e9 : (17 : Int32).toNatClampNeg = (Int32.toInt (17 : Int32)).toNat := rfl; omega)
                    intro v86 ev86
                    have hv86 := congrArg Int32.toInt ev86
                    refine t_X10_which (by omega) (by omega) e0_m_now e1_m_now (by omega) (fun r87 h_r87 ox88 => ?_)
                    intro v89 ev89
                    intro v90 ev90
                    have f92 := ti_andr v89 1431655765 (by omega)
                    have f91 : Int32.toInt (r87 - (v89 &&& 1431655765)) = Int32.toInt r87 - Int32.toInt (v89 &&& 1431655765) := ta_sub _ _ (by omega)
                    rw [← ev90] at f91
                    intro v93 ev93
                    have f94 := ti_andr v90 858993459 (by omega)
                    have hv93 := congrArg Int32.toInt ev93
                    intro v95 ev95
                    intro v96 ev96
                    have f98 := ti_andr v95 858993459 (by omega)
                    have f97 : Int32.toInt (v93 + (v95 &&& 858993459)) = Int32.toInt v93 + Int32.toInt (v95 &&& 858993459) := ta_add _ _ (by omega)
                    rw [← ev96] at f97
                    intro v99 ev99
                    have hv99 := congrArg Int32.toInt ev99
                    intro v101 ev101
                    have f102 := ti_andr v99 252645135 (by omega)
                    have hv101 := congrArg Int32.toInt ev101
                    intro v103 ev103
                    have hv103 := congrArg Int32.toInt ev103
                    intro v105 ev105
                    have hv105 := congrArg Int32.toInt ev105
                    have f118 := ti_andr v105 63 (by omega)
                    refine t_X10_secondsOf (by omega) (by omega) (by omega) (by omega) (by first | exact h_m_read | exact Or.inl rfl | exact Or.inr rfl | omega) (by omega) (by omega) (by omega) (by omega) (by omega) (by omega) (by omega) (by omega) (by omega) (by omega) (fun k => by have q9 := h_m_x k; omega) (fun k => by have q9 := h_m_height k; omega) (fun k => by have q9 := h_m_worth k; omega) (fun k => by have q9 := h_m_foot k; omega) (fun k => by have q9 := h_m_fork k; omega) (fun k => by have q9 := h_m_text k; omega) (fun k => by have q9 := h_m_rule k; omega) (fun r117 m_read_107 m_length_108 m_top_109 m_at_110 m_wrong_111 m_isAsked_112 m_askedFruit_113 m_askedStanding_114 m_askedHook_115 m_askedApron_116 h_r117 h_m_read_107 h_m_length_108 h_m_top_109 h_m_at_110 h_m_wrong_111 h_m_isAsked_112 h_m_askedFruit_113 h_m_askedStanding_114 h_m_askedHook_115 h_m_askedApron_116 => ?_)
                    intro v119 ev119
                    have hv119 := congrArg Int32.toInt ev119
                    refine t_X10_which (by omega) (by omega) e0_m_now e1_m_now (by omega) (fun r121 h_r121 ox122 => ?_)
                    refine t_X10_below (by omega) (by omega) (by omega) (fun k => by have q9 := h_m_x k; omega) (fun k => by have q9 := h_m_height k; omega) (fun r123 h_r123 => ?_)
                    intro v124 ev124
                    have f126 := tp_r v124
                    have e125 : ∀ k : Nat, k = 17 → -1 ≤ Int32.toInt ((upd m_now (16 : Int32).toNatClampNeg v124) k) ∧ Int32.toInt ((upd m_now (16 : Int32).toNatClampNeg v124) k) ≤ SB := t_updc (C := fun k => k = 17) e0_m_now (fun hk => by have e9 : (16 : Int32).toNatClampNeg = (Int32.toInt (16 : Int32)).toNat := rfl; have hk : (16 : Int32).toNatClampNeg = 17 := hk; omega)
                    have e127 : ∀ k : Nat, k = 19 → 0 ≤ Int32.toInt ((upd m_now (16 : Int32).toNatClampNeg v124) k) ∧ Int32.toInt ((upd m_now (16 : Int32).toNatClampNeg v124) k) ≤ 9 := t_updc (C := fun k => k = 19) e1_m_now (fun hk => by have e9 : (16 : Int32).toNatClampNeg = (Int32.toInt (16 : Int32)).toNat := rfl; have hk : (16 : Int32).toNatClampNeg = 19 := hk; omega)
                    refine And.intro (t_in (by omega)) ?_
                    have e128 : ∀ k : Nat, k = 17 → -1 ≤ Int32.toInt ((upd (upd m_now (16 : Int32).toNatClampNeg v124) p0.toNatClampNeg 1) k) ∧ Int32.toInt ((upd (upd m_now (16 : Int32).toNatClampNeg v124) p0.toNatClampNeg 1) k) ≤ SB := t_updc (C := fun k => k = 17) e125 (fun hk => by have e9 : p0.toNatClampNeg = (Int32.toInt p0).toNat := rfl; have hk : p0.toNatClampNeg = 17 := hk; omega)
                    have e129 : ∀ k : Nat, k = 19 → 0 ≤ Int32.toInt ((upd (upd m_now (16 : Int32).toNatClampNeg v124) p0.toNatClampNeg 1) k) ∧ Int32.toInt ((upd (upd m_now (16 : Int32).toNatClampNeg v124) p0.toNatClampNeg 1) k) ≤ 9 := t_updc (C := fun k => k = 19) e127 (fun hk => by have e9 : p0.toNatClampNeg = (Int32.toInt p0).toNat := rfl; have hk : p0.toNatClampNeg = 19 := hk; omega)
                    intro v130 ev130
                    have hv130 := congrArg Int32.toInt ev130
                    intro v132 ev132
                    have hv132 := congrArg Int32.toInt ev132
                    intro v134 ev134
                    have f135 := tp_r (if v132 < 9999 then v132 else 9999)
                    have f137 := tp_r v132
                    have f136 := ti_min (9999 : Int32) v132
                    have hv134 := congrArg Int32.toInt ev134
                    have f139 := tp_r v134
                    have e138 : ∀ k : Nat, k = 17 → -1 ≤ Int32.toInt ((upd (upd (upd m_now (16 : Int32).toNatClampNeg v124) p0.toNatClampNeg 1) (20 : Int32).toNatClampNeg v134) k) ∧ Int32.toInt ((upd (upd (upd m_now (16 : Int32).toNatClampNeg v124) p0.toNatClampNeg 1) (20 : Int32).toNatClampNeg v134) k) ≤ SB := t_updc (C := fun k => k = 17) e128 (fun hk => by have e9 : (20 : Int32).toNatClampNeg = (Int32.toInt (20 : Int32)).toNat := rfl; have hk : (20 : Int32).toNatClampNeg = 17 := hk; omega)
                    have e140 : ∀ k : Nat, k = 19 → 0 ≤ Int32.toInt ((upd (upd (upd m_now (16 : Int32).toNatClampNeg v124) p0.toNatClampNeg 1) (20 : Int32).toNatClampNeg v134) k) ∧ Int32.toInt ((upd (upd (upd m_now (16 : Int32).toNatClampNeg v124) p0.toNatClampNeg 1) (20 : Int32).toNatClampNeg v134) k) ≤ 9 := t_updc (C := fun k => k = 19) e129 (fun hk => by have e9 : (20 : Int32).toNatClampNeg = (Int32.toInt (20 : Int32)).toNat := rfl; have hk : (20 : Int32).toNatClampNeg = 19 := hk; omega)
                    exact hpost _ _ _ _ _ _ _ _ _ _ _ _ _ _ _ (by omega) (by omega) (by first | exact h_m_read | exact Or.inl rfl | exact Or.inr rfl | omega) (by omega) (by omega) (by omega) (by omega) (by omega) (by omega) (by omega) (by omega) (by omega) (by omega) e138 e140 e0_m_undos_84 e1_m_undos_84
                  · skip
                    have c80 := mt (fa_lt _ _).mpr c80
                    refine And.intro (fun h9 => absurd h9 (by decide)) (fun _ => ?_)
                    exact hpost _ _ _ _ _ _ _ _ _ _ _ _ _ _ _ (by omega) (by omega) (by first | exact h_m_read | exact Or.inl rfl | exact Or.inr rfl | omega) (by omega) (by omega) (by omega) (by omega) (by omega) (by omega) (by omega) (by omega) (by omega) (by omega) e0_m_now e1_m_now e0_m_undos e1_m_undos
            · skip
              have c14 := mt (fa_le _ _).mpr c14
              refine And.intro (fun h9 => absurd h9 (by decide)) (fun _ => ?_)
              exact hpost _ _ _ _ _ _ _ _ _ _ _ _ _ _ _ (by omega) (by omega) (by first | exact h_m_read | exact Or.inl rfl | exact Or.inr rfl | omega) (by omega) (by omega) (by omega) (by omega) (by omega) (by omega) (by omega) (by omega) (by omega) (by omega) e0_m_now e1_m_now e0_m_undos e1_m_undos
          · skip
            have c9 := mt (fa_eq _ _).mpr c9
            refine And.intro (fun h9 => absurd h9 (by decide)) (fun _ => ?_)
            exact hpost _ _ _ _ _ _ _ _ _ _ _ _ _ _ _ (by omega) (by omega) (by first | exact h_m_read | exact Or.inl rfl | exact Or.inr rfl | omega) (by omega) (by omega) (by omega) (by omega) (by omega) (by omega) (by omega) (by omega) (by omega) (by omega) e0_m_now e1_m_now e0_m_undos e1_m_undos
