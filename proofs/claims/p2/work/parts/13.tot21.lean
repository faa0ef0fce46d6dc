set_option maxHeartbeats 8000000 in
set_option maxRecDepth 200000 in
theorem ts_X10_lay_b4_2 {post : (Nat → Int32) → Prop} {next : Int32 → Int32 → (Nat → Int32) → Prop} {n2 : Int} (m_now : Nat → Int32) (e0_m_now : ∀ k : Nat, k = 17 → -1 ≤ Int32.toInt (m_now k) ∧ Int32.toInt (m_now k) ≤ 7) (e1_m_now : ∀ k : Nat, k = 19 → 0 ≤ Int32.toInt (m_now k) ∧ Int32.toInt (m_now k) ≤ 9) (hpost : ∀ (m_kept' : Nat → Int32), (∀ k : Nat, k % 21 = 17 → -1 ≤ Int32.toInt (m_kept' k) ∧ Int32.toInt (m_kept' k) ≤ 7) → (∀ k : Nat, k % 21 = 19 → 0 ≤ Int32.toInt (m_kept' k) ∧ Int32.toInt (m_kept' k) ≤ 9) → post m_kept') (hKn : ∀ (x2 : Int32) (x3 : Int32) (m_kept : Nat → Int32), (0 ≤ Int32.toInt x2 ∧ Int32.toInt x2 ≤ 21) → (0 ≤ Int32.toInt x3 ∧ Int32.toInt x3 ≤ 21) → (∀ k : Nat, k % 21 = 17 → -1 ≤ Int32.toInt (m_kept k) ∧ Int32.toInt (m_kept k) ≤ 7) → (∀ k : Nat, k % 21 = 19 → 0 ≤ Int32.toInt (m_kept k) ∧ Int32.toInt (m_kept k) ≤ 9) → (Int32.toInt x2 % 21 = 0) → (21 - Int32.toInt x3 < n2) → next x2 x3 m_kept) (x2 : Int32) (x3 : Int32) (m_kept : Nat → Int32) (h_x2 : 0 ≤ Int32.toInt x2 ∧ Int32.toInt x2 ≤ 21) (h_x3 : 0 ≤ Int32.toInt x3 ∧ Int32.toInt x3 ≤ 21) (e0_m_kept : ∀ k : Nat, k % 21 = 17 → -1 ≤ Int32.toInt (m_kept k) ∧ Int32.toInt (m_kept k) ≤ 7) (e1_m_kept : ∀ k : Nat, k % 21 = 19 → 0 ≤ Int32.toInt (m_kept k) ∧ Int32.toInt (m_kept k) ≤ 9) (hx0 : Int32.toInt x2 % 21 = 0) (hn2 : 21 - Int32.toInt x3 ≤ n2) : ws_X10_lay_b4_2 post next m_now x2 x3 m_kept := by
  have l0 : Int32.toInt (1 : Int32) = 1 := (by decide)
  have l1 : Int32.toInt (21 : Int32) = 21 := (by decide)
  refine And.intro (fun c1 => ?_) (fun c1 => ?_)
  · skip
    have c1 := (fa_le _ _).mp c1
    exact hpost _ e0_m_kept e1_m_kept
  · skip
    have c1 := mt (fa_le _ _).mpr c1
    intro v2 ev2
    have f3 : Int32.toInt (x2 + x3) = Int32.toInt x2 + Int32.toInt x3 := ta_add _ _ (by omega)
    rw [← ev2] at f3
    refine And.intro (t_in (by omega)) ?_
    have q4 := e0_m_now x3.toNatClampNeg
    have q5 := e1_m_now x3.toNatClampNeg
    have q6 : x3.toNatClampNeg = (Int32.toInt x3).toNat := rfl
    intro v7 ev7
    have hv7 := congrArg Int32.toInt ev7
    refine And.intro (t_in (by omega)) ?_
    have f10 := tp_r v7
    have e9 : ∀ k : Nat, k % 21 = 17 → -1 ≤ Int32.toInt ((upd m_kept v2.toNatClampNeg v7) k) ∧ Int32.toInt ((upd m_kept v2.toNatClampNeg v7) k) ≤ 7 := t_updc (C := fun k => k % 21 = 17) e0_m_kept (fun hk => by have e9 : v2.toNatClampNeg = (Int32.toInt v2).toNat := rfl; have hk : v2.toNatClampNeg % 21 = 17 := hk; omega)
    have e11 : ∀ k : Nat, k % 21 = 19 → 0 ≤ Int32.toInt ((upd m_kept v2.toNatClampNeg v7) k) ∧ Int32.toInt ((upd m_kept v2.toNatClampNeg v7) k) ≤ 9 := t_updc (C := fun k => k % 21 = 19) e1_m_kept (fun hk => by have e9 : v2.toNatClampNeg = (Int32.toInt v2).toNat := rfl; have hk : v2.toNatClampNeg % 21 = 19 := hk; omega)
    intro v12 ev12
    have f13 : Int32.toInt (x3 + 1) = Int32.toInt x3 + Int32.toInt (1 : Int32) := ta_add _ _ (by omega)
    rw [← ev12] at f13
    exact hKn x2 v12 (upd m_kept v2.toNatClampNeg v7) (by omega) (by omega) e9 e11 (by omega) (by omega)
set_option maxHeartbeats 8000000 in
set_option maxRecDepth 200000 in
theorem tb_X10_lay_b4_2 {post : (Nat → Int32) → Prop} (m_now : Nat → Int32) (e0_m_now : ∀ k : Nat, k = 17 → -1 ≤ Int32.toInt (m_now k) ∧ Int32.toInt (m_now k) ≤ 7) (e1_m_now : ∀ k : Nat, k = 19 → 0 ≤ Int32.toInt (m_now k) ∧ Int32.toInt (m_now k) ≤ 9) (hpost : ∀ (m_kept' : Nat → Int32), (∀ k : Nat, k % 21 = 17 → -1 ≤ Int32.toInt (m_kept' k) ∧ Int32.toInt (m_kept' k) ≤ 7) → (∀ k : Nat, k % 21 = 19 → 0 ≤ Int32.toInt (m_kept' k) ∧ Int32.toInt (m_kept' k) ≤ 9) → post m_kept') : ∀ (n : Nat) (x2 : Int32) (x3 : Int32) (m_kept : Nat → Int32), (0 ≤ Int32.toInt x2 ∧ Int32.toInt x2 ≤ 21) → (0 ≤ Int32.toInt x3 ∧ Int32.toInt x3 ≤ 21) → (∀ k : Nat, k % 21 = 17 → -1 ≤ Int32.toInt (m_kept k) ∧ Int32.toInt (m_kept k) ≤ 7) → (∀ k : Nat, k % 21 = 19 → 0 ≤ Int32.toInt (m_kept k) ∧ Int32.toInt (m_kept k) ≤ 9) → (Int32.toInt x2 % 21 = 0) → (21 - Int32.toInt x3 < (n : Int)) → wb_X10_lay_b4_2 post m_now n x2 x3 m_kept := by
  intro n
  induction n with
  | zero =>
    intro x2 x3 m_kept h_x2 h_x3 e0_m_kept e1_m_kept hx0 hm
    exfalso; omega
  | succ n ih =>
    intro x2 x3 m_kept h_x2 h_x3 e0_m_kept e1_m_kept hx0 hm
    exact ts_X10_lay_b4_2 m_now e0_m_now e1_m_now hpost ih x2 x3 m_kept h_x2 h_x3 e0_m_kept e1_m_kept hx0 (by omega)
set_option maxHeartbeats 8000000 in
set_option maxRecDepth 200000 in
theorem t_X10_lay_b4 {post : (Nat → Int32) → Prop} {p2 : Int32} {m_now : Nat → Int32} {m_kept : Nat → Int32} (h_p2 : 0 ≤ Int32.toInt p2 ∧ Int32.toInt p2 ≤ 21) (e0_m_now : ∀ k : Nat, k = 17 → -1 ≤ Int32.toInt (m_now k) ∧ Int32.toInt (m_now k) ≤ 7) (e1_m_now : ∀ k : Nat, k = 19 → 0 ≤ Int32.toInt (m_now k) ∧ Int32.toInt (m_now k) ≤ 9) (e0_m_kept : ∀ k : Nat, k % 21 = 17 → -1 ≤ Int32.toInt (m_kept k) ∧ Int32.toInt (m_kept k) ≤ 7) (e1_m_kept : ∀ k : Nat, k % 21 = 19 → 0 ≤ Int32.toInt (m_kept k) ∧ Int32.toInt (m_kept k) ≤ 9) (hx0 : Int32.toInt p2 % 21 = 0) (hpost : ∀ (m_kept' : Nat → Int32), (∀ k : Nat, k % 21 = 17 → -1 ≤ Int32.toInt (m_kept' k) ∧ Int32.toInt (m_kept' k) ≤ 7) → (∀ k : Nat, k % 21 = 19 → 0 ≤ Int32.toInt (m_kept' k) ∧ Int32.toInt (m_kept' k) ≤ 9) → post m_kept') : wp_X10_lay_b4 post p2 m_now m_kept := by
  have l0 : Int32.toInt (0 : Int32) = 0 := (by decide)
  exact ⟨23, tb_X10_lay_b4_2 m_now e0_m_now e1_m_now hpost _ p2 0 m_kept (by omega) (by omega) e0_m_kept e1_m_kept (by omega) (by omega)⟩
set_option maxHeartbeats 8000000 in
set_option maxRecDepth 200000 in
theorem t_X10_keep {post : Int32 → Int32 → (Nat → Int32) → (Nat → Int32) → (Nat → Int32) → Prop} {p0 : Int32} {m_thrown : Int32} {m_came : Int32} {m_now : Nat → Int32} {m_kept : Nat → Int32} {m_isKept : Nat → Int32} {m_keptCame : Nat → Int32} (h_m_thrown : 0 ≤ Int32.toInt m_thrown ∧ Int32.toInt m_thrown ≤ 1) (e0_m_now : ∀ k : Nat, k = 17 → -1 ≤ Int32.toInt (m_now k) ∧ Int32.toInt (m_now k) ≤ 7) (e1_m_now : ∀ k : Nat, k = 19 → 0 ≤ Int32.toInt (m_now k) ∧ Int32.toInt (m_now k) ≤ 9) (e0_m_kept : ∀ k : Nat, k % 21 = 17 → -1 ≤ Int32.toInt (m_kept k) ∧ Int32.toInt (m_kept k) ≤ 7) (e1_m_kept : ∀ k : Nat, k % 21 = 19 → 0 ≤ Int32.toInt (m_kept k) ∧ Int32.toInt (m_kept k) ≤ 9) (h_m_isKept : ∀ k : Nat, 0 ≤ Int32.toInt (m_isKept k) ∧ Int32.toInt (m_isKept k) ≤ 1) (hpost : ∀ (r : Int32) (m_thrown' : Int32) (m_kept' : Nat → Int32) (m_isKept' : Nat → Int32) (m_keptCame' : Nat → Int32), (0 ≤ Int32.toInt r ∧ Int32.toInt r ≤ 1) → (0 ≤ Int32.toInt m_thrown' ∧ Int32.toInt m_thrown' ≤ 0) → (∀ k : Nat, k % 21 = 17 → -1 ≤ Int32.toInt (m_kept' k) ∧ Int32.toInt (m_kept' k) ≤ 7) → (∀ k : Nat, k % 21 = 19 → 0 ≤ Int32.toInt (m_kept' k) ∧ Int32.toInt (m_kept' k) ≤ 9) → (∀ k : Nat, 0 ≤ Int32.toInt (m_isKept' k) ∧ Int32.toInt (m_isKept' k) ≤ 1) → post r m_thrown' m_kept' m_isKept' m_keptCame') : wp_X10_keep post p0 m_thrown m_came m_now m_kept m_isKept m_keptCame := by
  have l0 : Int32.toInt (0 : Int32) = 0 := (by decide)
  have l1 : Int32.toInt (1 : Int32) = 1 := (by decide)
  have l2 : Int32.toInt (21 : Int32) = 21 := (by decide)
  have f2 := tp_r p0
  refine And.intro (fun c1 => ?_) (fun c1 => ?_)
  · skip
    have c1 := (fa_lt _ _).mp c1
    refine And.intro (fun h9 => absurd h9 (by decide)) (fun _ => ?_)
    exact hpost _ _ _ _ _ (by omega) (by omega) e0_m_kept e1_m_kept (fun k => by have q9 := h_m_isKept k; omega)
  · skip
    have c1 := mt (fa_lt _ _).mpr c1
    refine And.intro (fun c3 => ?_) (fun c3 => ?_)
    · skip
      have c3 := (fa_lt _ _).mp c3
      refine And.intro (fun h9 => absurd h9 (by decide)) (fun _ => ?_)
      exact hpost _ _ _ _ _ (by omega) (by omega) e0_m_kept e1_m_kept (fun k => by have q9 := h_m_isKept k; omega)
    · skip
      have c3 := mt (fa_lt _ _).mpr c3
      refine And.intro (fun _ => ?_) (fun h9 => absurd h9 (by decide))
      refine And.intro (t_in (by omega)) ?_
      have qa4 := ti_nar_boolean 1
      have a4 : ∀ k : Nat, 0 ≤ Int32.toInt ((upd m_isKept p0.toNatClampNeg (vp_nar .boolean 1)) k) ∧ Int32.toInt ((upd m_isKept p0.toNatClampNeg (vp_nar .boolean 1)) k) ≤ 1 := t_upd (fun k => by have q9 := h_m_isKept k; omega) (by omega)
      refine And.intro (t_in (by omega)) ?_
      intro v5 ev5
      have f6 : Int32.toInt (21 * p0) = Int32.toInt p0 * 21 := ta_cmul _ _ (by decide) (by omega)
      rw [← ev5] at f6
      refine t_X10_lay_b4 (by omega) e0_m_now e1_m_now e0_m_kept e1_m_kept (by omega) (fun m_kept_7 e0_m_kept_7 e1_m_kept_7 => ?_)
      exact hpost _ _ _ _ _ (by omega) (by omega) e0_m_kept_7 e1_m_kept_7 (fun k => by have q9 := a4 k; omega)
set_option maxHeartbeats 8000000 in
set_option maxRecDepth 200000 in
theorem ts_X10_again_40 {post : Int32 → Int32 → Int32 → (Nat → Int32) → Prop} {next : Int32 → Int32 → Int32 → Int32 → (Nat → Int32) → Prop} {n40 : Int} (m_came : Int32) (m_kept : Nat → Int32) (m_isKept : Nat → Int32) (m_keptCame : Nat → Int32) (e0_m_kept : ∀ k : Nat, k % 21 = 17 → -1 ≤ Int32.toInt (m_kept k) ∧ Int32.toInt (m_kept k) ≤ 7) (e1_m_kept : ∀ k : Nat, k % 21 = 19 → 0 ≤ Int32.toInt (m_kept k) ∧ Int32.toInt (m_kept k) ≤ 9) (h_m_isKept : ∀ k : Nat, 0 ≤ Int32.toInt (m_isKept k) ∧ Int32.toInt (m_isKept k) ≤ 1) (hpost : ∀ (r : Int32) (m_thrown' : Int32) (m_undoMany' : Int32) (m_now' : Nat → Int32), (0 ≤ Int32.toInt r ∧ Int32.toInt r ≤ 1) → (0 ≤ Int32.toInt m_thrown' ∧ Int32.toInt m_thrown' ≤ 0) → (0 ≤ Int32.toInt m_undoMany' ∧ Int32.toInt m_undoMany' ≤ 12) → (∀ k : Nat, k = 17 → -1 ≤ Int32.toInt (m_now' k) ∧ Int32.toInt (m_now' k) ≤ 7) → (∀ k : Nat, k = 19 → 0 ≤ Int32.toInt (m_now' k) ∧ Int32.toInt (m_now' k) ≤ 9) → post r m_thrown' m_undoMany' m_now') (hKn : ∀ (x1 : Int32) (x2 : Int32) (m_thrown : Int32) (m_undoMany : Int32) (m_now : Nat → Int32), (0 ≤ Int32.toInt x1 ∧ Int32.toInt x1 ≤ 1) → (0 ≤ Int32.toInt x2 ∧ Int32.toInt x2 ≤ 21) → (0 ≤ Int32.toInt m_thrown ∧ Int32.toInt m_thrown ≤ 0) → (0 ≤ Int32.toInt m_undoMany ∧ Int32.toInt m_undoMany ≤ 12) → (∀ k : Nat, k = 17 → -1 ≤ Int32.toInt (m_now k) ∧ Int32.toInt (m_now k) ≤ 7) → (∀ k : Nat, k = 19 → 0 ≤ Int32.toInt (m_now k) ∧ Int32.toInt (m_now k) ≤ 9) → (21 - Int32.toInt x2 < n40) → next x1 x2 m_thrown m_undoMany m_now) (x1 : Int32) (x2 : Int32) (m_thrown : Int32) (m_undoMany : Int32) (m_now : Nat → Int32) (h_x1 : 0 ≤ Int32.toInt x1 ∧ Int32.toInt x1 ≤ 1) (h_x2 : 0 ≤ Int32.toInt x2 ∧ Int32.toInt x2 ≤ 21) (h_m_thrown : 0 ≤ Int32.toInt m_thrown ∧ Int32.toInt m_thrown ≤ 0) (h_m_undoMany : 0 ≤ Int32.toInt m_undoMany ∧ Int32.toInt m_undoMany ≤ 12) (e0_m_now : ∀ k : Nat, k = 17 → -1 ≤ Int32.toInt (m_now k) ∧ Int32.toInt (m_now k) ≤ 7) (e1_m_now : ∀ k : Nat, k = 19 → 0 ≤ Int32.toInt (m_now k) ∧ Int32.toInt (m_now k) ≤ 9) (hn40 : 21 - Int32.toInt x2 ≤ n40) : ws_X10_again_40 post next m_came m_kept m_isKept m_keptCame x1 x2 m_thrown m_undoMany m_now := by
  have l0 : Int32.toInt (0 : Int32) = 0 := (by decide)
  have l1 : Int32.toInt (1 : Int32) = 1 := (by decide)
  have l2 : Int32.toInt (21 : Int32) = 21 := (by decide)
  refine And.intro (fun c1 => ?_) (fun c1 => ?_)
  · skip
    have c1 := (fa_le _ _).mp c1
    exact hpost _ _ _ _ (by omega) (by omega) (by omega) e0_m_now e1_m_now
  · skip
    have c1 := mt (fa_le _ _).mpr c1
    intro v2 ev2
    have f3 : Int32.toInt (21 * x1) = Int32.toInt x1 * 21 := ta_cmul _ _ (by decide) (by omega)
    rw [← ev2] at f3
    intro v4 ev4
    have f5 : Int32.toInt (v2 + x2) = Int32.toInt v2 + Int32.toInt x2 := ta_add _ _ (by omega)
    rw [← ev4] at f5
    refine And.intro (t_in (by omega)) ?_
    have q6 := e0_m_kept v4.toNatClampNeg
    have q7 := e1_m_kept v4.toNatClampNeg
    have q8 : v4.toNatClampNeg = (Int32.toInt v4).toNat := rfl
    intro v9 ev9
    have hv9 := congrArg Int32.toInt ev9
    refine And.intro (t_in (by omega)) ?_
    have f12 := tp_r v9
    have e11 : ∀ k : Nat, k = 17 → -1 ≤ Int32.toInt ((upd m_now x2.toNatClampNeg v9) k) ∧ Int32.toInt ((upd m_now x2.toNatClampNeg v9) k) ≤ 7 := t_updc (C := fun k => k = 17) e0_m_now (fun hk => by have e9 : x2.toNatClampNeg = (Int32.toInt x2).toNat := rfl; have hk : x2.toNatClampNeg = 17 := hk; omega)
    have e13 : ∀ k : Nat, k = 19 → 0 ≤ Int32.toInt ((upd m_now x2.toNatClampNeg v9) k) ∧ Int32.toInt ((upd m_now x2.toNatClampNeg v9) k) ≤ 9 := t_updc (C := fun k => k = 19) e1_m_now (fun hk => by have e9 : x2.toNatClampNeg = (Int32.toInt x2).toNat := rfl; have hk : x2.toNatClampNeg = 19 := hk; omega)
    intro v14 ev14
    have f15 : Int32.toInt (x2 + 1) = Int32.toInt x2 + Int32.toInt (1 : Int32) := ta_add _ _ (by omega)
    rw [← ev14] at f15
    exact hKn x1 v14 m_thrown m_undoMany (upd m_now x2.toNatClampNeg v9) (by omega) (by omega) (by omega) (by omega) e11 e13 (by omega)
set_option maxHeartbeats 8000000 in
set_option maxRecDepth 200000 in
theorem tb_X10_again_40 {post : Int32 → Int32 → Int32 → (Nat → Int32) → Prop} (m_came : Int32) (m_kept : Nat → Int32) (m_isKept : Nat → Int32) (m_keptCame : Nat → Int32) (e0_m_kept : ∀ k : Nat, k % 21 = 17 → -1 ≤ Int32.toInt (m_kept k) ∧ Int32.toInt (m_kept k) ≤ 7) (e1_m_kept : ∀ k : Nat, k % 21 = 19 → 0 ≤ Int32.toInt (m_kept k) ∧ Int32.toInt (m_kept k) ≤ 9) (h_m_isKept : ∀ k : Nat, 0 ≤ Int32.toInt (m_isKept k) ∧ Int32.toInt (m_isKept k) ≤ 1) (hpost : ∀ (r : Int32) (m_thrown' : Int32) (m_undoMany' : Int32) (m_now' : Nat → Int32), (0 ≤ Int32.toInt r ∧ Int32.toInt r ≤ 1) → (0 ≤ Int32.toInt m_thrown' ∧ Int32.toInt m_thrown' ≤ 0) → (0 ≤ Int32.toInt m_undoMany' ∧ Int32.toInt m_undoMany' ≤ 12) → (∀ k : Nat, k = 17 → -1 ≤ Int32.toInt (m_now' k) ∧ Int32.toInt (m_now' k) ≤ 7) → (∀ k : Nat, k = 19 → 0 ≤ Int32.toInt (m_now' k) ∧ Int32.toInt (m_now' k) ≤ 9) → post r m_thrown' m_undoMany' m_now') : ∀ (n : Nat) (x1 : Int32) (x2 : Int32) (m_thrown : Int32) (m_undoMany : Int32) (m_now : Nat → Int32), (0 ≤ Int32.toInt x1 ∧ Int32.toInt x1 ≤ 1) → (0 ≤ Int32.toInt x2 ∧ Int32.toInt x2 ≤ 21) → (0 ≤ Int32.toInt m_thrown ∧ Int32.toInt m_thrown ≤ 0) → (0 ≤ Int32.toInt m_undoMany ∧ Int32.toInt m_undoMany ≤ 12) → (∀ k : Nat, k = 17 → -1 ≤ Int32.toInt (m_now k) ∧ Int32.toInt (m_now k) ≤ 7) → (∀ k : Nat, k = 19 → 0 ≤ Int32.toInt (m_now k) ∧ Int32.toInt (m_now k) ≤ 9) → (21 - Int32.toInt x2 < (n : Int)) → wb_X10_again_40 post m_came m_kept m_isKept m_keptCame n x1 x2 m_thrown m_undoMany m_now := by
  intro n
  induction n with
  | zero =>
    intro x1 x2 m_thrown m_undoMany m_now h_x1 h_x2 h_m_thrown h_m_undoMany e0_m_now e1_m_now hm
    exfalso; omega
  | succ n ih =>
    intro x1 x2 m_thrown m_undoMany m_now h_x1 h_x2 h_m_thrown h_m_undoMany e0_m_now e1_m_now hm
    exact ts_X10_again_40 m_came m_kept m_isKept m_keptCame e0_m_kept e1_m_kept h_m_isKept hpost ih x1 x2 m_thrown m_undoMany m_now h_x1 h_x2 h_m_thrown h_m_undoMany e0_m_now e1_m_now (by omega)
set_option maxHeartbeats 8000000 in
set_option maxRecDepth 200000 in
theorem t_X10_again {post : Int32 → Int32 → Int32 → (Nat → Int32) → Prop} {p0 : Int32} {m_thrown : Int32} {m_undoMany : Int32} {m_came : Int32} {m_now : Nat → Int32} {m_kept : Nat → Int32} {m_isKept : Nat → Int32} {m_keptCame : Nat → Int32} (h_m_thrown : 0 ≤ Int32.toInt m_thrown ∧ Int32.toInt m_thrown ≤ 1) (h_m_undoMany : 0 ≤ Int32.toInt m_undoMany ∧ Int32.toInt m_undoMany ≤ 12) (e0_m_now : ∀ k : Nat, k = 17 → -1 ≤ Int32.toInt (m_now k) ∧ Int32.toInt (m_now k) ≤ 7) (e1_m_now : ∀ k : Nat, k = 19 → 0 ≤ Int32.toInt (m_now k) ∧ Int32.toInt (m_now k) ≤ 9) (e0_m_kept : ∀ k : Nat, k % 21 = 17 → -1 ≤ Int32.toInt (m_kept k) ∧ Int32.toInt (m_kept k) ≤ 7) (e1_m_kept : ∀ k : Nat, k % 21 = 19 → 0 ≤ Int32.toInt (m_kept k) ∧ Int32.toInt (m_kept k) ≤ 9) (h_m_isKept : ∀ k : Nat, 0 ≤ Int32.toInt (m_isKept k) ∧ Int32.toInt (m_isKept k) ≤ 1) (hpost : ∀ (r : Int32) (m_thrown' : Int32) (m_undoMany' : Int32) (m_now' : Nat → Int32), (0 ≤ Int32.toInt r ∧ Int32.toInt r ≤ 1) → (0 ≤ Int32.toInt m_thrown' ∧ Int32.toInt m_thrown' ≤ 0) → (0 ≤ Int32.toInt m_undoMany' ∧ Int32.toInt m_undoMany' ≤ 12) → (∀ k : Nat, k = 17 → -1 ≤ Int32.toInt (m_now' k) ∧ Int32.toInt (m_now' k) ≤ 7) → (∀ k : Nat, k = 19 → 0 ≤ Int32.toInt (m_now' k) ∧ Int32.toInt (m_now' k) ≤ 9) → post r m_thrown' m_undoMany' m_now') : wp_X10_again post p0 m_thrown m_undoMany m_came m_now m_kept m_isKept m_keptCame := by
  have l0 : Int32.toInt (0 : Int32) = 0 := (by decide)
  have l1 : Int32.toInt (1 : Int32) = 1 := (by decide)
  have f17 := tp_r p0
  refine And.intro (fun c16 => ?_) (fun c16 => ?_)
  · skip
    have c16 := (fa_lt _ _).mp c16
    refine And.intro (fun _ => ?_) (fun h9 => absurd h9 (by decide))
    exact hpost _ _ _ _ (by omega) (by omega) (by omega) e0_m_now e1_m_now
  · skip
    have c16 := mt (fa_lt _ _).mpr c16
    refine And.intro (fun c18 => ?_) (fun c18 => ?_)
    · skip
      have c18 := (fa_lt _ _).mp c18
      refine And.intro (fun _ => ?_) (fun h9 => absurd h9 (by decide))
      exact hpost _ _ _ _ (by omega) (by omega) (by omega) e0_m_now e1_m_now
    · skip
      have c18 := mt (fa_lt _ _).mpr c18
      refine And.intro (fun h9 => absurd h9 (by decide)) (fun _ => ?_)
      refine And.intro (t_in (by omega)) ?_
      have f20 := h_m_isKept p0.toNatClampNeg
      refine And.intro (fun c19 => ?_) (fun c19 => ?_)
      · skip
        have c19 := (fa_eq _ _).mp c19
        exact hpost _ _ _ _ (by omega) (by omega) (by omega) e0_m_now e1_m_now
      · skip
        have c19 := mt (fa_eq _ _).mpr c19
        refine And.intro (t_in (by omega)) ?_
        intro v21 ev21
        have hv21 := congrArg Int32.toInt ev21
        have f24 := tp_r v21
        have f25 := tp_r m_came
        refine And.intro (fun c23 => ?_) (fun c23 => ?_)
        · skip
          have c23 := (fa_eq _ _).mp c23
          exact ⟨23, tb_X10_again_40 m_came m_kept m_isKept m_keptCame e0_m_kept e1_m_kept h_m_isKept hpost _ p0 0 0 m_undoMany m_now (by omega) (by omega) (by omega) (by omega) e0_m_now e1_m_now (by omega)⟩
        · skip
          have c23 := mt (fa_eq _ _).mpr c23
          exact hpost _ _ _ _ (by omega) (by omega) (by omega) e0_m_now e1_m_now
set_option maxHeartbeats 8000000 in
set_option maxRecDepth 200000 in
theorem ts_X10_count_110 {post : Int32 → Int32 → Prop} (m_fruits : Int32) (m_standings : Int32) (m_typed : Int32) (m_rowMany : Int32) (m_undoMany : Int32) (m_now : Nat → Int32) (m_worth : Nat → Int32) (h_m_fruits : 0 ≤ Int32.toInt m_fruits ∧ Int32.toInt m_fruits ≤ 16) (h_m_standings : 0 ≤ Int32.toInt m_standings ∧ Int32.toInt m_standings ≤ 8) (h_m_typed : 0 ≤ Int32.toInt m_typed ∧ Int32.toInt m_typed ≤ 80) (h_m_rowMany : 0 ≤ Int32.toInt m_rowMany ∧ Int32.toInt m_rowMany ≤ 16) (h_m_undoMany : 0 ≤ Int32.toInt m_undoMany ∧ Int32.toInt m_undoMany ≤ 12) (e0_m_now : ∀ k : Nat, k = 17 → -1 ≤ Int32.toInt (m_now k) ∧ Int32.toInt (m_now k) ≤ 7) (e1_m_now : ∀ k : Nat, k = 19 → 0 ≤ Int32.toInt (m_now k) ∧ Int32.toInt (m_now k) ≤ 9) (h_m_worth : ∀ k : Nat, 0 ≤ Int32.toInt (m_worth k) ∧ Int32.toInt (m_worth k) ≤ 9) (hpost : ∀ (r : Int32) (m_thrown' : Int32), (0 ≤ Int32.toInt m_thrown' ∧ Int32.toInt m_thrown' ≤ 0) → post r m_thrown') (x1 : Int32) (m_thrown : Int32) (h_x1 : 5 ≤ Int32.toInt x1 ∧ Int32.toInt x1 ≤ 8) (h_m_thrown : 0 ≤ Int32.toInt m_thrown ∧ Int32.toInt m_thrown ≤ 0) : ws_X10_count_110 post m_fruits m_standings m_typed m_rowMany m_undoMany m_now m_worth x1 m_thrown := by
  have l0 : Int32.toInt (5 : Int32) = 5 := (by decide)
  intro v1 ev1
  have f2 : Int32.toInt (x1 - 5) = Int32.toInt x1 - Int32.toInt (5 : Int32) := ta_sub _ _ (by omega)
  rw [← ev1] at f2
  refine t_X10_which (by omega) (by omega) e0_m_now e1_m_now (fun r3 h_r3 ox4 => ?_)
  exact hpost _ _ (by omega)
set_option maxHeartbeats 8000000 in
set_option maxRecDepth 200000 in
theorem t_X10_count {post : Int32 → Int32 → Prop} {p0 : Int32} {m_fruits : Int32} {m_standings : Int32} {m_typed : Int32} {m_rowMany : Int32} {m_thrown : Int32} {m_undoMany : Int32} {m_now : Nat → Int32} {m_worth : Nat → Int32} (h_m_fruits : 0 ≤ Int32.toInt m_fruits ∧ Int32.toInt m_fruits ≤ 16) (h_m_standings : 0 ≤ Int32.toInt m_standings ∧ Int32.toInt m_standings ≤ 8) (h_m_typed : 0 ≤ Int32.toInt m_typed ∧ Int32.toInt m_typed ≤ 80) (h_m_rowMany : 0 ≤ Int32.toInt m_rowMany ∧ Int32.toInt m_rowMany ≤ 16) (h_m_thrown : 0 ≤ Int32.toInt m_thrown ∧ Int32.toInt m_thrown ≤ 1) (h_m_undoMany : 0 ≤ Int32.toInt m_undoMany ∧ Int32.toInt m_undoMany ≤ 12) (e0_m_now : ∀ k : Nat, k = 17 → -1 ≤ Int32.toInt (m_now k) ∧ Int32.toInt (m_now k) ≤ 7) (e1_m_now : ∀ k : Nat, k = 19 → 0 ≤ Int32.toInt (m_now k) ∧ Int32.toInt (m_now k) ≤ 9) (h_m_worth : ∀ k : Nat, 0 ≤ Int32.toInt (m_worth k) ∧ Int32.toInt (m_worth k) ≤ 9) (hpost : ∀ (r : Int32) (m_thrown' : Int32), (0 ≤ Int32.toInt m_thrown' ∧ Int32.toInt m_thrown' ≤ 0) → post r m_thrown') : wp_X10_count post p0 m_fruits m_standings m_typed m_rowMany m_thrown m_undoMany m_now m_worth := by
  have l0 : Int32.toInt (0 : Int32) = 0 := (by decide)
  have l1 : Int32.toInt (1 : Int32) = 1 := (by decide)
  have l2 : Int32.toInt (10 : Int32) = 10 := (by decide)
  have l3 : Int32.toInt (11 : Int32) = 11 := (by decide)
  have l4 : Int32.toInt (12 : Int32) = 12 := (by decide)
  have l5 : Int32.toInt (13 : Int32) = 13 := (by decide)
  have l6 : Int32.toInt (16 : Int32) = 16 := (by decide)
  have l7 : Int32.toInt (17 : Int32) = 17 := (by decide)
  have l8 : Int32.toInt (19 : Int32) = 19 := (by decide)
  have l9 : Int32.toInt (2 : Int32) = 2 := (by decide)
  have l10 : Int32.toInt (20 : Int32) = 20 := (by decide)
  have l11 : Int32.toInt (3 : Int32) = 3 := (by decide)
  have l12 : Int32.toInt (4 : Int32) = 4 := (by decide)
  have l13 : Int32.toInt (5 : Int32) = 5 := (by decide)
  have l14 : Int32.toInt (6 : Int32) = 6 := (by decide)
  have l15 : Int32.toInt (7 : Int32) = 7 := (by decide)
  have l16 : Int32.toInt (8 : Int32) = 8 := (by decide)
  have l17 : Int32.toInt (9 : Int32) = 9 := (by decide)
  have f5 := tp_r p0
  refine And.intro (fun c6 => ?_) ?_
  · skip
    have c6 := (fa_eq _ _).mp c6
    exact hpost _ _ (by omega)
  refine And.intro (fun c7 => ?_) ?_
  · skip
    have c7 := (fa_eq _ _).mp c7
    exact hpost _ _ (by omega)
  refine And.intro (fun c8 => ?_) ?_
  · skip
    have c8 := (fa_eq _ _).mp c8
    have q9 := e0_m_now (17 : Int32).toNatClampNeg (by have e9 : (17 : Int32).toNatClampNeg = (Int32.toInt (17 : Int32)).toNat := rfl; omega)
    exact hpost _ _ (by omega)
  refine And.intro (fun c10 => ?_) ?_
  · skip
    have c10 := (fa_eq _ _).mp c10
    have q11 := e1_m_now (19 : Int32).toNatClampNeg (by have e9 : (19 : Int32).toNatClampNeg = (Int32.toInt (19 : Int32)).toNat := rfl; omega)
    exact hpost _ _ (by omega)
  refine And.intro (fun c12 => ?_) ?_
  · skip
    have c12 := (fa_eq _ _).mp c12
    exact hpost _ _ (by omega)
  refine And.intro (fun c13 => ?_) ?_
  · skip
    have c13 := (fa_eq _ _).mp c13
    exact ts_X10_count_110 m_fruits m_standings m_typed m_rowMany m_undoMany m_now m_worth h_m_fruits h_m_standings h_m_typed h_m_rowMany h_m_undoMany e0_m_now e1_m_now h_m_worth hpost p0 0 (by omega) (by omega)
  refine And.intro (fun c14 => ?_) ?_
  · skip
    have c14 := (fa_eq _ _).mp c14
    exact ts_X10_count_110 m_fruits m_standings m_typed m_rowMany m_undoMany m_now m_worth h_m_fruits h_m_standings h_m_typed h_m_rowMany h_m_undoMany e0_m_now e1_m_now h_m_worth hpost p0 0 (by omega) (by omega)
  refine And.intro (fun c15 => ?_) ?_
  · skip
    have c15 := (fa_eq _ _).mp c15
    exact ts_X10_count_110 m_fruits m_standings m_typed m_rowMany m_undoMany m_now m_worth h_m_fruits h_m_standings h_m_typed h_m_rowMany h_m_undoMany e0_m_now e1_m_now h_m_worth hpost p0 0 (by omega) (by omega)
  refine And.intro (fun c16 => ?_) ?_
  · skip
    have c16 := (fa_eq _ _).mp c16
    exact ts_X10_count_110 m_fruits m_standings m_typed m_rowMany m_undoMany m_now m_worth h_m_fruits h_m_standings h_m_typed h_m_rowMany h_m_undoMany e0_m_now e1_m_now h_m_worth hpost p0 0 (by omega) (by omega)
  refine And.intro (fun c17 => ?_) ?_
  · skip
    have c17 := (fa_eq _ _).mp c17
    exact hpost _ _ (by omega)
  refine And.intro (fun c18 => ?_) ?_
  · skip
    have c18 := (fa_eq _ _).mp c18
    refine t_X10_which (by omega) (by omega) e0_m_now e1_m_now (fun r19 h_r19 ox20 => ?_)
    intro v21 ev21
    have hv21 := congrArg Int32.toInt ev21
    refine t_X10_worthOfAll (by omega) (by omega) (fun k => by have q9 := h_m_worth k; omega) (fun r23 => ?_)
    exact hpost _ _ (by omega)
  refine And.intro (fun c24 => ?_) ?_
  · skip
    have c24 := (fa_eq _ _).mp c24
    exact hpost _ _ (by omega)
  refine And.intro (fun c25 => ?_) ?_
  · skip
    have c25 := (fa_eq _ _).mp c25
    exact hpost _ _ (by omega)
  refine And.intro (fun c26 => ?_) ?_
  · skip
    have c26 := (fa_eq _ _).mp c26
    exact hpost _ _ (by omega)
  intro c27 c28 c29 c30 c31 c32 c33 c34 c35 c36 c37 c38 c39 c40
  have c27 := mt (fa_eq _ _).mpr c27
  have c28 := mt (fa_eq _ _).mpr c28
  have c29 := mt (fa_eq _ _).mpr c29
  have c30 := mt (fa_eq _ _).mpr c30
  have c31 := mt (fa_eq _ _).mpr c31
  have c32 := mt (fa_eq _ _).mpr c32
  have c33 := mt (fa_eq _ _).mpr c33
  have c34 := mt (fa_eq _ _).mpr c34
  have c35 := mt (fa_eq _ _).mpr c35
  have c36 := mt (fa_eq _ _).mpr c36
  have c37 := mt (fa_eq _ _).mpr c37
  have c38 := mt (fa_eq _ _).mpr c38
  have c39 := mt (fa_eq _ _).mpr c39
  have c40 := mt (fa_eq _ _).mpr c40
  exact hpost _ _ (by omega)
set_option maxHeartbeats 8000000 in
set_option maxRecDepth 200000 in
theorem t_X10_row {post : Int32 → Int32 → Prop} {p0 : Int32} {m_rowMany : Int32} {m_thrown : Int32} {m_row : Nat → Int32} (h_m_rowMany : 0 ≤ Int32.toInt m_rowMany ∧ Int32.toInt m_rowMany ≤ 16) (h_m_thrown : 0 ≤ Int32.toInt m_thrown ∧ Int32.toInt m_thrown ≤ 1) (hpost : ∀ (r : Int32) (m_thrown' : Int32), (0 ≤ Int32.toInt m_thrown' ∧ Int32.toInt m_thrown' ≤ 1) → post r m_thrown') : wp_X10_row post p0 m_rowMany m_thrown m_row := by
  have l0 : Int32.toInt (0 : Int32) = 0 := (by decide)
  have l1 : Int32.toInt (1 : Int32) = 1 := (by decide)
  intro v1 ev1
  have f2 : Int32.toInt (m_rowMany - 1) = Int32.toInt m_rowMany - Int32.toInt (1 : Int32) := ta_sub _ _ (by omega)
  rw [← ev1] at f2
  have f4 := tp_r p0
  refine And.intro (fun c3 => ?_) (fun c3 => ?_)
  · skip
    have c3 := (fa_lt _ _).mp c3
    refine And.intro (fun _ => ?_) (fun h9 => absurd h9 (by decide))
    exact hpost _ _ (by omega)
  · skip
    have c3 := mt (fa_lt _ _).mpr c3
    refine And.intro (fun c5 => ?_) (fun c5 => ?_)
    · skip
      have c5 := (fa_lt _ _).mp c5
      refine And.intro (fun _ => ?_) (fun h9 => absurd h9 (by decide))
      exact hpost _ _ (by omega)
    · skip
      have c5 := mt (fa_lt _ _).mpr c5
      refine And.intro (fun h9 => absurd h9 (by decide)) (fun _ => ?_)
      refine And.intro (t_in (by omega)) ?_
      intro v6 ev6
      have hv6 := congrArg Int32.toInt ev6
      exact hpost _ _ (by omega)
