set_option maxHeartbeats 8000000 in
set_option maxRecDepth 200000 in
theorem ts_X8_add_14 {post : Int32 → Int32 → (Nat → Int32) → Prop} {tx_length0 : Int32} {next : Int32 → Int32 → Int32 → (Nat → Int32) → Prop} {n14 : Int} (hpost : ∀ (r : Int32) (tx_length' : Int32) (tx_signs' : Nat → Int32), (-1 ≤ Int32.toInt r ∧ Int32.toInt r ≤ 80) → (0 ≤ Int32.toInt tx_length' ∧ Int32.toInt tx_length' ≤ 80) → (∀ k : Nat, 0 ≤ Int32.toInt (tx_signs' k) ∧ Int32.toInt (tx_signs' k) ≤ 65535) → ((76 < Int32.toInt tx_length0 ∧ Int32.toInt r = -1 ∧ Int32.toInt tx_length' = Int32.toInt tx_length0) ∨ (Int32.toInt tx_length0 ≤ 76 ∧ Int32.toInt r = Int32.toInt tx_length' ∧ Int32.toInt tx_length' = Int32.toInt tx_length0 + 4)) → post r tx_length' tx_signs') (hKn : ∀ (x1 : Int32) (x2 : Int32) (tx_length : Int32) (tx_signs : Nat → Int32), (-100 ≤ Int32.toInt x2 ∧ Int32.toInt x2 ≤ 24) → (0 ≤ Int32.toInt tx_length ∧ Int32.toInt tx_length ≤ 80) → (∀ k : Nat, 0 ≤ Int32.toInt (tx_signs k) ∧ Int32.toInt (tx_signs k) ≤ 65535) → (8 * Int32.toInt tx_length + Int32.toInt x2 = 8 * Int32.toInt tx_length0 + 24) → (Int32.toInt tx_length0 ≤ 76) → (-8 ≤ Int32.toInt x2) → (Int32.toInt x2 % 8 = 0) → (Int32.toInt x2 + 100 < n14) → next x1 x2 tx_length tx_signs) (x1 : Int32) (x2 : Int32) (tx_length : Int32) (tx_signs : Nat → Int32) (h_x2 : -100 ≤ Int32.toInt x2 ∧ Int32.toInt x2 ≤ 24) (h_tx_length : 0 ≤ Int32.toInt tx_length ∧ Int32.toInt tx_length ≤ 80) (h_tx_signs : ∀ k : Nat, 0 ≤ Int32.toInt (tx_signs k) ∧ Int32.toInt (tx_signs k) ≤ 65535) (hx0 : 8 * Int32.toInt tx_length + Int32.toInt x2 = 8 * Int32.toInt tx_length0 + 24) (hx1 : Int32.toInt tx_length0 ≤ 76) (hx2 : -8 ≤ Int32.toInt x2) (hx3 : Int32.toInt x2 % 8 = 0) (hn14 : Int32.toInt x2 + 100 ≤ n14) : ws_X8_add_14 post next x1 x2 tx_length tx_signs := by
  have l0 : Int32.toInt ((-8) : Int32) = -8 := (by decide)
  have l1 : Int32.toInt (0 : Int32) = 0 := (by decide)
  have l2 : Int32.toInt (1 : Int32) = 1 := (by decide)
  refine And.intro (fun c1 => ?_) (fun c1 => ?_)
  · skip
    have c1 := (fa_lt _ _).mp c1
    exact hpost _ _ _ (by omega) (by omega) (fun k => by have q9 := h_tx_signs k; omega) (by omega)
  · skip
    have c1 := mt (fa_lt _ _).mpr c1
    intro v2 ev2
    intro v3 ev3
    have hv3 := ti_i2c (v2 &&& 255)
    rw [← ev3] at hv3
    refine And.intro (t_in (by omega)) ?_
    have qa4 := ti_nar_char v3
    have a4 : ∀ k : Nat, 0 ≤ Int32.toInt ((upd tx_signs tx_length.toNatClampNeg (vp_nar .char v3)) k) ∧ Int32.toInt ((upd tx_signs tx_length.toNatClampNeg (vp_nar .char v3)) k) ≤ 65535 := t_upd (fun k => by have q9 := h_tx_signs k; omega) (by omega)
    intro v5 ev5
    have f6 : Int32.toInt (tx_length + 1) = Int32.toInt tx_length + Int32.toInt (1 : Int32) := ta_add _ _ (by omega)
    rw [← ev5] at f6
    intro v7 ev7
    have f8 : Int32.toInt (x2 + (-8)) = Int32.toInt x2 + Int32.toInt ((-8) : Int32) := ta_add _ _ (by omega)
    rw [← ev7] at f8
    have f9 := tp_r x1
    exact hKn x1 v7 v5 (upd tx_signs tx_length.toNatClampNeg (vp_nar .char v3)) (by omega) (by omega) (fun k => by have q9 := a4 k; omega) (by omega) (by omega) (by omega) (by omega) (by omega)
set_option maxHeartbeats 8000000 in
set_option maxRecDepth 200000 in
theorem tb_X8_add_14 {post : Int32 → Int32 → (Nat → Int32) → Prop} {tx_length0 : Int32} (hpost : ∀ (r : Int32) (tx_length' : Int32) (tx_signs' : Nat → Int32), (-1 ≤ Int32.toInt r ∧ Int32.toInt r ≤ 80) → (0 ≤ Int32.toInt tx_length' ∧ Int32.toInt tx_length' ≤ 80) → (∀ k : Nat, 0 ≤ Int32.toInt (tx_signs' k) ∧ Int32.toInt (tx_signs' k) ≤ 65535) → ((76 < Int32.toInt tx_length0 ∧ Int32.toInt r = -1 ∧ Int32.toInt tx_length' = Int32.toInt tx_length0) ∨ (Int32.toInt tx_length0 ≤ 76 ∧ Int32.toInt r = Int32.toInt tx_length' ∧ Int32.toInt tx_length' = Int32.toInt tx_length0 + 4)) → post r tx_length' tx_signs') : ∀ (n : Nat) (x1 : Int32) (x2 : Int32) (tx_length : Int32) (tx_signs : Nat → Int32), (-100 ≤ Int32.toInt x2 ∧ Int32.toInt x2 ≤ 24) → (0 ≤ Int32.toInt tx_length ∧ Int32.toInt tx_length ≤ 80) → (∀ k : Nat, 0 ≤ Int32.toInt (tx_signs k) ∧ Int32.toInt (tx_signs k) ≤ 65535) → (8 * Int32.toInt tx_length + Int32.toInt x2 = 8 * Int32.toInt tx_length0 + 24) → (Int32.toInt tx_length0 ≤ 76) → (-8 ≤ Int32.toInt x2) → (Int32.toInt x2 % 8 = 0) → (Int32.toInt x2 + 100 < (n : Int)) → wb_X8_add_14 post n x1 x2 tx_length tx_signs := by
  intro n
  induction n with
  | zero =>
    intro x1 x2 tx_length tx_signs h_x2 h_tx_length h_tx_signs hx0 hx1 hx2 hx3 hm
    exfalso; omega
  | succ n ih =>
    intro x1 x2 tx_length tx_signs h_x2 h_tx_length h_tx_signs hx0 hx1 hx2 hx3 hm
    exact ts_X8_add_14 hpost ih x1 x2 tx_length tx_signs h_x2 h_tx_length h_tx_signs hx0 hx1 hx2 hx3 (by omega)
set_option maxHeartbeats 8000000 in
set_option maxRecDepth 200000 in
theorem t_X8_add {post : Int32 → Int32 → (Nat → Int32) → Prop} {p0 : Int32} {tx_length : Int32} {tx_signs : Nat → Int32} (h_tx_length : 0 ≤ Int32.toInt tx_length ∧ Int32.toInt tx_length ≤ 80) (h_tx_signs : ∀ k : Nat, 0 ≤ Int32.toInt (tx_signs k) ∧ Int32.toInt (tx_signs k) ≤ 65535) (hpost : ∀ (r : Int32) (tx_length' : Int32) (tx_signs' : Nat → Int32), (-1 ≤ Int32.toInt r ∧ Int32.toInt r ≤ 80) → (0 ≤ Int32.toInt tx_length' ∧ Int32.toInt tx_length' ≤ 80) → (∀ k : Nat, 0 ≤ Int32.toInt (tx_signs' k) ∧ Int32.toInt (tx_signs' k) ≤ 65535) → ((76 < Int32.toInt tx_length ∧ Int32.toInt r = -1 ∧ Int32.toInt tx_length' = Int32.toInt tx_length) ∨ (Int32.toInt tx_length ≤ 76 ∧ Int32.toInt r = Int32.toInt tx_length' ∧ Int32.toInt tx_length' = Int32.toInt tx_length + 4)) → post r tx_length' tx_signs') : wp_X8_add post p0 tx_length tx_signs := by
  have l0 : Int32.toInt ((-1) : Int32) = -1 := (by decide)
  have l1 : Int32.toInt (24 : Int32) = 24 := (by decide)
  have l2 : Int32.toInt (76 : Int32) = 76 := (by decide)
  refine And.intro (fun c10 => ?_) (fun c10 => ?_)
  · skip
    have c10 := (fa_le _ _).mp c10
    have f11 := tp_r p0
    exact ⟨126, tb_X8_add_14 hpost _ p0 24 tx_length tx_signs (by omega) (by omega) (fun k => by have q9 := h_tx_signs k; omega) (by omega) (by omega) (by omega) (by omega) (by omega)⟩
  · skip
    have c10 := mt (fa_le _ _).mpr c10
    exact hpost _ _ _ (by omega) (by omega) (fun k => by have q9 := h_tx_signs k; omega) (by omega)
set_option maxHeartbeats 8000000 in
set_option maxRecDepth 200000 in
theorem t_X9_sign {post : Int32 → Int32 → (Nat → Int32) → Prop} {p0 : Int32} {tx_length : Int32} {tx_signs : Nat → Int32} (h_tx_length : 0 ≤ Int32.toInt tx_length ∧ Int32.toInt tx_length ≤ 80) (h_tx_signs : ∀ k : Nat, 0 ≤ Int32.toInt (tx_signs k) ∧ Int32.toInt (tx_signs k) ≤ 65535) (hpost : ∀ (r : Int32) (tx_length' : Int32) (tx_signs' : Nat → Int32), (-1 ≤ Int32.toInt r ∧ Int32.toInt r ≤ 80) → (0 ≤ Int32.toInt tx_length' ∧ Int32.toInt tx_length' ≤ 80) → (∀ k : Nat, 0 ≤ Int32.toInt (tx_signs' k) ∧ Int32.toInt (tx_signs' k) ≤ 65535) → ((76 < Int32.toInt tx_length ∧ Int32.toInt r = -1 ∧ Int32.toInt tx_length' = Int32.toInt tx_length) ∨ (Int32.toInt tx_length ≤ 76 ∧ Int32.toInt r = Int32.toInt tx_length' ∧ Int32.toInt tx_length' = Int32.toInt tx_length + 4)) → post r tx_length' tx_signs') : wp_X9_sign post p0 tx_length tx_signs := by
  refine t_X8_add (by omega) (fun k => by have q9 := h_tx_signs k; omega) (fun r3 tx_length_1 tx_signs_2 h_r3 h_tx_length_1 h_tx_signs_2 ox4 => ?_)
  exact hpost _ _ _ (by omega) (by omega) (fun k => by have q9 := h_tx_signs_2 k; omega) (by omega)
set_option maxHeartbeats 8000000 in
set_option maxRecDepth 200000 in
theorem t_X9_end {post : Int32 → Int32 → Prop} {p0 : Int32} {tx_length : Int32} (h_tx_length : 0 ≤ Int32.toInt tx_length ∧ Int32.toInt tx_length ≤ 80) (hpost : ∀ (r : Int32) (tx_length' : Int32), (0 ≤ Int32.toInt r ∧ Int32.toInt r ≤ 1) → (0 ≤ Int32.toInt tx_length' ∧ Int32.toInt tx_length' ≤ 80) → ((0 ≤ Int32.toInt p0 ∧ Int32.toInt p0 ≤ Int32.toInt tx_length ∧ Int32.toInt tx_length' = Int32.toInt p0 ∧ Int32.toInt r = 1) ∨ ((Int32.toInt p0 < 0 ∨ Int32.toInt tx_length < Int32.toInt p0) ∧ Int32.toInt tx_length' = Int32.toInt tx_length ∧ Int32.toInt r = 0)) → post r tx_length') : wp_X9_end post p0 tx_length := by
  have l0 : Int32.toInt (0 : Int32) = 0 := (by decide)
  have l1 : Int32.toInt (1 : Int32) = 1 := (by decide)
  have f2 := tp_r p0
  refine And.intro (fun c1 => ?_) (fun c1 => ?_)
  · skip
    have c1 := (fa_lt _ _).mp c1
    refine And.intro (t_bool (by omega)) ?_
    exact hpost _ _ (by omega) (by omega) (by omega)
  · skip
    have c1 := mt (fa_lt _ _).mpr c1
    refine And.intro (fun c3 => ?_) (fun c3 => ?_)
    · skip
      have c3 := (fa_le _ _).mp c3
      refine And.intro (t_bool (by omega)) ?_
      exact hpost _ _ (by omega) (by omega) (by omega)
    · skip
      have c3 := mt (fa_le _ _).mpr c3
      refine And.intro (t_bool (by omega)) ?_
      exact hpost _ _ (by omega) (by omega) (by omega)
set_option maxHeartbeats 8000000 in
set_option maxRecDepth 200000 in
theorem ts_X4_forgetAll_7 {post : Int32 → (Nat → Int32) → Prop} {next : Int32 → Int32 → (Nat → Int32) → Prop} {n7 : Int} (hpost : ∀ (pa_undoable' : Int32) (pa_isKept' : Nat → Int32), (0 ≤ Int32.toInt pa_undoable' ∧ Int32.toInt pa_undoable' ≤ 0) → (∀ k : Nat, 0 ≤ Int32.toInt (pa_isKept' k) ∧ Int32.toInt (pa_isKept' k) ≤ 1) → post pa_undoable' pa_isKept') (hKn : ∀ (x1 : Int32) (pa_undoable : Int32) (pa_isKept : Nat → Int32), (0 ≤ Int32.toInt x1 ∧ Int32.toInt x1 ≤ 2) → (0 ≤ Int32.toInt pa_undoable ∧ Int32.toInt pa_undoable ≤ 0) → (∀ k : Nat, 0 ≤ Int32.toInt (pa_isKept k) ∧ Int32.toInt (pa_isKept k) ≤ 1) → (2 - Int32.toInt x1 < n7) → next x1 pa_undoable pa_isKept) (x1 : Int32) (pa_undoable : Int32) (pa_isKept : Nat → Int32) (h_x1 : 0 ≤ Int32.toInt x1 ∧ Int32.toInt x1 ≤ 2) (h_pa_undoable : 0 ≤ Int32.toInt pa_undoable ∧ Int32.toInt pa_undoable ≤ 0) (h_pa_isKept : ∀ k : Nat, 0 ≤ Int32.toInt (pa_isKept k) ∧ Int32.toInt (pa_isKept k) ≤ 1) (hn7 : 2 - Int32.toInt x1 ≤ n7) : ws_X4_forgetAll_7 post next x1 pa_undoable pa_isKept := by
  have l0 : Int32.toInt (0 : Int32) = 0 := (by decide)
  have l1 : Int32.toInt (1 : Int32) = 1 := (by decide)
  have l2 : Int32.toInt (2 : Int32) = 2 := (by decide)
  refine And.intro (fun c1 => ?_) (fun c1 => ?_)
  · skip
    have c1 := (fa_le _ _).mp c1
    exact hpost _ _ (by omega) (fun k => by have q9 := h_pa_isKept k; omega)
  · skip
    have c1 := mt (fa_le _ _).mpr c1
    refine And.intro (t_in (by omega)) ?_
    have qa2 := ti_nar_boolean 0
    have a2 : ∀ k : Nat, 0 ≤ Int32.toInt ((upd pa_isKept x1.toNatClampNeg (vp_nar .boolean 0)) k) ∧ Int32.toInt ((upd pa_isKept x1.toNatClampNeg (vp_nar .boolean 0)) k) ≤ 1 := t_upd (fun k => by have q9 := h_pa_isKept k; omega) (by omega)
    intro v3 ev3
    have f4 : Int32.toInt (x1 + 1) = Int32.toInt x1 + Int32.toInt (1 : Int32) := ta_add _ _ (by omega)
    rw [← ev3] at f4
    exact hKn v3 pa_undoable (upd pa_isKept x1.toNatClampNeg (vp_nar .boolean 0)) (by omega) (by omega) (fun k => by have q9 := a2 k; omega) (by omega)
set_option maxHeartbeats 8000000 in
set_option maxRecDepth 200000 in
theorem tb_X4_forgetAll_7 {post : Int32 → (Nat → Int32) → Prop} (hpost : ∀ (pa_undoable' : Int32) (pa_isKept' : Nat → Int32), (0 ≤ Int32.toInt pa_undoable' ∧ Int32.toInt pa_undoable' ≤ 0) → (∀ k : Nat, 0 ≤ Int32.toInt (pa_isKept' k) ∧ Int32.toInt (pa_isKept' k) ≤ 1) → post pa_undoable' pa_isKept') : ∀ (n : Nat) (x1 : Int32) (pa_undoable : Int32) (pa_isKept : Nat → Int32), (0 ≤ Int32.toInt x1 ∧ Int32.toInt x1 ≤ 2) → (0 ≤ Int32.toInt pa_undoable ∧ Int32.toInt pa_undoable ≤ 0) → (∀ k : Nat, 0 ≤ Int32.toInt (pa_isKept k) ∧ Int32.toInt (pa_isKept k) ≤ 1) → (2 - Int32.toInt x1 < (n : Int)) → wb_X4_forgetAll_7 post n x1 pa_undoable pa_isKept := by
  intro n
  induction n with
  | zero =>
    intro x1 pa_undoable pa_isKept h_x1 h_pa_undoable h_pa_isKept hm
    exfalso; omega
  | succ n ih =>
    intro x1 pa_undoable pa_isKept h_x1 h_pa_undoable h_pa_isKept hm
    exact ts_X4_forgetAll_7 hpost ih x1 pa_undoable pa_isKept h_x1 h_pa_undoable h_pa_isKept (by omega)
set_option maxHeartbeats 8000000 in
set_option maxRecDepth 200000 in
theorem t_X4_forgetAll {post : Int32 → (Nat → Int32) → Prop} {pa_undoable : Int32} {pa_isKept : Nat → Int32} (h_pa_undoable : 0 ≤ Int32.toInt pa_undoable ∧ Int32.toInt pa_undoable ≤ 12) (h_pa_isKept : ∀ k : Nat, 0 ≤ Int32.toInt (pa_isKept k) ∧ Int32.toInt (pa_isKept k) ≤ 1) (hpost : ∀ (pa_undoable' : Int32) (pa_isKept' : Nat → Int32), (0 ≤ Int32.toInt pa_undoable' ∧ Int32.toInt pa_undoable' ≤ 0) → (∀ k : Nat, 0 ≤ Int32.toInt (pa_isKept' k) ∧ Int32.toInt (pa_isKept' k) ≤ 1) → post pa_undoable' pa_isKept') : wp_X4_forgetAll post pa_undoable pa_isKept := by
  have l0 : Int32.toInt (0 : Int32) = 0 := (by decide)
  exact ⟨4, tb_X4_forgetAll_7 hpost _ 0 0 pa_isKept (by omega) (by omega) (fun k => by have q9 := h_pa_isKept k; omega) (by omega)⟩
set_option maxHeartbeats 8000000 in
set_option maxRecDepth 200000 in
theorem ts_X8_digitHere_24 {post : Int32 → Prop} (tx_place : Int32) (tx_stop : Int32) (tx_signs : Nat → Int32) (h_tx_place : 0 ≤ Int32.toInt tx_place ∧ Int32.toInt tx_place ≤ 80) (h_tx_stop : 0 ≤ Int32.toInt tx_stop ∧ Int32.toInt tx_stop ≤ 80) (h_tx_signs : ∀ k : Nat, 0 ≤ Int32.toInt (tx_signs k) ∧ Int32.toInt (tx_signs k) ≤ 65535) (hpost : ∀ (r : Int32) , (-1 ≤ Int32.toInt r ∧ Int32.toInt r ≤ 9) → post r) (k0 : Int32) (h_k0 : -1 ≤ Int32.toInt k0 ∧ Int32.toInt k0 ≤ 65535) : ws_X8_digitHere_24 post tx_place tx_stop tx_signs k0 := by
  have l0 : Int32.toInt ((-1) : Int32) = -1 := (by decide)
  have l1 : Int32.toInt (48 : Int32) = 48 := (by decide)
  have l2 : Int32.toInt (57 : Int32) = 57 := (by decide)
  refine And.intro (fun c1 => ?_) (fun c1 => ?_)
  · skip
    have c1 := (fa_lt _ _).mp c1
    exact hpost _ (by omega)
  · skip
    have c1 := mt (fa_lt _ _).mpr c1
    refine And.intro (fun c2 => ?_) (fun c2 => ?_)
    · skip
      have c2 := (fa_lt _ _).mp c2
      exact hpost _ (by omega)
    · skip
      have c2 := mt (fa_lt _ _).mpr c2
      intro v3 ev3
      have f4 : Int32.toInt (k0 - 48) = Int32.toInt k0 - Int32.toInt (48 : Int32) := ta_sub _ _ (by omega)
      rw [← ev3] at f4
      exact hpost _ (by omega)
set_option maxHeartbeats 8000000 in
set_option maxRecDepth 200000 in
theorem t_X8_digitHere {post : Int32 → Prop} {tx_place : Int32} {tx_stop : Int32} {tx_signs : Nat → Int32} (h_tx_place : 0 ≤ Int32.toInt tx_place ∧ Int32.toInt tx_place ≤ 80) (h_tx_stop : 0 ≤ Int32.toInt tx_stop ∧ Int32.toInt tx_stop ≤ 80) (h_tx_signs : ∀ k : Nat, 0 ≤ Int32.toInt (tx_signs k) ∧ Int32.toInt (tx_signs k) ≤ 65535) (hpost : ∀ (r : Int32) , (-1 ≤ Int32.toInt r ∧ Int32.toInt r ≤ 9) → post r) : wp_X8_digitHere post tx_place tx_stop tx_signs := by
  have l0 : Int32.toInt ((-1) : Int32) = -1 := (by decide)
  refine And.intro (fun c5 => ?_) (fun c5 => ?_)
  · skip
    have c5 := (fa_le _ _).mp c5
    exact ts_X8_digitHere_24 tx_place tx_stop tx_signs h_tx_place h_tx_stop h_tx_signs hpost (-1) (by omega)
  · skip
    have c5 := mt (fa_le _ _).mpr c5
    refine And.intro (t_in (by omega)) ?_
    intro v6 ev6
    have f7 := h_tx_signs tx_place.toNatClampNeg
    have hv6 := congrArg Int32.toInt ev6
    exact ts_X8_digitHere_24 tx_place tx_stop tx_signs h_tx_place h_tx_stop h_tx_signs hpost v6 (by omega)
set_option maxHeartbeats 8000000 in
set_option maxRecDepth 200000 in
theorem ts_X8_readNumber_18 {post : Int32 → Int32 → Prop} {next : Int32 → Int32 → Int32 → Int32 → Prop} {n18 : Int} (tx_stop : Int32) (tx_signs : Nat → Int32) (h_tx_stop : 0 ≤ Int32.toInt tx_stop ∧ Int32.toInt tx_stop ≤ 80) (h_tx_signs : ∀ k : Nat, 0 ≤ Int32.toInt (tx_signs k) ∧ Int32.toInt (tx_signs k) ≤ 65535) (hpost : ∀ (r : Int32) (tx_place' : Int32), (0 ≤ Int32.toInt tx_place' ∧ Int32.toInt tx_place' ≤ 80) → post r tx_place') (hKn : ∀ (x1 : Int32) (x2 : Int32) (x3 : Int32) (tx_place : Int32), (1 ≤ Int32.toInt x1 ∧ Int32.toInt x1 ≤ 3) → (1 ≤ Int32.toInt x3 ∧ Int32.toInt x3 ≤ 3) → (0 ≤ Int32.toInt tx_place ∧ Int32.toInt tx_place ≤ 80) → (3 - Int32.toInt x3 < n18) → next x1 x2 x3 tx_place) (x1 : Int32) (x2 : Int32) (x3 : Int32) (tx_place : Int32) (h_x1 : 1 ≤ Int32.toInt x1 ∧ Int32.toInt x1 ≤ 3) (h_x3 : 1 ≤ Int32.toInt x3 ∧ Int32.toInt x3 ≤ 3) (h_tx_place : 0 ≤ Int32.toInt tx_place ∧ Int32.toInt tx_place ≤ 80) (hn18 : 3 - Int32.toInt x3 ≤ n18) : ws_X8_readNumber_18 post next tx_stop tx_signs x1 x2 x3 tx_place := by
  have l0 : Int32.toInt ((-1) : Int32) = -1 := (by decide)
  have l1 : Int32.toInt (1 : Int32) = 1 := (by decide)
  refine And.intro (fun c1 => ?_) (fun c1 => ?_)
  · skip
    have c1 := (fa_le _ _).mp c1
    exact hpost _ _ (by omega)
  · skip
    have c1 := mt (fa_le _ _).mpr c1
    refine t_X8_digitHere (by omega) (by omega) (fun k => by have q9 := h_tx_signs k; omega) (fun r2 h_r2 => ?_)
    refine And.intro (fun c3 => ?_) (fun c3 => ?_)
    · skip
      have c3 := mt (fa_eq _ _).mpr c3
      intro v4 ev4
      have hv4 := congrArg Int32.toInt ev4
      intro v6 ev6
      have hv6 := congrArg Int32.toInt ev6
      refine And.intro (fun c8 => ?_) (fun c8 => ?_)
      · skip
        have c8 := (fa_le _ _).mp c8
        intro v9 ev9
        have f10 : Int32.toInt (x3 + 1) = Int32.toInt x3 + Int32.toInt (1 : Int32) := ta_add _ _ (by omega)
        rw [← ev9] at f10
        have f11 := tp_r v6
        exact hKn x1 v6 v9 tx_place (by omega) (by omega) (by omega) (by omega)
      · skip
        have c8 := mt (fa_le _ _).mpr c8
        intro v12 ev12
        have f13 : Int32.toInt (tx_place + 1) = Int32.toInt tx_place + Int32.toInt (1 : Int32) := ta_add _ _ (by omega)
        rw [← ev12] at f13
        intro v14 ev14
        have f15 : Int32.toInt (x3 + 1) = Int32.toInt x3 + Int32.toInt (1 : Int32) := ta_add _ _ (by omega)
        rw [← ev14] at f15
        have f16 := tp_r v6
        exact hKn x1 v6 v14 v12 (by omega) (by omega) (by omega) (by omega)
    · skip
      have c3 := (fa_eq _ _).mp c3
      exact hpost _ _ (by omega)
set_option maxHeartbeats 8000000 in
set_option maxRecDepth 200000 in
theorem tb_X8_readNumber_18 {post : Int32 → Int32 → Prop} (tx_stop : Int32) (tx_signs : Nat → Int32) (h_tx_stop : 0 ≤ Int32.toInt tx_stop ∧ Int32.toInt tx_stop ≤ 80) (h_tx_signs : ∀ k : Nat, 0 ≤ Int32.toInt (tx_signs k) ∧ Int32.toInt (tx_signs k) ≤ 65535) (hpost : ∀ (r : Int32) (tx_place' : Int32), (0 ≤ Int32.toInt tx_place' ∧ Int32.toInt tx_place' ≤ 80) → post r tx_place') : ∀ (n : Nat) (x1 : Int32) (x2 : Int32) (x3 : Int32) (tx_place : Int32), (1 ≤ Int32.toInt x1 ∧ Int32.toInt x1 ≤ 3) → (1 ≤ Int32.toInt x3 ∧ Int32.toInt x3 ≤ 3) → (0 ≤ Int32.toInt tx_place ∧ Int32.toInt tx_place ≤ 80) → (3 - Int32.toInt x3 < (n : Int)) → wb_X8_readNumber_18 post tx_stop tx_signs n x1 x2 x3 tx_place := by
  intro n
  induction n with
  | zero =>
    intro x1 x2 x3 tx_place h_x1 h_x3 h_tx_place hm
    exfalso; omega
  | succ n ih =>
    intro x1 x2 x3 tx_place h_x1 h_x3 h_tx_place hm
    exact ts_X8_readNumber_18 tx_stop tx_signs h_tx_stop h_tx_signs hpost ih x1 x2 x3 tx_place h_x1 h_x3 h_tx_place (by omega)
set_option maxHeartbeats 8000000 in
set_option maxRecDepth 200000 in
theorem t_X8_readNumber {post : Int32 → Int32 → Prop} {p0 : Int32} {tx_place : Int32} {tx_stop : Int32} {tx_signs : Nat → Int32} (h_p0 : 1 ≤ Int32.toInt p0 ∧ Int32.toInt p0 ≤ 3) (h_tx_place : 0 ≤ Int32.toInt tx_place ∧ Int32.toInt tx_place ≤ 80) (h_tx_stop : 0 ≤ Int32.toInt tx_stop ∧ Int32.toInt tx_stop ≤ 80) (h_tx_signs : ∀ k : Nat, 0 ≤ Int32.toInt (tx_signs k) ∧ Int32.toInt (tx_signs k) ≤ 65535) (hpost : ∀ (r : Int32) (tx_place' : Int32), (0 ≤ Int32.toInt tx_place' ∧ Int32.toInt tx_place' ≤ 80) → post r tx_place') : wp_X8_readNumber post p0 tx_place tx_stop tx_signs := by
  have l0 : Int32.toInt ((-1) : Int32) = -1 := (by decide)
  have l1 : Int32.toInt (1 : Int32) = 1 := (by decide)
  refine t_X8_digitHere (by omega) (by omega) (fun k => by have q9 := h_tx_signs k; omega) (fun r17 h_r17 => ?_)
  refine And.intro (fun c18 => ?_) (fun c18 => ?_)
  · skip
    have c18 := mt (fa_eq _ _).mpr c18
    refine And.intro (fun c19 => ?_) (fun c19 => ?_)
    · skip
      have c19 := (fa_le _ _).mp c19
      exact ⟨4, tb_X8_readNumber_18 tx_stop tx_signs h_tx_stop h_tx_signs hpost _ p0 r17 1 tx_place (by omega) (by omega) (by omega) (by omega)⟩
    · skip
      have c19 := mt (fa_le _ _).mpr c19
      intro v20 ev20
      have f21 : Int32.toInt (tx_place + 1) = Int32.toInt tx_place + Int32.toInt (1 : Int32) := ta_add _ _ (by omega)
      rw [← ev20] at f21
      exact ⟨4, tb_X8_readNumber_18 tx_stop tx_signs h_tx_stop h_tx_signs hpost _ p0 r17 1 v20 (by omega) (by omega) (by omega) (by omega)⟩
  · skip
    have c18 := (fa_eq _ _).mp c18
    exact hpost _ _ (by omega)
set_option maxHeartbeats 8000000 in
set_option maxRecDepth 200000 in
theorem ts_X3_readFruit_82 {post : Int32 → Int32 → Int32 → (Nat → Int32) → (Nat → Int32) → (Nat → Int32) → (Nat → Int32) → Prop} (tx_stop : Int32) (tx_signs : Nat → Int32) (h_tx_stop : 1 ≤ Int32.toInt tx_stop ∧ Int32.toInt tx_stop ≤ 79) (h_tx_signs : ∀ k : Nat, 0 ≤ Int32.toInt (tx_signs k) ∧ Int32.toInt (tx_signs k) ≤ 65535) (hpost : ∀ (r : Int32) (tx_place' : Int32) (tr_comingFruits' : Int32) (tr_x' : Nat → Int32) (tr_height' : Nat → Int32) (tr_worth' : Nat → Int32) (tr_ripe' : Nat → Int32), (0 ≤ Int32.toInt r ∧ Int32.toInt r ≤ 1) → (0 ≤ Int32.toInt tx_place' ∧ Int32.toInt tx_place' ≤ 80) → (0 ≤ Int32.toInt tr_comingFruits' ∧ Int32.toInt tr_comingFruits' ≤ 16) → post r tx_place' tr_comingFruits' tr_x' tr_height' tr_worth' tr_ripe') (x2 : Int32) (k1 : Int32) (k2 : Int32) (tx_place : Int32) (tr_comingFruits : Int32) (tr_x : Nat → Int32) (tr_height : Nat → Int32) (tr_worth : Nat → Int32) (tr_ripe : Nat → Int32) (h_x2 : 0 ≤ Int32.toInt x2 ∧ Int32.toInt x2 ≤ 15) (h_k1 : 0 ≤ Int32.toInt k1 ∧ Int32.toInt k1 ≤ 15) (h_tx_place : 0 ≤ Int32.toInt tx_place ∧ Int32.toInt tx_place ≤ 80) (h_tr_comingFruits : 0 ≤ Int32.toInt tr_comingFruits ∧ Int32.toInt tr_comingFruits ≤ 15) : ws_X3_readFruit_82 post tx_stop tx_signs x2 k1 k2 tx_place tr_comingFruits tr_x tr_height tr_worth tr_ripe := by
  have l0 : Int32.toInt ((-1) : Int32) = -1 := (by decide)
  have l1 : Int32.toInt (0 : Int32) = 0 := (by decide)
  have l2 : Int32.toInt (1 : Int32) = 1 := (by decide)
  refine And.intro (t_in (by omega)) ?_
  refine And.intro (t_in (by omega)) ?_
  intro v1 ev1
  have hv1 := congrArg Int32.toInt ev1
  have f4 := tp_r v1
  refine And.intro (fun c3 => ?_) (fun c3 => ?_)
  · skip
    have c3 := mt (fa_eq _ _).mpr c3
    intro v5 ev5
    have f6 : Int32.toInt (tr_comingFruits + 1) = Int32.toInt tr_comingFruits + Int32.toInt (1 : Int32) := ta_add _ _ (by omega)
    rw [← ev5] at f6
    exact hpost _ _ _ _ _ _ _ (by omega) (by omega) (by omega)
  · skip
    have c3 := (fa_eq _ _).mp c3
    exact hpost _ _ _ _ _ _ _ (by omega) (by omega) (by omega)
set_option maxHeartbeats 8000000 in
set_option maxRecDepth 200000 in
theorem ts_X3_readFruit_46 {post : Int32 → Int32 → Int32 → (Nat → Int32) → (Nat → Int32) → (Nat → Int32) → (Nat → Int32) → Prop} (tx_stop : Int32) (tx_signs : Nat → Int32) (h_tx_stop : 1 ≤ Int32.toInt tx_stop ∧ Int32.toInt tx_stop ≤ 79) (h_tx_signs : ∀ k : Nat, 0 ≤ Int32.toInt (tx_signs k) ∧ Int32.toInt (tx_signs k) ≤ 65535) (hpost : ∀ (r : Int32) (tx_place' : Int32) (tr_comingFruits' : Int32) (tr_x' : Nat → Int32) (tr_height' : Nat → Int32) (tr_worth' : Nat → Int32) (tr_ripe' : Nat → Int32), (0 ≤ Int32.toInt r ∧ Int32.toInt r ≤ 1) → (0 ≤ Int32.toInt tx_place' ∧ Int32.toInt tx_place' ≤ 80) → (0 ≤ Int32.toInt tr_comingFruits' ∧ Int32.toInt tr_comingFruits' ≤ 16) → post r tx_place' tr_comingFruits' tr_x' tr_height' tr_worth' tr_ripe') (x2 : Int32) (k1 : Int32) (k2 : Int32) (tx_place : Int32) (tr_comingFruits : Int32) (tr_x : Nat → Int32) (tr_height : Nat → Int32) (tr_worth : Nat → Int32) (tr_ripe : Nat → Int32) (h_x2 : 0 ≤ Int32.toInt x2 ∧ Int32.toInt x2 ≤ 15) (h_k1 : 0 ≤ Int32.toInt k1 ∧ Int32.toInt k1 ≤ 15) (h_tx_place : 0 ≤ Int32.toInt tx_place ∧ Int32.toInt tx_place ≤ 80) (h_tr_comingFruits : 0 ≤ Int32.toInt tr_comingFruits ∧ Int32.toInt tr_comingFruits ≤ 15) : ws_X3_readFruit_46 post tx_stop tx_signs x2 k1 k2 tx_place tr_comingFruits tr_x tr_height tr_worth tr_ripe := by
  have l0 : Int32.toInt ((-1) : Int32) = -1 := (by decide)
  have l1 : Int32.toInt (0 : Int32) = 0 := (by decide)
  have l2 : Int32.toInt (1 : Int32) = 1 := (by decide)
  have l3 : Int32.toInt (64 : Int32) = 64 := (by decide)
  refine And.intro (t_in (by omega)) ?_
  refine And.intro (t_in (by omega)) ?_
  intro v7 ev7
  have hv7 := congrArg Int32.toInt ev7
  have f10 := tp_r v7
  refine And.intro (fun c9 => ?_) (fun c9 => ?_)
  · skip
    have c9 := mt (fa_eq _ _).mpr c9
    refine And.intro (fun c11 => ?_) (fun c11 => ?_)
    · skip
      have c11 := (fa_le _ _).mp c11
      refine And.intro (fun h9 => absurd h9 (by decide)) (fun _ => ?_)
      refine And.intro (fun _ => ?_) (fun h9 => absurd h9 (by decide))
      exact ts_X3_readFruit_82 tx_stop tx_signs h_tx_stop h_tx_signs hpost x2 x2 0 tx_place tr_comingFruits tr_x tr_height (upd tr_worth k1.toNatClampNeg k2) tr_ripe (by omega) (by omega) (by omega) (by omega)
    · skip
      have c11 := mt (fa_le _ _).mpr c11
      refine And.intro (t_in (by omega)) ?_
      intro v12 ev12
      have f13 := h_tx_signs tx_place.toNatClampNeg
      have hv12 := congrArg Int32.toInt ev12
      refine And.intro (fun c14 => ?_) (fun c14 => ?_)
      · skip
        have c14 := (fa_eq _ _).mp c14
        intro v15 ev15
        have f16 : Int32.toInt (tx_place + 1) = Int32.toInt tx_place + Int32.toInt (1 : Int32) := ta_add _ _ (by omega)
        rw [← ev15] at f16
        refine And.intro (fun h9 => absurd h9 (by decide)) (fun _ => ?_)
        refine t_X8_readNumber (by omega) (by omega) (by omega) (fun k => by have q9 := h_tx_signs k; omega) (fun r18 tx_place_17 h_tx_place_17 => ?_)
        have f19 := tp_r r18
        exact ts_X3_readFruit_82 tx_stop tx_signs h_tx_stop h_tx_signs hpost x2 x2 r18 tx_place_17 tr_comingFruits tr_x tr_height (upd tr_worth k1.toNatClampNeg k2) tr_ripe (by omega) (by omega) (by omega) (by omega)
      · skip
        have c14 := mt (fa_eq _ _).mpr c14
        refine And.intro (fun _ => ?_) (fun h9 => absurd h9 (by decide))
        exact ts_X3_readFruit_82 tx_stop tx_signs h_tx_stop h_tx_signs hpost x2 x2 0 tx_place tr_comingFruits tr_x tr_height (upd tr_worth k1.toNatClampNeg k2) tr_ripe (by omega) (by omega) (by omega) (by omega)
  · skip
    have c9 := (fa_eq _ _).mp c9
    exact hpost _ _ _ _ _ _ _ (by omega) (by omega) (by omega)
set_option maxHeartbeats 8000000 in
set_option maxRecDepth 200000 in
theorem t_X3_readFruit {post : Int32 → Int32 → Int32 → (Nat → Int32) → (Nat → Int32) → (Nat → Int32) → (Nat → Int32) → Prop} {tx_place : Int32} {tx_stop : Int32} {tx_signs : Nat → Int32} {tr_comingFruits : Int32} {tr_x : Nat → Int32} {tr_height : Nat → Int32} {tr_worth : Nat → Int32} {tr_ripe : Nat → Int32} (h_tx_place : 1 ≤ Int32.toInt tx_place ∧ Int32.toInt tx_place ≤ 79) (h_tx_stop : 1 ≤ Int32.toInt tx_stop ∧ Int32.toInt tx_stop ≤ 79) (h_tx_signs : ∀ k : Nat, 0 ≤ Int32.toInt (tx_signs k) ∧ Int32.toInt (tx_signs k) ≤ 65535) (h_tr_comingFruits : 0 ≤ Int32.toInt tr_comingFruits ∧ Int32.toInt tr_comingFruits ≤ 15) (hpost : ∀ (r : Int32) (tx_place' : Int32) (tr_comingFruits' : Int32) (tr_x' : Nat → Int32) (tr_height' : Nat → Int32) (tr_worth' : Nat → Int32) (tr_ripe' : Nat → Int32), (0 ≤ Int32.toInt r ∧ Int32.toInt r ≤ 1) → (0 ≤ Int32.toInt tx_place' ∧ Int32.toInt tx_place' ≤ 80) → (0 ≤ Int32.toInt tr_comingFruits' ∧ Int32.toInt tr_comingFruits' ≤ 16) → post r tx_place' tr_comingFruits' tr_x' tr_height' tr_worth' tr_ripe') : wp_X3_readFruit post tx_place tx_stop tx_signs tr_comingFruits tr_x tr_height tr_worth tr_ripe := by
  have l0 : Int32.toInt ((-1) : Int32) = -1 := (by decide)
  have l1 : Int32.toInt (0 : Int32) = 0 := (by decide)
  have l2 : Int32.toInt (1 : Int32) = 1 := (by decide)
  have l3 : Int32.toInt (16 : Int32) = 16 := (by decide)
  have l4 : Int32.toInt (2 : Int32) = 2 := (by decide)
  have l5 : Int32.toInt (42 : Int32) = 42 := (by decide)
  have l6 : Int32.toInt (44 : Int32) = 44 := (by decide)
  refine t_X8_readNumber (by omega) (by omega) (by omega) (fun k => by have q9 := h_tx_signs k; omega) (fun r21 tx_place_20 h_tx_place_20 => ?_)
  have f23 := tp_r r21
  refine And.intro (fun c22 => ?_) (fun c22 => ?_)
  · skip
    have c22 := (fa_eq _ _).mp c22
    refine And.intro (fun h9 => absurd h9 (by decide)) (fun _ => ?_)
    exact hpost _ _ _ _ _ _ _ (by omega) (by omega) (by omega)
  · skip
    have c22 := mt (fa_eq _ _).mpr c22
    refine And.intro (fun c24 => ?_) (fun c24 => ?_)
    · skip
      have c24 := (fa_le _ _).mp c24
      refine And.intro (fun h9 => absurd h9 (by decide)) (fun _ => ?_)
      refine And.intro (fun h9 => absurd h9 (by decide)) (fun _ => ?_)
      refine And.intro (fun h9 => absurd h9 (by decide)) (fun _ => ?_)
      exact hpost _ _ _ _ _ _ _ (by omega) (by omega) (by omega)
    · skip
      have c24 := mt (fa_le _ _).mpr c24
      refine And.intro (t_in (by omega)) ?_
      intro v25 ev25
      have f26 := h_tx_signs tx_place_20.toNatClampNeg
      have hv25 := congrArg Int32.toInt ev25
      refine And.intro (fun c27 => ?_) (fun c27 => ?_)
      · skip
        have c27 := (fa_eq _ _).mp c27
        intro v28 ev28
        have f29 : Int32.toInt (tx_place_20 + 1) = Int32.toInt tx_place_20 + Int32.toInt (1 : Int32) := ta_add _ _ (by omega)
        rw [← ev28] at f29
        refine And.intro (fun _ => ?_) (fun h9 => absurd h9 (by decide))
        refine t_X8_readNumber (by omega) (by omega) (by omega) (fun k => by have q9 := h_tx_signs k; omega) (fun r31 tx_place_30 h_tx_place_30 => ?_)
        have f33 := tp_r r31
        refine And.intro (fun c32 => ?_) (fun c32 => ?_)
        · skip
          have c32 := (fa_eq _ _).mp c32
          refine And.intro (fun h9 => absurd h9 (by decide)) (fun _ => ?_)
          exact hpost _ _ _ _ _ _ _ (by omega) (by omega) (by omega)
        · skip
          have c32 := mt (fa_eq _ _).mpr c32
          refine And.intro (fun c34 => ?_) (fun c34 => ?_)
          · skip
            have c34 := (fa_lt _ _).mp c34
            exfalso; omega
          · skip
            have c34 := mt (fa_lt _ _).mpr c34
            refine And.intro (fun c35 => ?_) (fun c35 => ?_)
            · skip
              have c35 := (fa_le _ _).mp c35
              exfalso; omega
            · skip
              have c35 := mt (fa_le _ _).mpr c35
              refine And.intro (fun c36 => ?_) (fun c36 => ?_)
              · skip
                have c36 := (fa_lt _ _).mp c36
                refine And.intro (t_in (by omega)) ?_
                refine And.intro (t_in (by omega)) ?_
                refine And.intro (fun _ => ?_) (fun h9 => absurd h9 (by decide))
                refine And.intro (fun c37 => ?_) (fun c37 => ?_)
                · skip
                  have c37 := (fa_le _ _).mp c37
                  refine And.intro (fun h9 => absurd h9 (by decide)) (fun _ => ?_)
                  refine And.intro (fun _ => ?_) (fun h9 => absurd h9 (by decide))
                  exact ts_X3_readFruit_46 tx_stop tx_signs h_tx_stop h_tx_signs hpost tr_comingFruits tr_comingFruits 1 tx_place_30 tr_comingFruits (upd tr_x tr_comingFruits.toNatClampNeg r21) (upd tr_height tr_comingFruits.toNatClampNeg r31) tr_worth tr_ripe (by omega) (by omega) (by omega) (by omega)
                · skip
                  have c37 := mt (fa_le _ _).mpr c37
                  refine And.intro (t_in (by omega)) ?_
                  intro v38 ev38
                  have f39 := h_tx_signs tx_place_30.toNatClampNeg
                  have hv38 := congrArg Int32.toInt ev38
                  refine And.intro (fun c40 => ?_) (fun c40 => ?_)
                  · skip
                    have c40 := (fa_eq _ _).mp c40
                    intro v41 ev41
                    have f42 : Int32.toInt (tx_place_30 + 1) = Int32.toInt tx_place_30 + Int32.toInt (1 : Int32) := ta_add _ _ (by omega)
                    rw [← ev41] at f42
                    refine And.intro (fun h9 => absurd h9 (by decide)) (fun _ => ?_)
                    refine t_X8_readNumber (by omega) (by omega) (by omega) (fun k => by have q9 := h_tx_signs k; omega) (fun r44 tx_place_43 h_tx_place_43 => ?_)
                    have f45 := tp_r r44
                    exact ts_X3_readFruit_46 tx_stop tx_signs h_tx_stop h_tx_signs hpost tr_comingFruits tr_comingFruits r44 tx_place_43 tr_comingFruits (upd tr_x tr_comingFruits.toNatClampNeg r21) (upd tr_height tr_comingFruits.toNatClampNeg r31) tr_worth tr_ripe (by omega) (by omega) (by omega) (by omega)
                  · skip
                    have c40 := mt (fa_eq _ _).mpr c40
                    refine And.intro (fun _ => ?_) (fun h9 => absurd h9 (by decide))
                    exact ts_X3_readFruit_46 tx_stop tx_signs h_tx_stop h_tx_signs hpost tr_comingFruits tr_comingFruits 1 tx_place_30 tr_comingFruits (upd tr_x tr_comingFruits.toNatClampNeg r21) (upd tr_height tr_comingFruits.toNatClampNeg r31) tr_worth tr_ripe (by omega) (by omega) (by omega) (by omega)
              · skip
                have c36 := mt (fa_lt _ _).mpr c36
                exfalso; omega
      · skip
        have c27 := mt (fa_eq _ _).mpr c27
        refine And.intro (fun h9 => absurd h9 (by decide)) (fun _ => ?_)
        refine And.intro (fun h9 => absurd h9 (by decide)) (fun _ => ?_)
        exact hpost _ _ _ _ _ _ _ (by omega) (by omega) (by omega)
set_option maxHeartbeats 8000000 in
set_option maxRecDepth 200000 in
theorem ts_X3_readLine_28 {post : Int32 → Int32 → Int32 → Int32 → (Nat → Int32) → (Nat → Int32) → (Nat → Int32) → (Nat → Int32) → (Nat → Int32) → (Nat → Int32) → Prop} (tx_stop : Int32) (tx_signs : Nat → Int32) (h_tx_stop : 0 ≤ Int32.toInt tx_stop ∧ Int32.toInt tx_stop ≤ 79) (h_tx_signs : ∀ k : Nat, 0 ≤ Int32.toInt (tx_signs k) ∧ Int32.toInt (tx_signs k) ≤ 65535) (hpost : ∀ (r : Int32) (tx_place' : Int32) (tr_comingFruits' : Int32) (tr_comingStandings' : Int32) (tr_x' : Nat → Int32) (tr_height' : Nat → Int32) (tr_worth' : Nat → Int32) (tr_ripe' : Nat → Int32) (tr_foot' : Nat → Int32) (tr_fork' : Nat → Int32), (0 ≤ Int32.toInt r ∧ Int32.toInt r ≤ 1) → (0 ≤ Int32.toInt tx_place' ∧ Int32.toInt tx_place' ≤ 80) → (0 ≤ Int32.toInt tr_comingFruits' ∧ Int32.toInt tr_comingFruits' ≤ 16) → (0 ≤ Int32.toInt tr_comingStandings' ∧ Int32.toInt tr_comingStandings' ≤ 8) → post r tx_place' tr_comingFruits' tr_comingStandings' tr_x' tr_height' tr_worth' tr_ripe' tr_foot' tr_fork') (tx_place : Int32) (tr_comingFruits : Int32) (tr_comingStandings : Int32) (tr_x : Nat → Int32) (tr_height : Nat → Int32) (tr_worth : Nat → Int32) (tr_ripe : Nat → Int32) (tr_foot : Nat → Int32) (tr_fork : Nat → Int32) (h_tx_place : 0 ≤ Int32.toInt tx_place ∧ Int32.toInt tx_place ≤ 79) (h_tr_comingFruits : 0 ≤ Int32.toInt tr_comingFruits ∧ Int32.toInt tr_comingFruits ≤ 16) (h_tr_comingStandings : 0 ≤ Int32.toInt tr_comingStandings ∧ Int32.toInt tr_comingStandings ≤ 8) : ws_X3_readLine_28 post tx_stop tx_signs tx_place tr_comingFruits tr_comingStandings tr_x tr_height tr_worth tr_ripe tr_foot tr_fork := by
  have l0 : Int32.toInt ((-1) : Int32) = -1 := (by decide)
  have l1 : Int32.toInt (0 : Int32) = 0 := (by decide)
  have l2 : Int32.toInt (1 : Int32) = 1 := (by decide)
  have l3 : Int32.toInt (115 : Int32) = 115 := (by decide)
  have l4 : Int32.toInt (2 : Int32) = 2 := (by decide)
  have l5 : Int32.toInt (44 : Int32) = 44 := (by decide)
  have l6 : Int32.toInt (8 : Int32) = 8 := (by decide)
  refine And.intro (fun c1 => ?_) (fun c1 => ?_)
  · skip
    have c1 := (fa_le _ _).mp c1
    refine And.intro (fun _ => ?_) (fun h9 => absurd h9 (by decide))
    exact hpost _ _ _ _ _ _ _ _ _ _ (by omega) (by omega) (by omega) (by omega)
  · skip
    have c1 := mt (fa_le _ _).mpr c1
    refine And.intro (t_in (by omega)) ?_
    intro v2 ev2
    have f3 := h_tx_signs tx_place.toNatClampNeg
    have hv2 := congrArg Int32.toInt ev2
    refine And.intro (fun c4 => ?_) (fun c4 => ?_)
    · skip
      have c4 := mt (fa_eq _ _).mpr c4
      exact hpost _ _ _ _ _ _ _ _ _ _ (by omega) (by omega) (by omega) (by omega)
    · skip
      have c4 := (fa_eq _ _).mp c4
      refine And.intro (fun c5 => ?_) (fun c5 => ?_)
      · skip
        have c5 := (fa_le _ _).mp c5
        exact hpost _ _ _ _ _ _ _ _ _ _ (by omega) (by omega) (by omega) (by omega)
      · skip
        have c5 := mt (fa_le _ _).mpr c5
        refine And.intro (fun c6 => ?_) (fun c6 => ?_)
        · skip
          have c6 := (fa_le _ _).mp c6
          refine t_X8_readNumber (by omega) (by omega) (by omega) (fun k => by have q9 := h_tx_signs k; omega) (fun r8 tx_place_7 h_tx_place_7 => ?_)
          have f10 := tp_r r8
          refine And.intro (fun c9 => ?_) (fun c9 => ?_)
          · skip
            have c9 := (fa_eq _ _).mp c9
            refine And.intro (fun h9 => absurd h9 (by decide)) (fun _ => ?_)
            refine And.intro (t_bool (by omega)) ?_
            exact hpost _ _ _ _ _ _ _ _ _ _ (by omega) (by omega) (by omega) (by omega)
          · skip
            have c9 := mt (fa_eq _ _).mpr c9
            refine And.intro (fun c11 => ?_) (fun c11 => ?_)
            · skip
              have c11 := (fa_le _ _).mp c11
              refine And.intro (fun h9 => absurd h9 (by decide)) (fun _ => ?_)
              refine And.intro (fun h9 => absurd h9 (by decide)) (fun _ => ?_)
              refine And.intro (fun h9 => absurd h9 (by decide)) (fun _ => ?_)
              refine And.intro (t_bool (by omega)) ?_
              exact hpost _ _ _ _ _ _ _ _ _ _ (by omega) (by omega) (by omega) (by omega)
            · skip
              have c11 := mt (fa_le _ _).mpr c11
              refine And.intro (t_in (by omega)) ?_
              intro v12 ev12
              have f13 := h_tx_signs tx_place_7.toNatClampNeg
              have hv12 := congrArg Int32.toInt ev12
              refine And.intro (fun c14 => ?_) (fun c14 => ?_)
              · skip
                have c14 := (fa_eq _ _).mp c14
                intro v15 ev15
                have f16 : Int32.toInt (tx_place_7 + 1) = Int32.toInt tx_place_7 + Int32.toInt (1 : Int32) := ta_add _ _ (by omega)
                rw [← ev15] at f16
                refine And.intro (fun _ => ?_) (fun h9 => absurd h9 (by decide))
                refine t_X8_readNumber (by omega) (by omega) (by omega) (fun k => by have q9 := h_tx_signs k; omega) (fun r18 tx_place_17 h_tx_place_17 => ?_)
                have f20 := tp_r r18
                refine And.intro (fun c19 => ?_) (fun c19 => ?_)
                · skip
                  have c19 := (fa_eq _ _).mp c19
                  refine And.intro (fun h9 => absurd h9 (by decide)) (fun _ => ?_)
                  refine And.intro (t_bool (by omega)) ?_
                  exact hpost _ _ _ _ _ _ _ _ _ _ (by omega) (by omega) (by omega) (by omega)
                · skip
                  have c19 := mt (fa_eq _ _).mpr c19
                  refine And.intro (fun c21 => ?_) (fun c21 => ?_)
                  · skip
                    have c21 := (fa_lt _ _).mp c21
                    exfalso; omega
                  · skip
                    have c21 := mt (fa_lt _ _).mpr c21
                    refine And.intro (fun c22 => ?_) (fun c22 => ?_)
                    · skip
                      have c22 := (fa_le _ _).mp c22
                      exfalso; omega
                    · skip
                      have c22 := mt (fa_le _ _).mpr c22
                      refine And.intro (fun c23 => ?_) (fun c23 => ?_)
                      · skip
                        have c23 := (fa_lt _ _).mp c23
                        refine And.intro (t_in (by omega)) ?_
                        refine And.intro (t_in (by omega)) ?_
                        refine And.intro (fun _ => ?_) (fun h9 => absurd h9 (by decide))
                        intro v24 ev24
                        have f25 : Int32.toInt (tr_comingStandings + 1) = Int32.toInt tr_comingStandings + Int32.toInt (1 : Int32) := ta_add _ _ (by omega)
                        rw [← ev24] at f25
                        refine And.intro (t_bool (by omega)) ?_
                        exact hpost _ _ _ _ _ _ _ _ _ _ (by omega) (by omega) (by omega) (by omega)
                      · skip
                        have c23 := mt (fa_lt _ _).mpr c23
                        exfalso; omega
              · skip
                have c14 := mt (fa_eq _ _).mpr c14
                refine And.intro (fun h9 => absurd h9 (by decide)) (fun _ => ?_)
                refine And.intro (fun h9 => absurd h9 (by decide)) (fun _ => ?_)
                refine And.intro (t_bool (by omega)) ?_
                exact hpost _ _ _ _ _ _ _ _ _ _ (by omega) (by omega) (by omega) (by omega)
        · skip
          have c6 := mt (fa_le _ _).mpr c6
          intro v26 ev26
          have f27 : Int32.toInt (tx_place + 1) = Int32.toInt tx_place + Int32.toInt (1 : Int32) := ta_add _ _ (by omega)
          rw [← ev26] at f27
          refine t_X8_readNumber (by omega) (by omega) (by omega) (fun k => by have q9 := h_tx_signs k; omega) (fun r29 tx_place_28 h_tx_place_28 => ?_)
          have f31 := tp_r r29
          refine And.intro (fun c30 => ?_) (fun c30 => ?_)
          · skip
            have c30 := (fa_eq _ _).mp c30
            refine And.intro (fun h9 => absurd h9 (by decide)) (fun _ => ?_)
            refine And.intro (t_bool (by omega)) ?_
            exact hpost _ _ _ _ _ _ _ _ _ _ (by omega) (by omega) (by omega) (by omega)
          · skip
            have c30 := mt (fa_eq _ _).mpr c30
            refine And.intro (fun c32 => ?_) (fun c32 => ?_)
            · skip
              have c32 := (fa_le _ _).mp c32
              refine And.intro (fun h9 => absurd h9 (by decide)) (fun _ => ?_)
              refine And.intro (fun h9 => absurd h9 (by decide)) (fun _ => ?_)
              refine And.intro (fun h9 => absurd h9 (by decide)) (fun _ => ?_)
              refine And.intro (t_bool (by omega)) ?_
              exact hpost _ _ _ _ _ _ _ _ _ _ (by omega) (by omega) (by omega) (by omega)
            · skip
              have c32 := mt (fa_le _ _).mpr c32
              refine And.intro (t_in (by omega)) ?_
              intro v33 ev33
              have f34 := h_tx_signs tx_place_28.toNatClampNeg
              have hv33 := congrArg Int32.toInt ev33
              refine And.intro (fun c35 => ?_) (fun c35 => ?_)
              · skip
                have c35 := (fa_eq _ _).mp c35
                intro v36 ev36
                have f37 : Int32.toInt (tx_place_28 + 1) = Int32.toInt tx_place_28 + Int32.toInt (1 : Int32) := ta_add _ _ (by omega)
                rw [← ev36] at f37
                refine And.intro (fun _ => ?_) (fun h9 => absurd h9 (by decide))
                refine t_X8_readNumber (by omega) (by omega) (by omega) (fun k => by have q9 := h_tx_signs k; omega) (fun r39 tx_place_38 h_tx_place_38 => ?_)
                have f41 := tp_r r39
                refine And.intro (fun c40 => ?_) (fun c40 => ?_)
                · skip
                  have c40 := (fa_eq _ _).mp c40
                  refine And.intro (fun h9 => absurd h9 (by decide)) (fun _ => ?_)
                  refine And.intro (t_bool (by omega)) ?_
                  exact hpost _ _ _ _ _ _ _ _ _ _ (by omega) (by omega) (by omega) (by omega)
                · skip
                  have c40 := mt (fa_eq _ _).mpr c40
                  refine And.intro (fun c42 => ?_) (fun c42 => ?_)
                  · skip
                    have c42 := (fa_lt _ _).mp c42
                    exfalso; omega
                  · skip
                    have c42 := mt (fa_lt _ _).mpr c42
                    refine And.intro (fun c43 => ?_) (fun c43 => ?_)
                    · skip
                      have c43 := (fa_le _ _).mp c43
                      exfalso; omega
                    · skip
                      have c43 := mt (fa_le _ _).mpr c43
                      refine And.intro (fun c44 => ?_) (fun c44 => ?_)
                      · skip
                        have c44 := (fa_lt _ _).mp c44
                        refine And.intro (t_in (by omega)) ?_
                        refine And.intro (t_in (by omega)) ?_
                        refine And.intro (fun _ => ?_) (fun h9 => absurd h9 (by decide))
                        intro v45 ev45
                        have f46 : Int32.toInt (tr_comingStandings + 1) = Int32.toInt tr_comingStandings + Int32.toInt (1 : Int32) := ta_add _ _ (by omega)
                        rw [← ev45] at f46
                        refine And.intro (t_bool (by omega)) ?_
                        exact hpost _ _ _ _ _ _ _ _ _ _ (by omega) (by omega) (by omega) (by omega)
                      · skip
                        have c44 := mt (fa_lt _ _).mpr c44
                        exfalso; omega
              · skip
                have c35 := mt (fa_eq _ _).mpr c35
                refine And.intro (fun h9 => absurd h9 (by decide)) (fun _ => ?_)
                refine And.intro (fun h9 => absurd h9 (by decide)) (fun _ => ?_)
                refine And.intro (t_bool (by omega)) ?_
                exact hpost _ _ _ _ _ _ _ _ _ _ (by omega) (by omega) (by omega) (by omega)
set_option maxHeartbeats 8000000 in
set_option maxRecDepth 200000 in
theorem t_X3_readLine {post : Int32 → Int32 → Int32 → Int32 → (Nat → Int32) → (Nat → Int32) → (Nat → Int32) → (Nat → Int32) → (Nat → Int32) → (Nat → Int32) → Prop} {tx_place : Int32} {tx_stop : Int32} {tx_signs : Nat → Int32} {tr_comingFruits : Int32} {tr_comingStandings : Int32} {tr_x : Nat → Int32} {tr_height : Nat → Int32} {tr_worth : Nat → Int32} {tr_ripe : Nat → Int32} {tr_foot : Nat → Int32} {tr_fork : Nat → Int32} (h_tx_place : 0 ≤ Int32.toInt tx_place ∧ Int32.toInt tx_place ≤ 79) (h_tx_stop : 0 ≤ Int32.toInt tx_stop ∧ Int32.toInt tx_stop ≤ 79) (h_tx_signs : ∀ k : Nat, 0 ≤ Int32.toInt (tx_signs k) ∧ Int32.toInt (tx_signs k) ≤ 65535) (h_tr_comingFruits : 0 ≤ Int32.toInt tr_comingFruits ∧ Int32.toInt tr_comingFruits ≤ 16) (h_tr_comingStandings : 0 ≤ Int32.toInt tr_comingStandings ∧ Int32.toInt tr_comingStandings ≤ 8) (hpost : ∀ (r : Int32) (tx_place' : Int32) (tr_comingFruits' : Int32) (tr_comingStandings' : Int32) (tr_x' : Nat → Int32) (tr_height' : Nat → Int32) (tr_worth' : Nat → Int32) (tr_ripe' : Nat → Int32) (tr_foot' : Nat → Int32) (tr_fork' : Nat → Int32), (0 ≤ Int32.toInt r ∧ Int32.toInt r ≤ 1) → (0 ≤ Int32.toInt tx_place' ∧ Int32.toInt tx_place' ≤ 80) → (0 ≤ Int32.toInt tr_comingFruits' ∧ Int32.toInt tr_comingFruits' ≤ 16) → (0 ≤ Int32.toInt tr_comingStandings' ∧ Int32.toInt tr_comingStandings' ≤ 8) → post r tx_place' tr_comingFruits' tr_comingStandings' tr_x' tr_height' tr_worth' tr_ripe' tr_foot' tr_fork') : wp_X3_readLine post tx_place tx_stop tx_signs tr_comingFruits tr_comingStandings tr_x tr_height tr_worth tr_ripe tr_foot tr_fork := by
  have l0 : Int32.toInt (1 : Int32) = 1 := (by decide)
  have l1 : Int32.toInt (102 : Int32) = 102 := (by decide)
  have l2 : Int32.toInt (16 : Int32) = 16 := (by decide)
  refine And.intro (fun c47 => ?_) (fun c47 => ?_)
  · skip
    have c47 := (fa_le _ _).mp c47
    refine And.intro (fun _ => ?_) (fun h9 => absurd h9 (by decide))
    exact ts_X3_readLine_28 tx_stop tx_signs h_tx_stop h_tx_signs hpost tx_place tr_comingFruits tr_comingStandings tr_x tr_height tr_worth tr_ripe tr_foot tr_fork (by omega) (by omega) (by omega)
  · skip
    have c47 := mt (fa_le _ _).mpr c47
    refine And.intro (t_in (by omega)) ?_
    intro v48 ev48
    have f49 := h_tx_signs tx_place.toNatClampNeg
    have hv48 := congrArg Int32.toInt ev48
    refine And.intro (fun c50 => ?_) (fun c50 => ?_)
    · skip
      have c50 := mt (fa_eq _ _).mpr c50
      exact ts_X3_readLine_28 tx_stop tx_signs h_tx_stop h_tx_signs hpost tx_place tr_comingFruits tr_comingStandings tr_x tr_height tr_worth tr_ripe tr_foot tr_fork (by omega) (by omega) (by omega)
    · skip
      have c50 := (fa_eq _ _).mp c50
      refine And.intro (fun c51 => ?_) (fun c51 => ?_)
      · skip
        have c51 := (fa_le _ _).mp c51
        exact ts_X3_readLine_28 tx_stop tx_signs h_tx_stop h_tx_signs hpost tx_place tr_comingFruits tr_comingStandings tr_x tr_height tr_worth tr_ripe tr_foot tr_fork (by omega) (by omega) (by omega)
      · skip
        have c51 := mt (fa_le _ _).mpr c51
        refine And.intro (fun c52 => ?_) (fun c52 => ?_)
        · skip
          have c52 := (fa_le _ _).mp c52
          refine t_X3_readFruit (by omega) (by omega) (fun k => by have q9 := h_tx_signs k; omega) (by omega) (fun r59 tx_place_53 tr_comingFruits_54 tr_x_55 tr_height_56 tr_worth_57 tr_ripe_58 h_r59 h_tx_place_53 h_tr_comingFruits_54 => ?_)
          refine And.intro (t_bool (by omega)) ?_
          exact hpost _ _ _ _ _ _ _ _ _ _ (by omega) (by omega) (by omega) (by omega)
        · skip
          have c52 := mt (fa_le _ _).mpr c52
          intro v60 ev60
          have f61 : Int32.toInt (tx_place + 1) = Int32.toInt tx_place + Int32.toInt (1 : Int32) := ta_add _ _ (by omega)
          rw [← ev60] at f61
          refine t_X3_readFruit (by omega) (by omega) (fun k => by have q9 := h_tx_signs k; omega) (by omega) (fun r68 tx_place_62 tr_comingFruits_63 tr_x_64 tr_height_65 tr_worth_66 tr_ripe_67 h_r68 h_tx_place_62 h_tr_comingFruits_63 => ?_)
          refine And.intro (t_bool (by omega)) ?_
          exact hpost _ _ _ _ _ _ _ _ _ _ (by omega) (by omega) (by omega) (by omega)
set_option maxHeartbeats 8000000 in
set_option maxRecDepth 200000 in
theorem ts_X3_readLines_18 {post : Int32 → Int32 → Int32 → Int32 → (Nat → Int32) → (Nat → Int32) → (Nat → Int32) → (Nat → Int32) → (Nat → Int32) → (Nat → Int32) → Prop} {next : Int32 → Int32 → Int32 → Int32 → (Nat → Int32) → (Nat → Int32) → (Nat → Int32) → (Nat → Int32) → (Nat → Int32) → (Nat → Int32) → Prop} {n18 : Int} (tx_stop : Int32) (tx_signs : Nat → Int32) (tr_fruits : Int32) (tr_standings : Int32) (h_tx_stop : 0 ≤ Int32.toInt tx_stop ∧ Int32.toInt tx_stop ≤ 79) (h_tx_signs : ∀ k : Nat, 0 ≤ Int32.toInt (tx_signs k) ∧ Int32.toInt (tx_signs k) ≤ 65535) (h_tr_fruits : 0 ≤ Int32.toInt tr_fruits ∧ Int32.toInt tr_fruits ≤ 16) (h_tr_standings : 0 ≤ Int32.toInt tr_standings ∧ Int32.toInt tr_standings ≤ 8) (hpost : ∀ (r : Int32) (tx_place' : Int32) (tr_comingFruits' : Int32) (tr_comingStandings' : Int32) (tr_x' : Nat → Int32) (tr_height' : Nat → Int32) (tr_worth' : Nat → Int32) (tr_ripe' : Nat → Int32) (tr_foot' : Nat → Int32) (tr_fork' : Nat → Int32), (-1 ≤ Int32.toInt r ∧ Int32.toInt r ≤ 79) → (0 ≤ Int32.toInt tx_place' ∧ Int32.toInt tx_place' ≤ 80) → (0 ≤ Int32.toInt tr_comingFruits' ∧ Int32.toInt tr_comingFruits' ≤ 16) → (0 ≤ Int32.toInt tr_comingStandings' ∧ Int32.toInt tr_comingStandings' ≤ 8) → post r tx_place' tr_comingFruits' tr_comingStandings' tr_x' tr_height' tr_worth' tr_ripe' tr_foot' tr_fork') (hKn : ∀ (x2 : Int32) (tx_place : Int32) (tr_comingFruits : Int32) (tr_comingStandings : Int32) (tr_x : Nat → Int32) (tr_height : Nat → Int32) (tr_worth : Nat → Int32) (tr_ripe : Nat → Int32) (tr_foot : Nat → Int32) (tr_fork : Nat → Int32), (1 ≤ Int32.toInt x2 ∧ Int32.toInt x2 ≤ 79) → (0 ≤ Int32.toInt tx_place ∧ Int32.toInt tx_place ≤ 79) → (0 ≤ Int32.toInt tr_comingFruits ∧ Int32.toInt tr_comingFruits ≤ 16) → (0 ≤ Int32.toInt tr_comingStandings ∧ Int32.toInt tr_comingStandings ≤ 8) → (79 - Int32.toInt x2 < n18) → next x2 tx_place tr_comingFruits tr_comingStandings tr_x tr_height tr_worth tr_ripe tr_foot tr_fork) (x2 : Int32) (tx_place : Int32) (tr_comingFruits : Int32) (tr_comingStandings : Int32) (tr_x : Nat → Int32) (tr_height : Nat → Int32) (tr_worth : Nat → Int32) (tr_ripe : Nat → Int32) (tr_foot : Nat → Int32) (tr_fork : Nat → Int32) (h_x2 : 1 ≤ Int32.toInt x2 ∧ Int32.toInt x2 ≤ 79) (h_tx_place : 0 ≤ Int32.toInt tx_place ∧ Int32.toInt tx_place ≤ 79) (h_tr_comingFruits : 0 ≤ Int32.toInt tr_comingFruits ∧ Int32.toInt tr_comingFruits ≤ 16) (h_tr_comingStandings : 0 ≤ Int32.toInt tr_comingStandings ∧ Int32.toInt tr_comingStandings ≤ 8) (hn18 : 79 - Int32.toInt x2 ≤ n18) : ws_X3_readLines_18 post next tx_stop tx_signs tr_fruits tr_standings x2 tx_place tr_comingFruits tr_comingStandings tr_x tr_height tr_worth tr_ripe tr_foot tr_fork := by
  have l0 : Int32.toInt ((-1) : Int32) = -1 := (by decide)
  have l1 : Int32.toInt (0 : Int32) = 0 := (by decide)
  have l2 : Int32.toInt (1 : Int32) = 1 := (by decide)
  have l3 : Int32.toInt (59 : Int32) = 59 := (by decide)
  have l4 : Int32.toInt (76 : Int32) = 76 := (by decide)
  refine And.intro (fun c1 => ?_) (fun c1 => ?_)
  · skip
    have c1 := (fa_lt _ _).mp c1
    exact hpost _ _ _ _ _ _ _ _ _ _ (by omega) (by omega) (by omega) (by omega)
  · skip
    have c1 := mt (fa_lt _ _).mpr c1
    refine t_X3_readLine (by omega) (by omega) (fun k => by have q9 := h_tx_signs k; omega) (by omega) (by omega) (fun r11 tx_place_2 tr_comingFruits_3 tr_comingStandings_4 tr_x_5 tr_height_6 tr_worth_7 tr_ripe_8 tr_foot_9 tr_fork_10 h_r11 h_tx_place_2 h_tr_comingFruits_3 h_tr_comingStandings_4 => ?_)
    refine And.intro (fun c12 => ?_) (fun c12 => ?_)
    · skip
      have c12 := mt (fa_eq _ _).mpr c12
      refine And.intro (fun c13 => ?_) (fun c13 => ?_)
      · skip
        have c13 := (fa_le _ _).mp c13
        refine And.intro (fun h9 => absurd h9 (by decide)) (fun _ => ?_)
        refine And.intro (fun h9 => absurd h9 (by decide)) (fun _ => ?_)
        exact hpost _ _ _ _ _ _ _ _ _ _ (by omega) (by omega) (by omega) (by omega)
      · skip
        have c13 := mt (fa_le _ _).mpr c13
        refine And.intro (t_in (by omega)) ?_
        intro v14 ev14
        have f15 := h_tx_signs tx_place_2.toNatClampNeg
        have hv14 := congrArg Int32.toInt ev14
        refine And.intro (fun c16 => ?_) (fun c16 => ?_)
        · skip
          have c16 := (fa_eq _ _).mp c16
          intro v17 ev17
          have f18 : Int32.toInt (tx_place_2 + 1) = Int32.toInt tx_place_2 + Int32.toInt (1 : Int32) := ta_add _ _ (by omega)
          rw [← ev17] at f18
          refine And.intro (fun _ => ?_) (fun h9 => absurd h9 (by decide))
          intro v19 ev19
          have f20 : Int32.toInt (x2 + 1) = Int32.toInt x2 + Int32.toInt (1 : Int32) := ta_add _ _ (by omega)
          rw [← ev19] at f20
          exact hKn v19 v17 tr_comingFruits_3 tr_comingStandings_4 tr_x_5 tr_height_6 tr_worth_7 tr_ripe_8 tr_foot_9 tr_fork_10 (by omega) (by omega) (by omega) (by omega) (by omega)
        · skip
          have c16 := mt (fa_eq _ _).mpr c16
          refine And.intro (fun h9 => absurd h9 (by decide)) (fun _ => ?_)
          exact hpost _ _ _ _ _ _ _ _ _ _ (by omega) (by omega) (by omega) (by omega)
    · skip
      have c12 := (fa_eq _ _).mp c12
      exact hpost _ _ _ _ _ _ _ _ _ _ (by omega) (by omega) (by omega) (by omega)
set_option maxHeartbeats 8000000 in
set_option maxRecDepth 200000 in
theorem tb_X3_readLines_18 {post : Int32 → Int32 → Int32 → Int32 → (Nat → Int32) → (Nat → Int32) → (Nat → Int32) → (Nat → Int32) → (Nat → Int32) → (Nat → Int32) → Prop} (tx_stop : Int32) (tx_signs : Nat → Int32) (tr_fruits : Int32) (tr_standings : Int32) (h_tx_stop : 0 ≤ Int32.toInt tx_stop ∧ Int32.toInt tx_stop ≤ 79) (h_tx_signs : ∀ k : Nat, 0 ≤ Int32.toInt (tx_signs k) ∧ Int32.toInt (tx_signs k) ≤ 65535) (h_tr_fruits : 0 ≤ Int32.toInt tr_fruits ∧ Int32.toInt tr_fruits ≤ 16) (h_tr_standings : 0 ≤ Int32.toInt tr_standings ∧ Int32.toInt tr_standings ≤ 8) (hpost : ∀ (r : Int32) (tx_place' : Int32) (tr_comingFruits' : Int32) (tr_comingStandings' : Int32) (tr_x' : Nat → Int32) (tr_height' : Nat → Int32) (tr_worth' : Nat → Int32) (tr_ripe' : Nat → Int32) (tr_foot' : Nat → Int32) (tr_fork' : Nat → Int32), (-1 ≤ Int32.toInt r ∧ Int32.toInt r ≤ 79) → (0 ≤ Int32.toInt tx_place' ∧ Int32.toInt tx_place' ≤ 80) → (0 ≤ Int32.toInt tr_comingFruits' ∧ Int32.toInt tr_comingFruits' ≤ 16) → (0 ≤ Int32.toInt tr_comingStandings' ∧ Int32.toInt tr_comingStandings' ≤ 8) → post r tx_place' tr_comingFruits' tr_comingStandings' tr_x' tr_height' tr_worth' tr_ripe' tr_foot' tr_fork') : ∀ (n : Nat) (x2 : Int32) (tx_place : Int32) (tr_comingFruits : Int32) (tr_comingStandings : Int32) (tr_x : Nat → Int32) (tr_height : Nat → Int32) (tr_worth : Nat → Int32) (tr_ripe : Nat → Int32) (tr_foot : Nat → Int32) (tr_fork : Nat → Int32), (1 ≤ Int32.toInt x2 ∧ Int32.toInt x2 ≤ 79) → (0 ≤ Int32.toInt tx_place ∧ Int32.toInt tx_place ≤ 79) → (0 ≤ Int32.toInt tr_comingFruits ∧ Int32.toInt tr_comingFruits ≤ 16) → (0 ≤ Int32.toInt tr_comingStandings ∧ Int32.toInt tr_comingStandings ≤ 8) → (79 - Int32.toInt x2 < (n : Int)) → wb_X3_readLines_18 post tx_stop tx_signs tr_fruits tr_standings n x2 tx_place tr_comingFruits tr_comingStandings tr_x tr_height tr_worth tr_ripe tr_foot tr_fork := by
  intro n
  induction n with
  | zero =>
    intro x2 tx_place tr_comingFruits tr_comingStandings tr_x tr_height tr_worth tr_ripe tr_foot tr_fork h_x2 h_tx_place h_tr_comingFruits h_tr_comingStandings hm
    exfalso; omega
  | succ n ih =>
    intro x2 tx_place tr_comingFruits tr_comingStandings tr_x tr_height tr_worth tr_ripe tr_foot tr_fork h_x2 h_tx_place h_tr_comingFruits h_tr_comingStandings hm
    exact ts_X3_readLines_18 tx_stop tx_signs tr_fruits tr_standings h_tx_stop h_tx_signs h_tr_fruits h_tr_standings hpost ih x2 tx_place tr_comingFruits tr_comingStandings tr_x tr_height tr_worth tr_ripe tr_foot tr_fork h_x2 h_tx_place h_tr_comingFruits h_tr_comingStandings (by omega)
set_option maxHeartbeats 8000000 in
set_option maxRecDepth 200000 in
theorem t_X3_readLines {post : Int32 → Int32 → Int32 → Int32 → (Nat → Int32) → (Nat → Int32) → (Nat → Int32) → (Nat → Int32) → (Nat → Int32) → (Nat → Int32) → Prop} {tx_place : Int32} {tx_stop : Int32} {tx_signs : Nat → Int32} {tr_fruits : Int32} {tr_standings : Int32} {tr_comingFruits : Int32} {tr_comingStandings : Int32} {tr_x : Nat → Int32} {tr_height : Nat → Int32} {tr_worth : Nat → Int32} {tr_ripe : Nat → Int32} {tr_foot : Nat → Int32} {tr_fork : Nat → Int32} (h_tx_place : 0 ≤ Int32.toInt tx_place ∧ Int32.toInt tx_place ≤ 0) (h_tx_stop : 0 ≤ Int32.toInt tx_stop ∧ Int32.toInt tx_stop ≤ 79) (h_tx_signs : ∀ k : Nat, 0 ≤ Int32.toInt (tx_signs k) ∧ Int32.toInt (tx_signs k) ≤ 65535) (h_tr_fruits : 0 ≤ Int32.toInt tr_fruits ∧ Int32.toInt tr_fruits ≤ 16) (h_tr_standings : 0 ≤ Int32.toInt tr_standings ∧ Int32.toInt tr_standings ≤ 8) (h_tr_comingFruits : 0 ≤ Int32.toInt tr_comingFruits ∧ Int32.toInt tr_comingFruits ≤ 16) (h_tr_comingStandings : 0 ≤ Int32.toInt tr_comingStandings ∧ Int32.toInt tr_comingStandings ≤ 8) (hpost : ∀ (r : Int32) (tx_place' : Int32) (tr_comingFruits' : Int32) (tr_comingStandings' : Int32) (tr_x' : Nat → Int32) (tr_height' : Nat → Int32) (tr_worth' : Nat → Int32) (tr_ripe' : Nat → Int32) (tr_foot' : Nat → Int32) (tr_fork' : Nat → Int32), (-1 ≤ Int32.toInt r ∧ Int32.toInt r ≤ 79) → (0 ≤ Int32.toInt tx_place' ∧ Int32.toInt tx_place' ≤ 80) → (0 ≤ Int32.toInt tr_comingFruits' ∧ Int32.toInt tr_comingFruits' ≤ 16) → (0 ≤ Int32.toInt tr_comingStandings' ∧ Int32.toInt tr_comingStandings' ≤ 8) → post r tx_place' tr_comingFruits' tr_comingStandings' tr_x' tr_height' tr_worth' tr_ripe' tr_foot' tr_fork') : wp_X3_readLines post tx_place tx_stop tx_signs tr_fruits tr_standings tr_comingFruits tr_comingStandings tr_x tr_height tr_worth tr_ripe tr_foot tr_fork := by
  have l0 : Int32.toInt (1 : Int32) = 1 := (by decide)
  exact ⟨80, tb_X3_readLines_18 tx_stop tx_signs tr_fruits tr_standings h_tx_stop h_tx_signs h_tr_fruits h_tr_standings hpost _ 1 tx_place tr_fruits tr_standings tr_x tr_height tr_worth tr_ripe tr_foot tr_fork (by omega) (by omega) (by omega) (by omega) (by omega)⟩
set_option maxHeartbeats 8000000 in
set_option maxRecDepth 200000 in
theorem ts_X9_orchard_94 {post : Int32 → Int32 → Int32 → Int32 → Int32 → Int32 → Int32 → Int32 → (Nat → Int32) → (Nat → Int32) → (Nat → Int32) → (Nat → Int32) → (Nat → Int32) → (Nat → Int32) → Int32 → (Nat → Int32) → Prop} (tx_signs : Nat → Int32) (h_tx_signs : ∀ k : Nat, 0 ≤ Int32.toInt (tx_signs k) ∧ Int32.toInt (tx_signs k) ≤ 65535) (hpost : ∀ (r : Int32) (tx_length' : Int32) (tx_place' : Int32) (tx_stop' : Int32) (tr_fruits' : Int32) (tr_standings' : Int32) (tr_comingFruits' : Int32) (tr_comingStandings' : Int32) (tr_x' : Nat → Int32) (tr_height' : Nat → Int32) (tr_worth' : Nat → Int32) (tr_ripe' : Nat → Int32) (tr_foot' : Nat → Int32) (tr_fork' : Nat → Int32) (pa_undoable' : Int32) (pa_isKept' : Nat → Int32), (-100 ≤ Int32.toInt r ∧ Int32.toInt r ≤ 79) → (0 ≤ Int32.toInt tx_length' ∧ Int32.toInt tx_length' ≤ 0) → (0 ≤ Int32.toInt tx_place' ∧ Int32.toInt tx_place' ≤ 80) → (0 ≤ Int32.toInt tx_stop' ∧ Int32.toInt tx_stop' ≤ 79) → (0 ≤ Int32.toInt tr_fruits' ∧ Int32.toInt tr_fruits' ≤ 16) → (0 ≤ Int32.toInt tr_standings' ∧ Int32.toInt tr_standings' ≤ 8) → (0 ≤ Int32.toInt tr_comingFruits' ∧ Int32.toInt tr_comingFruits' ≤ 16) → (0 ≤ Int32.toInt tr_comingStandings' ∧ Int32.toInt tr_comingStandings' ≤ 8) → (0 ≤ Int32.toInt pa_undoable' ∧ Int32.toInt pa_undoable' ≤ 12) → (∀ k : Nat, 0 ≤ Int32.toInt (pa_isKept' k) ∧ Int32.toInt (pa_isKept' k) ≤ 1) → post r tx_length' tx_place' tx_stop' tr_fruits' tr_standings' tr_comingFruits' tr_comingStandings' tr_x' tr_height' tr_worth' tr_ripe' tr_foot' tr_fork' pa_undoable' pa_isKept') (x3 : Int32) (tx_length : Int32) (tx_place : Int32) (tx_stop : Int32) (tr_fruits : Int32) (tr_standings : Int32) (tr_comingFruits : Int32) (tr_comingStandings : Int32) (tr_x : Nat → Int32) (tr_height : Nat → Int32) (tr_worth : Nat → Int32) (tr_ripe : Nat → Int32) (tr_foot : Nat → Int32) (tr_fork : Nat → Int32) (pa_undoable : Int32) (pa_isKept : Nat → Int32) (h_x3 : -100 ≤ Int32.toInt x3 ∧ Int32.toInt x3 ≤ 79) (h_tx_length : 0 ≤ Int32.toInt tx_length ∧ Int32.toInt tx_length ≤ 80) (h_tx_place : 0 ≤ Int32.toInt tx_place ∧ Int32.toInt tx_place ≤ 80) (h_tx_stop : 0 ≤ Int32.toInt tx_stop ∧ Int32.toInt tx_stop ≤ 79) (h_tr_fruits : 0 ≤ Int32.toInt tr_fruits ∧ Int32.toInt tr_fruits ≤ 16) (h_tr_standings : 0 ≤ Int32.toInt tr_standings ∧ Int32.toInt tr_standings ≤ 8) (h_tr_comingFruits : 0 ≤ Int32.toInt tr_comingFruits ∧ Int32.toInt tr_comingFruits ≤ 16) (h_tr_comingStandings : 0 ≤ Int32.toInt tr_comingStandings ∧ Int32.toInt tr_comingStandings ≤ 8) (h_pa_undoable : 0 ≤ Int32.toInt pa_undoable ∧ Int32.toInt pa_undoable ≤ 12) (h_pa_isKept : ∀ k : Nat, 0 ≤ Int32.toInt (pa_isKept k) ∧ Int32.toInt (pa_isKept k) ≤ 1) : ws_X9_orchard_94 post tx_signs x3 tx_length tx_place tx_stop tr_fruits tr_standings tr_comingFruits tr_comingStandings tr_x tr_height tr_worth tr_ripe tr_foot tr_fork pa_undoable pa_isKept := by
  have l0 : Int32.toInt (0 : Int32) = 0 := (by decide)
  exact hpost _ _ _ _ _ _ _ _ _ _ _ _ _ _ _ _ (by omega) (by omega) (by omega) (by omega) (by omega) (by omega) (by omega) (by omega) (by omega) (fun k => by have q9 := h_pa_isKept k; omega)
set_option maxHeartbeats 8000000 in
set_option maxRecDepth 200000 in
theorem ts_X9_orchard_71 {post : Int32 → Int32 → Int32 → Int32 → Int32 → Int32 → Int32 → Int32 → (Nat → Int32) → (Nat → Int32) → (Nat → Int32) → (Nat → Int32) → (Nat → Int32) → (Nat → Int32) → Int32 → (Nat → Int32) → Prop} (tx_signs : Nat → Int32) (h_tx_signs : ∀ k : Nat, 0 ≤ Int32.toInt (tx_signs k) ∧ Int32.toInt (tx_signs k) ≤ 65535) (hpost : ∀ (r : Int32) (tx_length' : Int32) (tx_place' : Int32) (tx_stop' : Int32) (tr_fruits' : Int32) (tr_standings' : Int32) (tr_comingFruits' : Int32) (tr_comingStandings' : Int32) (tr_x' : Nat → Int32) (tr_height' : Nat → Int32) (tr_worth' : Nat → Int32) (tr_ripe' : Nat → Int32) (tr_foot' : Nat → Int32) (tr_fork' : Nat → Int32) (pa_undoable' : Int32) (pa_isKept' : Nat → Int32), (-100 ≤ Int32.toInt r ∧ Int32.toInt r ≤ 79) → (0 ≤ Int32.toInt tx_length' ∧ Int32.toInt tx_length' ≤ 0) → (0 ≤ Int32.toInt tx_place' ∧ Int32.toInt tx_place' ≤ 80) → (0 ≤ Int32.toInt tx_stop' ∧ Int32.toInt tx_stop' ≤ 79) → (0 ≤ Int32.toInt tr_fruits' ∧ Int32.toInt tr_fruits' ≤ 16) → (0 ≤ Int32.toInt tr_standings' ∧ Int32.toInt tr_standings' ≤ 8) → (0 ≤ Int32.toInt tr_comingFruits' ∧ Int32.toInt tr_comingFruits' ≤ 16) → (0 ≤ Int32.toInt tr_comingStandings' ∧ Int32.toInt tr_comingStandings' ≤ 8) → (0 ≤ Int32.toInt pa_undoable' ∧ Int32.toInt pa_undoable' ≤ 12) → (∀ k : Nat, 0 ≤ Int32.toInt (pa_isKept' k) ∧ Int32.toInt (pa_isKept' k) ≤ 1) → post r tx_length' tx_place' tx_stop' tr_fruits' tr_standings' tr_comingFruits' tr_comingStandings' tr_x' tr_height' tr_worth' tr_ripe' tr_foot' tr_fork' pa_undoable' pa_isKept') (x1 : Int32) (x2 : Int32) (k0 : Int32) (tx_length : Int32) (tx_place : Int32) (tx_stop : Int32) (tr_fruits : Int32) (tr_standings : Int32) (tr_comingFruits : Int32) (tr_comingStandings : Int32) (tr_x : Nat → Int32) (tr_height : Nat → Int32) (tr_worth : Nat → Int32) (tr_ripe : Nat → Int32) (tr_foot : Nat → Int32) (tr_fork : Nat → Int32) (pa_undoable : Int32) (pa_isKept : Nat → Int32) (h_x1 : -1 ≤ Int32.toInt x1 ∧ Int32.toInt x1 ≤ 79) (h_x2 : 0 ≤ Int32.toInt x2 ∧ Int32.toInt x2 ≤ 1) (h_k0 : -100 ≤ Int32.toInt k0 ∧ Int32.toInt k0 ≤ 79) (h_tx_length : 0 ≤ Int32.toInt tx_length ∧ Int32.toInt tx_length ≤ 80) (h_tx_place : 0 ≤ Int32.toInt tx_place ∧ Int32.toInt tx_place ≤ 80) (h_tx_stop : 0 ≤ Int32.toInt tx_stop ∧ Int32.toInt tx_stop ≤ 79) (h_tr_fruits : 0 ≤ Int32.toInt tr_fruits ∧ Int32.toInt tr_fruits ≤ 16) (h_tr_standings : 0 ≤ Int32.toInt tr_standings ∧ Int32.toInt tr_standings ≤ 8) (h_tr_comingFruits : 0 ≤ Int32.toInt tr_comingFruits ∧ Int32.toInt tr_comingFruits ≤ 16) (h_tr_comingStandings : 0 ≤ Int32.toInt tr_comingStandings ∧ Int32.toInt tr_comingStandings ≤ 8) (h_pa_undoable : 0 ≤ Int32.toInt pa_undoable ∧ Int32.toInt pa_undoable ≤ 12) (h_pa_isKept : ∀ k : Nat, 0 ≤ Int32.toInt (pa_isKept k) ∧ Int32.toInt (pa_isKept k) ≤ 1) : ws_X9_orchard_71 post tx_signs x1 x2 k0 tx_length tx_place tx_stop tr_fruits tr_standings tr_comingFruits tr_comingStandings tr_x tr_height tr_worth tr_ripe tr_foot tr_fork pa_undoable pa_isKept := by
  have l0 : Int32.toInt (0 : Int32) = 0 := (by decide)
  refine And.intro (fun c1 => ?_) (fun c1 => ?_)
  · skip
    have c1 := (fa_eq _ _).mp c1
    exact ts_X9_orchard_94 tx_signs h_tx_signs hpost k0 tx_length tx_place tx_stop tr_fruits tr_standings tr_comingFruits tr_comingStandings tr_x tr_height tr_worth tr_ripe tr_foot tr_fork pa_undoable pa_isKept (by omega) (by omega) (by omega) (by omega) (by omega) (by omega) (by omega) (by omega) (by omega) (fun k => by have q9 := h_pa_isKept k; omega)
  · skip
    have c1 := mt (fa_eq _ _).mpr c1
    refine And.intro (fun c2 => ?_) (fun c2 => ?_)
    · skip
      have c2 := (fa_le _ _).mp c2
      exact ts_X9_orchard_94 tx_signs h_tx_signs hpost k0 tx_length tx_place tx_stop tr_fruits tr_standings tr_comingFruits tr_comingStandings tr_x tr_height tr_worth tr_ripe tr_foot tr_fork pa_undoable pa_isKept (by omega) (by omega) (by omega) (by omega) (by omega) (by omega) (by omega) (by omega) (by omega) (fun k => by have q9 := h_pa_isKept k; omega)
    · skip
      have c2 := mt (fa_le _ _).mpr c2
      refine t_X4_forgetAll (by omega) (fun k => by have q9 := h_pa_isKept k; omega) (fun pa_undoable_3 pa_isKept_4 h_pa_undoable_3 h_pa_isKept_4 => ?_)
      exact ts_X9_orchard_94 tx_signs h_tx_signs hpost k0 tx_length tx_place tx_stop tr_comingFruits tr_comingStandings tr_comingFruits tr_comingStandings tr_x tr_height tr_worth tr_ripe tr_foot tr_fork pa_undoable_3 pa_isKept_4 (by omega) (by omega) (by omega) (by omega) (by omega) (by omega) (by omega) (by omega) (by omega) (fun k => by have q9 := h_pa_isKept_4 k; omega)
set_option maxHeartbeats 8000000 in
set_option maxRecDepth 200000 in
theorem ts_X9_orchard_55 {post : Int32 → Int32 → Int32 → Int32 → Int32 → Int32 → Int32 → Int32 → (Nat → Int32) → (Nat → Int32) → (Nat → Int32) → (Nat → Int32) → (Nat → Int32) → (Nat → Int32) → Int32 → (Nat → Int32) → Prop} (tx_signs : Nat → Int32) (h_tx_signs : ∀ k : Nat, 0 ≤ Int32.toInt (tx_signs k) ∧ Int32.toInt (tx_signs k) ≤ 65535) (hpost : ∀ (r : Int32) (tx_length' : Int32) (tx_place' : Int32) (tx_stop' : Int32) (tr_fruits' : Int32) (tr_standings' : Int32) (tr_comingFruits' : Int32) (tr_comingStandings' : Int32) (tr_x' : Nat → Int32) (tr_height' : Nat → Int32) (tr_worth' : Nat → Int32) (tr_ripe' : Nat → Int32) (tr_foot' : Nat → Int32) (tr_fork' : Nat → Int32) (pa_undoable' : Int32) (pa_isKept' : Nat → Int32), (-100 ≤ Int32.toInt r ∧ Int32.toInt r ≤ 79) → (0 ≤ Int32.toInt tx_length' ∧ Int32.toInt tx_length' ≤ 0) → (0 ≤ Int32.toInt tx_place' ∧ Int32.toInt tx_place' ≤ 80) → (0 ≤ Int32.toInt tx_stop' ∧ Int32.toInt tx_stop' ≤ 79) → (0 ≤ Int32.toInt tr_fruits' ∧ Int32.toInt tr_fruits' ≤ 16) → (0 ≤ Int32.toInt tr_standings' ∧ Int32.toInt tr_standings' ≤ 8) → (0 ≤ Int32.toInt tr_comingFruits' ∧ Int32.toInt tr_comingFruits' ≤ 16) → (0 ≤ Int32.toInt tr_comingStandings' ∧ Int32.toInt tr_comingStandings' ≤ 8) → (0 ≤ Int32.toInt pa_undoable' ∧ Int32.toInt pa_undoable' ≤ 12) → (∀ k : Nat, 0 ≤ Int32.toInt (pa_isKept' k) ∧ Int32.toInt (pa_isKept' k) ≤ 1) → post r tx_length' tx_place' tx_stop' tr_fruits' tr_standings' tr_comingFruits' tr_comingStandings' tr_x' tr_height' tr_worth' tr_ripe' tr_foot' tr_fork' pa_undoable' pa_isKept') (x1 : Int32) (k0 : Int32) (tx_length : Int32) (tx_place : Int32) (tx_stop : Int32) (tr_fruits : Int32) (tr_standings : Int32) (tr_comingFruits : Int32) (tr_comingStandings : Int32) (tr_x : Nat → Int32) (tr_height : Nat → Int32) (tr_worth : Nat → Int32) (tr_ripe : Nat → Int32) (tr_foot : Nat → Int32) (tr_fork : Nat → Int32) (pa_undoable : Int32) (pa_isKept : Nat → Int32) (h_x1 : -1 ≤ Int32.toInt x1 ∧ Int32.toInt x1 ≤ 79) (h_k0 : 0 ≤ Int32.toInt k0 ∧ Int32.toInt k0 ≤ 1) (h_tx_length : 0 ≤ Int32.toInt tx_length ∧ Int32.toInt tx_length ≤ 80) (h_tx_place : 0 ≤ Int32.toInt tx_place ∧ Int32.toInt tx_place ≤ 80) (h_tx_stop : 0 ≤ Int32.toInt tx_stop ∧ Int32.toInt tx_stop ≤ 79) (h_tr_fruits : 0 ≤ Int32.toInt tr_fruits ∧ Int32.toInt tr_fruits ≤ 16) (h_tr_standings : 0 ≤ Int32.toInt tr_standings ∧ Int32.toInt tr_standings ≤ 8) (h_tr_comingFruits : 0 ≤ Int32.toInt tr_comingFruits ∧ Int32.toInt tr_comingFruits ≤ 16) (h_tr_comingStandings : 0 ≤ Int32.toInt tr_comingStandings ∧ Int32.toInt tr_comingStandings ≤ 8) (h_pa_undoable : 0 ≤ Int32.toInt pa_undoable ∧ Int32.toInt pa_undoable ≤ 12) (h_pa_isKept : ∀ k : Nat, 0 ≤ Int32.toInt (pa_isKept k) ∧ Int32.toInt (pa_isKept k) ≤ 1) : ws_X9_orchard_55 post tx_signs x1 k0 tx_length tx_place tx_stop tr_fruits tr_standings tr_comingFruits tr_comingStandings tr_x tr_height tr_worth tr_ripe tr_foot tr_fork pa_undoable pa_isKept := by
  have l0 : Int32.toInt ((-1) : Int32) = -1 := (by decide)
  have l1 : Int32.toInt (0 : Int32) = 0 := (by decide)
  refine And.intro (fun c5 => ?_) (fun c5 => ?_)
  · skip
    have c5 := (fa_eq _ _).mp c5
    have f6 : Int32.toInt ((-1) - tx_place) = Int32.toInt ((-1) : Int32) - Int32.toInt tx_place := ta_sub _ _ (by omega)
    obtain ⟨w7, ew7⟩ : ∃ w9 : Int32, w9 = (-1) - tx_place := ⟨_, rfl⟩
    rw [← ew7] at f6
    have key9 := ts_X9_orchard_71 tx_signs h_tx_signs hpost x1 k0 w7 tx_length tx_place tx_stop tr_fruits tr_standings tr_comingFruits tr_comingStandings tr_x tr_height tr_worth tr_ripe tr_foot tr_fork pa_undoable pa_isKept (by omega) (by omega) (by omega) (by omega) (by omega) (by omega) (by omega) (by omega) (by omega) (by omega) (by omega) (fun k => by have q9 := h_pa_isKept k; omega)
    subst ew7
    exact key9
  · skip
    have c5 := mt (fa_eq _ _).mpr c5
    exact ts_X9_orchard_71 tx_signs h_tx_signs hpost x1 k0 x1 tx_length tx_place tx_stop tr_fruits tr_standings tr_comingFruits tr_comingStandings tr_x tr_height tr_worth tr_ripe tr_foot tr_fork pa_undoable pa_isKept (by omega) (by omega) (by omega) (by omega) (by omega) (by omega) (by omega) (by omega) (by omega) (by omega) (by omega) (fun k => by have q9 := h_pa_isKept k; omega)
set_option maxHeartbeats 8000000 in
set_option maxRecDepth 200000 in
theorem ts_X9_orchard_54 {post : Int32 → Int32 → Int32 → Int32 → Int32 → Int32 → Int32 → Int32 → (Nat → Int32) → (Nat → Int32) → (Nat → Int32) → (Nat → Int32) → (Nat → Int32) → (Nat → Int32) → Int32 → (Nat → Int32) → Prop} (tx_signs : Nat → Int32) (h_tx_signs : ∀ k : Nat, 0 ≤ Int32.toInt (tx_signs k) ∧ Int32.toInt (tx_signs k) ≤ 65535) (hpost : ∀ (r : Int32) (tx_length' : Int32) (tx_place' : Int32) (tx_stop' : Int32) (tr_fruits' : Int32) (tr_standings' : Int32) (tr_comingFruits' : Int32) (tr_comingStandings' : Int32) (tr_x' : Nat → Int32) (tr_height' : Nat → Int32) (tr_worth' : Nat → Int32) (tr_ripe' : Nat → Int32) (tr_foot' : Nat → Int32) (tr_fork' : Nat → Int32) (pa_undoable' : Int32) (pa_isKept' : Nat → Int32), (-100 ≤ Int32.toInt r ∧ Int32.toInt r ≤ 79) → (0 ≤ Int32.toInt tx_length' ∧ Int32.toInt tx_length' ≤ 0) → (0 ≤ Int32.toInt tx_place' ∧ Int32.toInt tx_place' ≤ 80) → (0 ≤ Int32.toInt tx_stop' ∧ Int32.toInt tx_stop' ≤ 79) → (0 ≤ Int32.toInt tr_fruits' ∧ Int32.toInt tr_fruits' ≤ 16) → (0 ≤ Int32.toInt tr_standings' ∧ Int32.toInt tr_standings' ≤ 8) → (0 ≤ Int32.toInt tr_comingFruits' ∧ Int32.toInt tr_comingFruits' ≤ 16) → (0 ≤ Int32.toInt tr_comingStandings' ∧ Int32.toInt tr_comingStandings' ≤ 8) → (0 ≤ Int32.toInt pa_undoable' ∧ Int32.toInt pa_undoable' ≤ 12) → (∀ k : Nat, 0 ≤ Int32.toInt (pa_isKept' k) ∧ Int32.toInt (pa_isKept' k) ≤ 1) → post r tx_length' tx_place' tx_stop' tr_fruits' tr_standings' tr_comingFruits' tr_comingStandings' tr_x' tr_height' tr_worth' tr_ripe' tr_foot' tr_fork' pa_undoable' pa_isKept') (x1 : Int32) (tx_length : Int32) (tx_place : Int32) (tx_stop : Int32) (tr_fruits : Int32) (tr_standings : Int32) (tr_comingFruits : Int32) (tr_comingStandings : Int32) (tr_x : Nat → Int32) (tr_height : Nat → Int32) (tr_worth : Nat → Int32) (tr_ripe : Nat → Int32) (tr_foot : Nat → Int32) (tr_fork : Nat → Int32) (pa_undoable : Int32) (pa_isKept : Nat → Int32) (h_x1 : -1 ≤ Int32.toInt x1 ∧ Int32.toInt x1 ≤ 79) (h_tx_length : 0 ≤ Int32.toInt tx_length ∧ Int32.toInt tx_length ≤ 80) (h_tx_place : 0 ≤ Int32.toInt tx_place ∧ Int32.toInt tx_place ≤ 80) (h_tx_stop : 0 ≤ Int32.toInt tx_stop ∧ Int32.toInt tx_stop ≤ 79) (h_tr_fruits : 0 ≤ Int32.toInt tr_fruits ∧ Int32.toInt tr_fruits ≤ 16) (h_tr_standings : 0 ≤ Int32.toInt tr_standings ∧ Int32.toInt tr_standings ≤ 8) (h_tr_comingFruits : 0 ≤ Int32.toInt tr_comingFruits ∧ Int32.toInt tr_comingFruits ≤ 16) (h_tr_comingStandings : 0 ≤ Int32.toInt tr_comingStandings ∧ Int32.toInt tr_comingStandings ≤ 8) (h_pa_undoable : 0 ≤ Int32.toInt pa_undoable ∧ Int32.toInt pa_undoable ≤ 12) (h_pa_isKept : ∀ k : Nat, 0 ≤ Int32.toInt (pa_isKept k) ∧ Int32.toInt (pa_isKept k) ≤ 1) : ws_X9_orchard_54 post tx_signs x1 tx_length tx_place tx_stop tr_fruits tr_standings tr_comingFruits tr_comingStandings tr_x tr_height tr_worth tr_ripe tr_foot tr_fork pa_undoable pa_isKept := by
  have l0 : Int32.toInt (0 : Int32) = 0 := (by decide)
  exact ts_X9_orchard_55 tx_signs h_tx_signs hpost x1 0 tx_length tx_place tx_stop tr_fruits tr_standings tr_comingFruits tr_comingStandings tr_x tr_height tr_worth tr_ripe tr_foot tr_fork pa_undoable pa_isKept (by omega) (by omega) (by omega) (by omega) (by omega) (by omega) (by omega) (by omega) (by omega) (by omega) (fun k => by have q9 := h_pa_isKept k; omega)
set_option maxHeartbeats 8000000 in
set_option maxRecDepth 200000 in
theorem ts_X9_orchard_34 {post : Int32 → Int32 → Int32 → Int32 → Int32 → Int32 → Int32 → Int32 → (Nat → Int32) → (Nat → Int32) → (Nat → Int32) → (Nat → Int32) → (Nat → Int32) → (Nat → Int32) → Int32 → (Nat → Int32) → Prop} (tx_signs : Nat → Int32) (h_tx_signs : ∀ k : Nat, 0 ≤ Int32.toInt (tx_signs k) ∧ Int32.toInt (tx_signs k) ≤ 65535) (hpost : ∀ (r : Int32) (tx_length' : Int32) (tx_place' : Int32) (tx_stop' : Int32) (tr_fruits' : Int32) (tr_standings' : Int32) (tr_comingFruits' : Int32) (tr_comingStandings' : Int32) (tr_x' : Nat → Int32) (tr_height' : Nat → Int32) (tr_worth' : Nat → Int32) (tr_ripe' : Nat → Int32) (tr_foot' : Nat → Int32) (tr_fork' : Nat → Int32) (pa_undoable' : Int32) (pa_isKept' : Nat → Int32), (-100 ≤ Int32.toInt r ∧ Int32.toInt r ≤ 79) → (0 ≤ Int32.toInt tx_length' ∧ Int32.toInt tx_length' ≤ 0) → (0 ≤ Int32.toInt tx_place' ∧ Int32.toInt tx_place' ≤ 80) → (0 ≤ Int32.toInt tx_stop' ∧ Int32.toInt tx_stop' ≤ 79) → (0 ≤ Int32.toInt tr_fruits' ∧ Int32.toInt tr_fruits' ≤ 16) → (0 ≤ Int32.toInt tr_standings' ∧ Int32.toInt tr_standings' ≤ 8) → (0 ≤ Int32.toInt tr_comingFruits' ∧ Int32.toInt tr_comingFruits' ≤ 16) → (0 ≤ Int32.toInt tr_comingStandings' ∧ Int32.toInt tr_comingStandings' ≤ 8) → (0 ≤ Int32.toInt pa_undoable' ∧ Int32.toInt pa_undoable' ≤ 12) → (∀ k : Nat, 0 ≤ Int32.toInt (pa_isKept' k) ∧ Int32.toInt (pa_isKept' k) ≤ 1) → post r tx_length' tx_place' tx_stop' tr_fruits' tr_standings' tr_comingFruits' tr_comingStandings' tr_x' tr_height' tr_worth' tr_ripe' tr_foot' tr_fork' pa_undoable' pa_isKept') (k0 : Int32) (tx_length : Int32) (tx_place : Int32) (tx_stop : Int32) (tr_fruits : Int32) (tr_standings : Int32) (tr_comingFruits : Int32) (tr_comingStandings : Int32) (tr_x : Nat → Int32) (tr_height : Nat → Int32) (tr_worth : Nat → Int32) (tr_ripe : Nat → Int32) (tr_foot : Nat → Int32) (tr_fork : Nat → Int32) (pa_undoable : Int32) (pa_isKept : Nat → Int32) (h_k0 : -1 ≤ Int32.toInt k0 ∧ Int32.toInt k0 ≤ 79) (h_tx_length : 0 ≤ Int32.toInt tx_length ∧ Int32.toInt tx_length ≤ 80) (h_tx_place : 0 ≤ Int32.toInt tx_place ∧ Int32.toInt tx_place ≤ 80) (h_tx_stop : 0 ≤ Int32.toInt tx_stop ∧ Int32.toInt tx_stop ≤ 79) (h_tr_fruits : 0 ≤ Int32.toInt tr_fruits ∧ Int32.toInt tr_fruits ≤ 16) (h_tr_standings : 0 ≤ Int32.toInt tr_standings ∧ Int32.toInt tr_standings ≤ 8) (h_tr_comingFruits : 0 ≤ Int32.toInt tr_comingFruits ∧ Int32.toInt tr_comingFruits ≤ 16) (h_tr_comingStandings : 0 ≤ Int32.toInt tr_comingStandings ∧ Int32.toInt tr_comingStandings ≤ 8) (h_pa_undoable : 0 ≤ Int32.toInt pa_undoable ∧ Int32.toInt pa_undoable ≤ 12) (h_pa_isKept : ∀ k : Nat, 0 ≤ Int32.toInt (pa_isKept k) ∧ Int32.toInt (pa_isKept k) ≤ 1) : ws_X9_orchard_34 post tx_signs k0 tx_length tx_place tx_stop tr_fruits tr_standings tr_comingFruits tr_comingStandings tr_x tr_height tr_worth tr_ripe tr_foot tr_fork pa_undoable pa_isKept := by
  have l0 : Int32.toInt ((-1) : Int32) = -1 := (by decide)
  have l1 : Int32.toInt (1 : Int32) = 1 := (by decide)
  refine And.intro (fun c8 => ?_) (fun c8 => ?_)
  · skip
    have c8 := (fa_eq _ _).mp c8
    exact ts_X9_orchard_54 tx_signs h_tx_signs hpost k0 tx_length tx_place tx_stop tr_fruits tr_standings tr_comingFruits tr_comingStandings tr_x tr_height tr_worth tr_ripe tr_foot tr_fork pa_undoable pa_isKept (by omega) (by omega) (by omega) (by omega) (by omega) (by omega) (by omega) (by omega) (by omega) (fun k => by have q9 := h_pa_isKept k; omega)
  · skip
    have c8 := mt (fa_eq _ _).mpr c8
    refine And.intro (fun c9 => ?_) (fun c9 => ?_)
    · skip
      have c9 := mt (fa_eq _ _).mpr c9
      refine And.intro (fun _ => ?_) (fun h9 => absurd h9 (by decide))
      exact ts_X9_orchard_54 tx_signs h_tx_signs hpost k0 tx_length tx_place tx_stop tr_fruits tr_standings tr_comingFruits tr_comingStandings tr_x tr_height tr_worth tr_ripe tr_foot tr_fork pa_undoable pa_isKept (by omega) (by omega) (by omega) (by omega) (by omega) (by omega) (by omega) (by omega) (by omega) (fun k => by have q9 := h_pa_isKept k; omega)
    · skip
      have c9 := (fa_eq _ _).mp c9
      refine And.intro (fun h9 => absurd h9 (by decide)) (fun _ => ?_)
      exact ts_X9_orchard_55 tx_signs h_tx_signs hpost k0 1 tx_length tx_place tx_stop tr_fruits tr_standings tr_comingFruits tr_comingStandings tr_x tr_height tr_worth tr_ripe tr_foot tr_fork pa_undoable pa_isKept (by omega) (by omega) (by omega) (by omega) (by omega) (by omega) (by omega) (by omega) (by omega) (by omega) (fun k => by have q9 := h_pa_isKept k; omega)
set_option maxHeartbeats 8000000 in
set_option maxRecDepth 200000 in
theorem t_X9_orchard {post : Int32 → Int32 → Int32 → Int32 → Int32 → Int32 → Int32 → Int32 → (Nat → Int32) → (Nat → Int32) → (Nat → Int32) → (Nat → Int32) → (Nat → Int32) → (Nat → Int32) → Int32 → (Nat → Int32) → Prop} {tx_length : Int32} {tx_place : Int32} {tx_stop : Int32} {tx_signs : Nat → Int32} {tr_fruits : Int32} {tr_standings : Int32} {tr_comingFruits : Int32} {tr_comingStandings : Int32} {tr_x : Nat → Int32} {tr_height : Nat → Int32} {tr_worth : Nat → Int32} {tr_ripe : Nat → Int32} {tr_foot : Nat → Int32} {tr_fork : Nat → Int32} {pa_undoable : Int32} {pa_isKept : Nat → Int32} (h_tx_length : 0 ≤ Int32.toInt tx_length ∧ Int32.toInt tx_length ≤ 80) (h_tx_place : 0 ≤ Int32.toInt tx_place ∧ Int32.toInt tx_place ≤ 80) (h_tx_stop : 0 ≤ Int32.toInt tx_stop ∧ Int32.toInt tx_stop ≤ 80) (h_tx_signs : ∀ k : Nat, 0 ≤ Int32.toInt (tx_signs k) ∧ Int32.toInt (tx_signs k) ≤ 65535) (h_tr_fruits : 0 ≤ Int32.toInt tr_fruits ∧ Int32.toInt tr_fruits ≤ 16) (h_tr_standings : 0 ≤ Int32.toInt tr_standings ∧ Int32.toInt tr_standings ≤ 8) (h_tr_comingFruits : 0 ≤ Int32.toInt tr_comingFruits ∧ Int32.toInt tr_comingFruits ≤ 16) (h_tr_comingStandings : 0 ≤ Int32.toInt tr_comingStandings ∧ Int32.toInt tr_comingStandings ≤ 8) (h_pa_undoable : 0 ≤ Int32.toInt pa_undoable ∧ Int32.toInt pa_undoable ≤ 12) (h_pa_isKept : ∀ k : Nat, 0 ≤ Int32.toInt (pa_isKept k) ∧ Int32.toInt (pa_isKept k) ≤ 1) (hpost : ∀ (r : Int32) (tx_length' : Int32) (tx_place' : Int32) (tx_stop' : Int32) (tr_fruits' : Int32) (tr_standings' : Int32) (tr_comingFruits' : Int32) (tr_comingStandings' : Int32) (tr_x' : Nat → Int32) (tr_height' : Nat → Int32) (tr_worth' : Nat → Int32) (tr_ripe' : Nat → Int32) (tr_foot' : Nat → Int32) (tr_fork' : Nat → Int32) (pa_undoable' : Int32) (pa_isKept' : Nat → Int32), (-100 ≤ Int32.toInt r ∧ Int32.toInt r ≤ 79) → (0 ≤ Int32.toInt tx_length' ∧ Int32.toInt tx_length' ≤ 0) → (0 ≤ Int32.toInt tx_place' ∧ Int32.toInt tx_place' ≤ 80) → (0 ≤ Int32.toInt tx_stop' ∧ Int32.toInt tx_stop' ≤ 79) → (0 ≤ Int32.toInt tr_fruits' ∧ Int32.toInt tr_fruits' ≤ 16) → (0 ≤ Int32.toInt tr_standings' ∧ Int32.toInt tr_standings' ≤ 8) → (0 ≤ Int32.toInt tr_comingFruits' ∧ Int32.toInt tr_comingFruits' ≤ 16) → (0 ≤ Int32.toInt tr_comingStandings' ∧ Int32.toInt tr_comingStandings' ≤ 8) → (0 ≤ Int32.toInt pa_undoable' ∧ Int32.toInt pa_undoable' ≤ 12) → (∀ k : Nat, 0 ≤ Int32.toInt (pa_isKept' k) ∧ Int32.toInt (pa_isKept' k) ≤ 1) → post r tx_length' tx_place' tx_stop' tr_fruits' tr_standings' tr_comingFruits' tr_comingStandings' tr_x' tr_height' tr_worth' tr_ripe' tr_foot' tr_fork' pa_undoable' pa_isKept') : wp_X9_orchard post tx_length tx_place tx_stop tx_signs tr_fruits tr_standings tr_comingFruits tr_comingStandings tr_x tr_height tr_worth tr_ripe tr_foot tr_fork pa_undoable pa_isKept := by
  have l0 : Int32.toInt (0 : Int32) = 0 := (by decide)
  have l1 : Int32.toInt (76 : Int32) = 76 := (by decide)
  intro v10 ev10
  have f11 := ti_min tx_length (76 : Int32)
  have hv10 := congrArg Int32.toInt ev10
  refine And.intro (fun c12 => ?_) (fun c12 => ?_)
  · skip
    have c12 := mt (fa_eq _ _).mpr c12
    refine t_X3_readLines (by omega) (by omega) (fun k => by have q9 := h_tx_signs k; omega) (by omega) (by omega) (by omega) (by omega) (fun r22 tx_place_13 tr_comingFruits_14 tr_comingStandings_15 tr_x_16 tr_height_17 tr_worth_18 tr_ripe_19 tr_foot_20 tr_fork_21 h_r22 h_tx_place_13 h_tr_comingFruits_14 h_tr_comingStandings_15 => ?_)
    exact ts_X9_orchard_34 tx_signs h_tx_signs hpost r22 tx_length tx_place_13 v10 tr_fruits tr_standings tr_comingFruits_14 tr_comingStandings_15 tr_x_16 tr_height_17 tr_worth_18 tr_ripe_19 tr_foot_20 tr_fork_21 pa_undoable pa_isKept (by omega) (by omega) (by omega) (by omega) (by omega) (by omega) (by omega) (by omega) (by omega) (fun k => by have q9 := h_pa_isKept k; omega)
  · skip
    have c12 := (fa_eq _ _).mp c12
    exact ts_X9_orchard_34 tx_signs h_tx_signs hpost 0 tx_length 0 v10 tr_fruits tr_standings tr_comingFruits tr_comingStandings tr_x tr_height tr_worth tr_ripe tr_foot tr_fork pa_undoable pa_isKept (by omega) (by omega) (by omega) (by omega) (by omega) (by omega) (by omega) (by omega) (by omega) (fun k => by have q9 := h_pa_isKept k; omega)
set_option maxHeartbeats 8000000 in
set_option maxRecDepth 200000 in
theorem ts_X7_readPlainThing_38 {post : Int32 → Int32 → Int32 → Int32 → (Nat → Int32) → Prop} (tx_stop : Int32) (tx_signs : Nat → Int32) (h_tx_stop : 1 ≤ Int32.toInt tx_stop ∧ Int32.toInt tx_stop ≤ 40) (h_tx_signs : ∀ k : Nat, 0 ≤ Int32.toInt (tx_signs k) ∧ Int32.toInt (tx_signs k) ≤ 65535) (hpost : ∀ (r : Int32) (tx_place' : Int32) (ru_drafted' : Int32) (ru_wantsThing' : Int32) (ru_draft' : Nat → Int32), (0 ≤ Int32.toInt r ∧ Int32.toInt r ≤ 1) → (0 ≤ Int32.toInt tx_place' ∧ Int32.toInt tx_place' ≤ 80) → (0 ≤ Int32.toInt ru_drafted' ∧ Int32.toInt ru_drafted' ≤ 40) → (0 ≤ Int32.toInt ru_wantsThing' ∧ Int32.toInt ru_wantsThing' ≤ 1) → post r tx_place' ru_drafted' ru_wantsThing' ru_draft') (x2 : Int32) (tx_place : Int32) (ru_drafted : Int32) (ru_wantsThing : Int32) (ru_draft : Nat → Int32) (h_tx_place : 0 ≤ Int32.toInt tx_place ∧ Int32.toInt tx_place ≤ 80) (h_ru_drafted : 0 ≤ Int32.toInt ru_drafted ∧ Int32.toInt ru_drafted ≤ 40) (h_ru_wantsThing : 1 ≤ Int32.toInt ru_wantsThing ∧ Int32.toInt ru_wantsThing ≤ 1) : ws_X7_readPlainThing_38 post tx_stop tx_signs x2 tx_place ru_drafted ru_wantsThing ru_draft := by
  have l0 : Int32.toInt (0 : Int32) = 0 := (by decide)
  have l1 : Int32.toInt (1 : Int32) = 1 := (by decide)
  have l2 : Int32.toInt (40 : Int32) = 40 := (by decide)
  refine And.intro (fun c1 => ?_) (fun c1 => ?_)
  · skip
    have c1 := (fa_le _ _).mp c1
    exact hpost _ _ _ _ _ (by omega) (by omega) (by omega) (by omega)
  · skip
    have c1 := mt (fa_le _ _).mpr c1
    refine And.intro (t_in (by omega)) ?_
    intro v2 ev2
    have f3 : Int32.toInt (ru_drafted + 1) = Int32.toInt ru_drafted + Int32.toInt (1 : Int32) := ta_add _ _ (by omega)
    rw [← ev2] at f3
    exact hpost _ _ _ _ _ (by omega) (by omega) (by omega) (by omega)
set_option maxHeartbeats 8000000 in
set_option maxRecDepth 200000 in
theorem t_X7_readPlainThing {post : Int32 → Int32 → Int32 → Int32 → (Nat → Int32) → Prop} {tx_place : Int32} {tx_stop : Int32} {tx_signs : Nat → Int32} {ru_drafted : Int32} {ru_wantsThing : Int32} {ru_draft : Nat → Int32} (h_tx_place : 0 ≤ Int32.toInt tx_place ∧ Int32.toInt tx_place ≤ 40) (h_tx_stop : 1 ≤ Int32.toInt tx_stop ∧ Int32.toInt tx_stop ≤ 40) (h_tx_signs : ∀ k : Nat, 0 ≤ Int32.toInt (tx_signs k) ∧ Int32.toInt (tx_signs k) ≤ 65535) (h_ru_drafted : 0 ≤ Int32.toInt ru_drafted ∧ Int32.toInt ru_drafted ≤ 40) (h_ru_wantsThing : 1 ≤ Int32.toInt ru_wantsThing ∧ Int32.toInt ru_wantsThing ≤ 1) (hpost : ∀ (r : Int32) (tx_place' : Int32) (ru_drafted' : Int32) (ru_wantsThing' : Int32) (ru_draft' : Nat → Int32), (0 ≤ Int32.toInt r ∧ Int32.toInt r ≤ 1) → (0 ≤ Int32.toInt tx_place' ∧ Int32.toInt tx_place' ≤ 80) → (0 ≤ Int32.toInt ru_drafted' ∧ Int32.toInt ru_drafted' ≤ 40) → (0 ≤ Int32.toInt ru_wantsThing' ∧ Int32.toInt ru_wantsThing' ≤ 1) → post r tx_place' ru_drafted' ru_wantsThing' ru_draft') : wp_X7_readPlainThing post tx_place tx_stop tx_signs ru_drafted ru_wantsThing ru_draft := by
  have l0 : Int32.toInt ((-1) : Int32) = -1 := (by decide)
  have l1 : Int32.toInt (0 : Int32) = 0 := (by decide)
  have l2 : Int32.toInt (1 : Int32) = 1 := (by decide)
  have l3 : Int32.toInt (1000 : Int32) = 1000 := (by decide)
  have l4 : Int32.toInt (3 : Int32) = 3 := (by decide)
  refine t_X8_readNumber (by omega) (by omega) (by omega) (fun k => by have q9 := h_tx_signs k; omega) (fun r5 tx_place_4 h_tx_place_4 => ?_)
  have f7 := tp_r r5
  refine And.intro (fun c6 => ?_) (fun c6 => ?_)
  · skip
    have c6 := mt (fa_eq _ _).mpr c6
    exact ts_X7_readPlainThing_38 tx_stop tx_signs h_tx_stop h_tx_signs hpost r5 tx_place_4 ru_drafted ru_wantsThing ru_draft (by omega) (by omega) (by omega)
  · skip
    have c6 := (fa_eq _ _).mp c6
    refine And.intro (fun c8 => ?_) (fun c8 => ?_)
    · skip
      have c8 := (fa_le _ _).mp c8
      intro v9 ev9
      have hv9 := ti_i2c (-1)
      rw [← ev9] at hv9
      intro v10 ev10
      have f11 := ti_lix v9
      have hv10 := congrArg Int32.toInt ev10
      refine And.intro (fun c12 => ?_) (fun c12 => ?_)
      · skip
        have c12 := (fa_le _ _).mp c12
        intro v13 ev13
        have f14 : Int32.toInt (1000 + v10) = Int32.toInt (1000 : Int32) + Int32.toInt v10 := ta_add _ _ (by omega)
        rw [← ev13] at f14
        refine And.intro (fun c15 => ?_) (fun c15 => ?_)
        · skip
          have c15 := (fa_le _ _).mp c15
          exact ts_X7_readPlainThing_38 tx_stop tx_signs h_tx_stop h_tx_signs hpost v13 tx_place_4 ru_drafted ru_wantsThing ru_draft (by omega) (by omega) (by omega)
        · skip
          have c15 := mt (fa_le _ _).mpr c15
          intro v16 ev16
          have f17 : Int32.toInt (tx_place_4 + 1) = Int32.toInt tx_place_4 + Int32.toInt (1 : Int32) := ta_add _ _ (by omega)
          rw [← ev16] at f17
          exact ts_X7_readPlainThing_38 tx_stop tx_signs h_tx_stop h_tx_signs hpost v13 v16 ru_drafted ru_wantsThing ru_draft (by omega) (by omega) (by omega)
      · skip
        have c12 := mt (fa_le _ _).mpr c12
        exact hpost _ _ _ _ _ (by omega) (by omega) (by omega) (by omega)
    · skip
      have c8 := mt (fa_le _ _).mpr c8
      refine And.intro (t_in (by omega)) ?_
      intro v18 ev18
      have f19 := h_tx_signs tx_place_4.toNatClampNeg
      have hv18 := congrArg Int32.toInt ev18
      intro v20 ev20
      have hv20 := ti_i2c v18
      rw [← ev20] at hv20
      intro v21 ev21
      have f22 := ti_lix v20
      have hv21 := congrArg Int32.toInt ev21
      refine And.intro (fun c23 => ?_) (fun c23 => ?_)
      · skip
        have c23 := (fa_le _ _).mp c23
        intro v24 ev24
        have f25 : Int32.toInt (1000 + v21) = Int32.toInt (1000 : Int32) + Int32.toInt v21 := ta_add _ _ (by omega)
        rw [← ev24] at f25
        refine And.intro (fun c26 => ?_) (fun c26 => ?_)
        · skip
          have c26 := (fa_le _ _).mp c26
          exact ts_X7_readPlainThing_38 tx_stop tx_signs h_tx_stop h_tx_signs hpost v24 tx_place_4 ru_drafted ru_wantsThing ru_draft (by omega) (by omega) (by omega)
        · skip
          have c26 := mt (fa_le _ _).mpr c26
          intro v27 ev27
          have f28 : Int32.toInt (tx_place_4 + 1) = Int32.toInt tx_place_4 + Int32.toInt (1 : Int32) := ta_add _ _ (by omega)
          rw [← ev27] at f28
          exact ts_X7_readPlainThing_38 tx_stop tx_signs h_tx_stop h_tx_signs hpost v24 v27 ru_drafted ru_wantsThing ru_draft (by omega) (by omega) (by omega)
      · skip
        have c23 := mt (fa_le _ _).mpr c23
        exact hpost _ _ _ _ _ (by omega) (by omega) (by omega) (by omega)
set_option maxHeartbeats 8000000 in
set_option maxRecDepth 200000 in
theorem ts_X7_readThing_78 {post : Int32 → Int32 → Int32 → Int32 → Int32 → Int32 → Int32 → (Nat → Int32) → (Nat → Int32) → Prop} (tx_stop : Int32) (tx_signs : Nat → Int32) (h_tx_stop : 1 ≤ Int32.toInt tx_stop ∧ Int32.toInt tx_stop ≤ 40) (h_tx_signs : ∀ k : Nat, 0 ≤ Int32.toInt (tx_signs k) ∧ Int32.toInt (tx_signs k) ≤ 65535) (hpost : ∀ (r : Int32) (tx_place' : Int32) (ru_drafted' : Int32) (ru_waits' : Int32) (ru_open' : Int32) (ru_compared' : Int32) (ru_wantsThing' : Int32) (ru_waiting' : Nat → Int32) (ru_draft' : Nat → Int32), (0 ≤ Int32.toInt r ∧ Int32.toInt r ≤ 1) → (0 ≤ Int32.toInt tx_place' ∧ Int32.toInt tx_place' ≤ 80) → (0 ≤ Int32.toInt ru_drafted' ∧ Int32.toInt ru_drafted' ≤ 40) → (0 ≤ Int32.toInt ru_waits' ∧ Int32.toInt ru_waits' ≤ 40) → (0 ≤ Int32.toInt ru_open' ∧ Int32.toInt ru_open' ≤ 4) → (0 ≤ Int32.toInt ru_compared' ∧ Int32.toInt ru_compared' ≤ 31) → (0 ≤ Int32.toInt ru_wantsThing' ∧ Int32.toInt ru_wantsThing' ≤ 1) → (∀ k : Nat, 0 ≤ Int32.toInt (ru_waiting' k) ∧ Int32.toInt (ru_waiting' k) ≤ 256) → post r tx_place' ru_drafted' ru_waits' ru_open' ru_compared' ru_wantsThing' ru_waiting' ru_draft') (tx_place : Int32) (ru_drafted : Int32) (ru_waits : Int32) (ru_open : Int32) (ru_compared : Int32) (ru_wantsThing : Int32) (ru_waiting : Nat → Int32) (ru_draft : Nat → Int32) (h_tx_place : 0 ≤ Int32.toInt tx_place ∧ Int32.toInt tx_place ≤ 40) (h_ru_drafted : 0 ≤ Int32.toInt ru_drafted ∧ Int32.toInt ru_drafted ≤ 40) (h_ru_waits : 1 ≤ Int32.toInt ru_waits ∧ Int32.toInt ru_waits ≤ 40) (h_ru_open : 0 ≤ Int32.toInt ru_open ∧ Int32.toInt ru_open ≤ 4) (h_ru_compared : 0 ≤ Int32.toInt ru_compared ∧ Int32.toInt ru_compared ≤ 31) (h_ru_wantsThing : 1 ≤ Int32.toInt ru_wantsThing ∧ Int32.toInt ru_wantsThing ≤ 1) (h_ru_waiting : ∀ k : Nat, 0 ≤ Int32.toInt (ru_waiting k) ∧ Int32.toInt (ru_waiting k) ≤ 256) : ws_X7_readThing_78 post tx_stop tx_signs tx_place ru_drafted ru_waits ru_open ru_compared ru_wantsThing ru_waiting ru_draft := by
  have l0 : Int32.toInt (1 : Int32) = 1 := (by decide)
  refine And.intro (fun c1 => ?_) (fun c1 => ?_)
  · skip
    have c1 := (fa_le _ _).mp c1
    exact hpost _ _ _ _ _ _ _ _ _ (by omega) (by omega) (by omega) (by omega) (by omega) (by omega) (by omega) (fun k => by have q9 := h_ru_waiting k; omega)
  · skip
    have c1 := mt (fa_le _ _).mpr c1
    intro v2 ev2
    have f3 : Int32.toInt (tx_place + 1) = Int32.toInt tx_place + Int32.toInt (1 : Int32) := ta_add _ _ (by omega)
    rw [← ev2] at f3
    exact hpost _ _ _ _ _ _ _ _ _ (by omega) (by omega) (by omega) (by omega) (by omega) (by omega) (by omega) (fun k => by have q9 := h_ru_waiting k; omega)
set_option maxHeartbeats 8000000 in
set_option maxRecDepth 200000 in
theorem t_X7_readThing {post : Int32 → Int32 → Int32 → Int32 → Int32 → Int32 → Int32 → (Nat → Int32) → (Nat → Int32) → Prop} {tx_place : Int32} {tx_stop : Int32} {tx_signs : Nat → Int32} {ru_drafted : Int32} {ru_waits : Int32} {ru_open : Int32} {ru_compared : Int32} {ru_wantsThing : Int32} {ru_waiting : Nat → Int32} {ru_draft : Nat → Int32} (h_tx_place : 0 ≤ Int32.toInt tx_place ∧ Int32.toInt tx_place ≤ 40) (h_tx_stop : 1 ≤ Int32.toInt tx_stop ∧ Int32.toInt tx_stop ≤ 40) (h_tx_signs : ∀ k : Nat, 0 ≤ Int32.toInt (tx_signs k) ∧ Int32.toInt (tx_signs k) ≤ 65535) (h_ru_drafted : 0 ≤ Int32.toInt ru_drafted ∧ Int32.toInt ru_drafted ≤ 40) (h_ru_waits : 0 ≤ Int32.toInt ru_waits ∧ Int32.toInt ru_waits ≤ 40) (h_ru_open : 0 ≤ Int32.toInt ru_open ∧ Int32.toInt ru_open ≤ 4) (h_ru_compared : 0 ≤ Int32.toInt ru_compared ∧ Int32.toInt ru_compared ≤ 31) (h_ru_wantsThing : 1 ≤ Int32.toInt ru_wantsThing ∧ Int32.toInt ru_wantsThing ≤ 1) (h_ru_waiting : ∀ k : Nat, 0 ≤ Int32.toInt (ru_waiting k) ∧ Int32.toInt (ru_waiting k) ≤ 256) (hpost : ∀ (r : Int32) (tx_place' : Int32) (ru_drafted' : Int32) (ru_waits' : Int32) (ru_open' : Int32) (ru_compared' : Int32) (ru_wantsThing' : Int32) (ru_waiting' : Nat → Int32) (ru_draft' : Nat → Int32), (0 ≤ Int32.toInt r ∧ Int32.toInt r ≤ 1) → (0 ≤ Int32.toInt tx_place' ∧ Int32.toInt tx_place' ≤ 80) → (0 ≤ Int32.toInt ru_drafted' ∧ Int32.toInt ru_drafted' ≤ 40) → (0 ≤ Int32.toInt ru_waits' ∧ Int32.toInt ru_waits' ≤ 40) → (0 ≤ Int32.toInt ru_open' ∧ Int32.toInt ru_open' ≤ 4) → (0 ≤ Int32.toInt ru_compared' ∧ Int32.toInt ru_compared' ≤ 31) → (0 ≤ Int32.toInt ru_wantsThing' ∧ Int32.toInt ru_wantsThing' ≤ 1) → (∀ k : Nat, 0 ≤ Int32.toInt (ru_waiting' k) ∧ Int32.toInt (ru_waiting' k) ≤ 256) → post r tx_place' ru_drafted' ru_waits' ru_open' ru_compared' ru_wantsThing' ru_waiting' ru_draft') : wp_X7_readThing post tx_place tx_stop tx_signs ru_drafted ru_waits ru_open ru_compared ru_wantsThing ru_waiting ru_draft := by
  have l0 : Int32.toInt (0 : Int32) = 0 := (by decide)
  have l1 : Int32.toInt (1 : Int32) = 1 := (by decide)
  have l2 : Int32.toInt (256 : Int32) = 256 := (by decide)
  have l3 : Int32.toInt (4 : Int32) = 4 := (by decide)
  have l4 : Int32.toInt (40 : Int32) = 40 := (by decide)
  have l5 : Int32.toInt (45 : Int32) = 45 := (by decide)
  refine And.intro (fun c4 => ?_) (fun c4 => ?_)
  · skip
    have c4 := (fa_le _ _).mp c4
    refine And.intro (fun _ => ?_) (fun h9 => absurd h9 (by decide))
    refine And.intro (fun _ => ?_) (fun h9 => absurd h9 (by decide))
    refine t_X7_readPlainThing (by omega) (by omega) (fun k => by have q9 := h_tx_signs k; omega) (by omega) (by omega) (fun r9 tx_place_5 ru_drafted_6 ru_wantsThing_7 ru_draft_8 h_r9 h_tx_place_5 h_ru_drafted_6 h_ru_wantsThing_7 => ?_)
    refine And.intro (t_bool (by omega)) ?_
    exact hpost _ _ _ _ _ _ _ _ _ (by omega) (by omega) (by omega) (by omega) (by omega) (by omega) (by omega) (fun k => by have q9 := h_ru_waiting k; omega)
  · skip
    have c4 := mt (fa_le _ _).mpr c4
    refine And.intro (t_in (by omega)) ?_
    intro v10 ev10
    have f11 := h_tx_signs tx_place.toNatClampNeg
    have hv10 := congrArg Int32.toInt ev10
    refine And.intro (fun c12 => ?_) (fun c12 => ?_)
    · skip
      have c12 := mt (fa_eq _ _).mpr c12
      refine And.intro (fun c13 => ?_) (fun c13 => ?_)
      · skip
        have c13 := mt (fa_eq _ _).mpr c13
        refine t_X7_readPlainThing (by omega) (by omega) (fun k => by have q9 := h_tx_signs k; omega) (by omega) (by omega) (fun r18 tx_place_14 ru_drafted_15 ru_wantsThing_16 ru_draft_17 h_r18 h_tx_place_14 h_ru_drafted_15 h_ru_wantsThing_16 => ?_)
        refine And.intro (t_bool (by omega)) ?_
        exact hpost _ _ _ _ _ _ _ _ _ (by omega) (by omega) (by omega) (by omega) (by omega) (by omega) (by omega) (fun k => by have q9 := h_ru_waiting k; omega)
      · skip
        have c13 := (fa_eq _ _).mp c13
        refine And.intro (fun c19 => ?_) (fun c19 => ?_)
        · skip
          have c19 := (fa_lt _ _).mp c19
          intro v20 ev20
          have f21 : Int32.toInt (ru_open + 1) = Int32.toInt ru_open + Int32.toInt (1 : Int32) := ta_add _ _ (by omega)
          rw [← ev20] at f21
          intro v22 ev22
          have f23 := ti_shl1 4 16 v20 (by decide) (by omega)
          have hv22 := congrArg Int32.toInt ev22
          intro v24 ev24
          have f26 := ti_andl ru_compared (v22 ^^^ (-1)) (by omega)
          have hv24 := congrArg Int32.toInt ev24
          refine And.intro (fun c27 => ?_) (fun c27 => ?_)
          · skip
            have c27 := (fa_le _ _).mp c27
            exact ts_X7_readThing_78 tx_stop tx_signs h_tx_stop h_tx_signs hpost tx_place ru_drafted ru_waits v20 v24 ru_wantsThing ru_waiting ru_draft (by omega) (by omega) (by omega) (by omega) (by omega) (by omega) (fun k => by have q9 := h_ru_waiting k; omega)
          · skip
            have c27 := mt (fa_le _ _).mpr c27
            refine And.intro (t_in (by omega)) ?_
            have a28 : ∀ k : Nat, 0 ≤ Int32.toInt ((upd ru_waiting ru_waits.toNatClampNeg v10) k) ∧ Int32.toInt ((upd ru_waiting ru_waits.toNatClampNeg v10) k) ≤ 256 := t_upd (fun k => by have q9 := h_ru_waiting k; omega) (by omega)
            intro v29 ev29
            have f30 : Int32.toInt (ru_waits + 1) = Int32.toInt ru_waits + Int32.toInt (1 : Int32) := ta_add _ _ (by omega)
            rw [← ev29] at f30
            exact ts_X7_readThing_78 tx_stop tx_signs h_tx_stop h_tx_signs hpost tx_place ru_drafted v29 v20 v24 ru_wantsThing (upd ru_waiting ru_waits.toNatClampNeg v10) ru_draft (by omega) (by omega) (by omega) (by omega) (by omega) (by omega) (fun k => by have q9 := a28 k; omega)
        · skip
          have c19 := mt (fa_lt _ _).mpr c19
          exact hpost _ _ _ _ _ _ _ _ _ (by omega) (by omega) (by omega) (by omega) (by omega) (by omega) (by omega) (fun k => by have q9 := h_ru_waiting k; omega)
    · skip
      have c12 := (fa_eq _ _).mp c12
      refine And.intro (fun c31 => ?_) (fun c31 => ?_)
      · skip
        have c31 := (fa_le _ _).mp c31
        exact ts_X7_readThing_78 tx_stop tx_signs h_tx_stop h_tx_signs hpost tx_place ru_drafted ru_waits ru_open ru_compared ru_wantsThing ru_waiting ru_draft (by omega) (by omega) (by omega) (by omega) (by omega) (by omega) (fun k => by have q9 := h_ru_waiting k; omega)
      · skip
        have c31 := mt (fa_le _ _).mpr c31
        refine And.intro (t_in (by omega)) ?_
        have a32 : ∀ k : Nat, 0 ≤ Int32.toInt ((upd ru_waiting ru_waits.toNatClampNeg 256) k) ∧ Int32.toInt ((upd ru_waiting ru_waits.toNatClampNeg 256) k) ≤ 256 := t_upd (fun k => by have q9 := h_ru_waiting k; omega) (by omega)
        intro v33 ev33
        have f34 : Int32.toInt (ru_waits + 1) = Int32.toInt ru_waits + Int32.toInt (1 : Int32) := ta_add _ _ (by omega)
        rw [← ev33] at f34
        exact ts_X7_readThing_78 tx_stop tx_signs h_tx_stop h_tx_signs hpost tx_place ru_drafted v33 ru_open ru_compared ru_wantsThing (upd ru_waiting ru_waits.toNatClampNeg 256) ru_draft (by omega) (by omega) (by omega) (by omega) (by omega) (by omega) (fun k => by have q9 := a32 k; omega)
set_option maxHeartbeats 8000000 in
set_option maxRecDepth 200000 in
theorem ts_X7_settle_0 {post : Int32 → Int32 → (Nat → Int32) → Prop} {next : Int32 → Int32 → Int32 → (Nat → Int32) → Prop} {n0 : Int} (ru_waiting : Nat → Int32) (h_ru_waiting : ∀ k : Nat, 0 ≤ Int32.toInt (ru_waiting k) ∧ Int32.toInt (ru_waiting k) ≤ 256) (hpost : ∀ (ru_drafted' : Int32) (ru_waits' : Int32) (ru_draft' : Nat → Int32), (0 ≤ Int32.toInt ru_drafted' ∧ Int32.toInt ru_drafted' ≤ 40) → (0 ≤ Int32.toInt ru_waits' ∧ Int32.toInt ru_waits' ≤ 40) → post ru_drafted' ru_waits' ru_draft') (hKn : ∀ (x1 : Int32) (ru_drafted : Int32) (ru_waits : Int32) (ru_draft : Nat → Int32), (1 ≤ Int32.toInt x1 ∧ Int32.toInt x1 ≤ 4) → (0 ≤ Int32.toInt ru_drafted ∧ Int32.toInt ru_drafted ≤ 40) → (0 ≤ Int32.toInt ru_waits ∧ Int32.toInt ru_waits ≤ 40) → (Int32.toInt ru_waits < n0) → next x1 ru_drafted ru_waits ru_draft) (x1 : Int32) (ru_drafted : Int32) (ru_waits : Int32) (ru_draft : Nat → Int32) (h_x1 : 1 ≤ Int32.toInt x1 ∧ Int32.toInt x1 ≤ 4) (h_ru_drafted : 0 ≤ Int32.toInt ru_drafted ∧ Int32.toInt ru_drafted ≤ 40) (h_ru_waits : 0 ≤ Int32.toInt ru_waits ∧ Int32.toInt ru_waits ≤ 40) (hn0 : Int32.toInt ru_waits ≤ n0) : ws_X7_settle_0 post next ru_waiting x1 ru_drafted ru_waits ru_draft := by
  have l0 : Int32.toInt (0 : Int32) = 0 := (by decide)
  have l1 : Int32.toInt (1 : Int32) = 1 := (by decide)
  have l2 : Int32.toInt (2 : Int32) = 2 := (by decide)
  have l3 : Int32.toInt (2000 : Int32) = 2000 := (by decide)
  have l4 : Int32.toInt (256 : Int32) = 256 := (by decide)
  have l5 : Int32.toInt (3 : Int32) = 3 := (by decide)
  have l6 : Int32.toInt (4 : Int32) = 4 := (by decide)
  have l7 : Int32.toInt (40 : Int32) = 40 := (by decide)
  have l8 : Int32.toInt (42 : Int32) = 42 := (by decide)
  have l9 : Int32.toInt (43 : Int32) = 43 := (by decide)
  have l10 : Int32.toInt (45 : Int32) = 45 := (by decide)
  have l11 : Int32.toInt (47 : Int32) = 47 := (by decide)
  have l12 : Int32.toInt (60 : Int32) = 60 := (by decide)
  have l13 : Int32.toInt (61 : Int32) = 61 := (by decide)
  have l14 : Int32.toInt (62 : Int32) = 62 := (by decide)
  refine And.intro (fun c1 => ?_) (fun c1 => ?_)
  · skip
    have c1 := (fa_le _ _).mp c1
    exact hpost _ _ _ (by omega) (by omega)
  · skip
    have c1 := mt (fa_le _ _).mpr c1
    intro v2 ev2
    have f3 : Int32.toInt (ru_waits - 1) = Int32.toInt ru_waits - Int32.toInt (1 : Int32) := ta_sub _ _ (by omega)
    rw [← ev2] at f3
    refine And.intro (t_in (by omega)) ?_
    intro v4 ev4
    have f5 := h_ru_waiting v2.toNatClampNeg
    have hv4 := congrArg Int32.toInt ev4
    refine And.intro (fun c6 => ?_) ?_
    · skip
      have c6 := (fa_eq _ _).mp c6
      refine And.intro (fun c7 => ?_) (fun c7 => ?_)
      · skip
        have c7 := (fa_lt _ _).mp c7
        exact hpost _ _ _ (by omega) (by omega)
      · skip
        have c7 := mt (fa_lt _ _).mpr c7
        intro v8 ev8
        have hv8 := congrArg Int32.toInt (ev8.trans ev2.symm)
        refine And.intro (t_in (by omega)) ?_
        intro v9 ev9
        have f11 := h_ru_waiting v8.toNatClampNeg
        have f10 : Int32.toInt (2000 + (ru_waiting v8.toNatClampNeg)) = Int32.toInt (2000 : Int32) + Int32.toInt (ru_waiting v8.toNatClampNeg) := ta_add _ _ (by omega)
        rw [← ev9] at f10
        refine And.intro (fun c12 => ?_) (fun c12 => ?_)
        · skip
          have c12 := (fa_le _ _).mp c12
          exact hKn x1 ru_drafted v8 ru_draft (by omega) (by omega) (by omega) (by omega)
        · skip
          have c12 := mt (fa_le _ _).mpr c12
          refine And.intro (t_in (by omega)) ?_
          intro v13 ev13
          have f14 : Int32.toInt (ru_drafted + 1) = Int32.toInt ru_drafted + Int32.toInt (1 : Int32) := ta_add _ _ (by omega)
          rw [← ev13] at f14
          exact hKn x1 v13 v8 (upd ru_draft ru_drafted.toNatClampNeg v9) (by omega) (by omega) (by omega) (by omega)
    refine And.intro (fun c15 => ?_) ?_
    · skip
      have c15 := (fa_eq _ _).mp c15
      refine And.intro (fun c16 => ?_) (fun c16 => ?_)
      · skip
        have c16 := (fa_lt _ _).mp c16
        exact hpost _ _ _ (by omega) (by omega)
      · skip
        have c16 := mt (fa_lt _ _).mpr c16
        intro v17 ev17
        have hv17 := congrArg Int32.toInt (ev17.trans ev2.symm)
        refine And.intro (t_in (by omega)) ?_
        intro v18 ev18
        have f20 := h_ru_waiting v17.toNatClampNeg
        have f19 : Int32.toInt (2000 + (ru_waiting v17.toNatClampNeg)) = Int32.toInt (2000 : Int32) + Int32.toInt (ru_waiting v17.toNatClampNeg) := ta_add _ _ (by omega)
        rw [← ev18] at f19
        refine And.intro (fun c21 => ?_) (fun c21 => ?_)
        · skip
          have c21 := (fa_le _ _).mp c21
          exact hKn x1 ru_drafted v17 ru_draft (by omega) (by omega) (by omega) (by omega)
        · skip
          have c21 := mt (fa_le _ _).mpr c21
          refine And.intro (t_in (by omega)) ?_
          intro v22 ev22
          have f23 : Int32.toInt (ru_drafted + 1) = Int32.toInt ru_drafted + Int32.toInt (1 : Int32) := ta_add _ _ (by omega)
          rw [← ev22] at f23
          exact hKn x1 v22 v17 (upd ru_draft ru_drafted.toNatClampNeg v18) (by omega) (by omega) (by omega) (by omega)
    refine And.intro (fun c24 => ?_) ?_
    · skip
      have c24 := (fa_eq _ _).mp c24
      refine And.intro (fun c25 => ?_) (fun c25 => ?_)
      · skip
        have c25 := (fa_lt _ _).mp c25
        exact hpost _ _ _ (by omega) (by omega)
      · skip
        have c25 := mt (fa_lt _ _).mpr c25
        intro v26 ev26
        have hv26 := congrArg Int32.toInt (ev26.trans ev2.symm)
        refine And.intro (t_in (by omega)) ?_
        intro v27 ev27
        have f29 := h_ru_waiting v26.toNatClampNeg
        have f28 : Int32.toInt (2000 + (ru_waiting v26.toNatClampNeg)) = Int32.toInt (2000 : Int32) + Int32.toInt (ru_waiting v26.toNatClampNeg) := ta_add _ _ (by omega)
        rw [← ev27] at f28
        refine And.intro (fun c30 => ?_) (fun c30 => ?_)
        · skip
          have c30 := (fa_le _ _).mp c30
          exact hKn x1 ru_drafted v26 ru_draft (by omega) (by omega) (by omega) (by omega)
        · skip
          have c30 := mt (fa_le _ _).mpr c30
          refine And.intro (t_in (by omega)) ?_
          intro v31 ev31
          have f32 : Int32.toInt (ru_drafted + 1) = Int32.toInt ru_drafted + Int32.toInt (1 : Int32) := ta_add _ _ (by omega)
          rw [← ev31] at f32
          exact hKn x1 v31 v26 (upd ru_draft ru_drafted.toNatClampNeg v27) (by omega) (by omega) (by omega) (by omega)
    refine And.intro (fun c33 => ?_) ?_
    · skip
      have c33 := (fa_eq _ _).mp c33
      refine And.intro (fun c34 => ?_) (fun c34 => ?_)
      · skip
        have c34 := (fa_lt _ _).mp c34
        exact hpost _ _ _ (by omega) (by omega)
      · skip
        have c34 := mt (fa_lt _ _).mpr c34
        intro v35 ev35
        have hv35 := congrArg Int32.toInt (ev35.trans ev2.symm)
        refine And.intro (t_in (by omega)) ?_
        intro v36 ev36
        have f38 := h_ru_waiting v35.toNatClampNeg
        have f37 : Int32.toInt (2000 + (ru_waiting v35.toNatClampNeg)) = Int32.toInt (2000 : Int32) + Int32.toInt (ru_waiting v35.toNatClampNeg) := ta_add _ _ (by omega)
        rw [← ev36] at f37
        refine And.intro (fun c39 => ?_) (fun c39 => ?_)
        · skip
          have c39 := (fa_le _ _).mp c39
          exact hKn x1 ru_drafted v35 ru_draft (by omega) (by omega) (by omega) (by omega)
        · skip
          have c39 := mt (fa_le _ _).mpr c39
          refine And.intro (t_in (by omega)) ?_
          intro v40 ev40
          have f41 : Int32.toInt (ru_drafted + 1) = Int32.toInt ru_drafted + Int32.toInt (1 : Int32) := ta_add _ _ (by omega)
          rw [← ev40] at f41
          exact hKn x1 v40 v35 (upd ru_draft ru_drafted.toNatClampNeg v36) (by omega) (by omega) (by omega) (by omega)
    refine And.intro (fun c42 => ?_) ?_
    · skip
      have c42 := (fa_eq _ _).mp c42
      refine And.intro (fun c43 => ?_) (fun c43 => ?_)
      · skip
        have c43 := (fa_lt _ _).mp c43
        exact hpost _ _ _ (by omega) (by omega)
      · skip
        have c43 := mt (fa_lt _ _).mpr c43
        intro v44 ev44
        have hv44 := congrArg Int32.toInt (ev44.trans ev2.symm)
        refine And.intro (t_in (by omega)) ?_
        intro v45 ev45
        have f47 := h_ru_waiting v44.toNatClampNeg
        have f46 : Int32.toInt (2000 + (ru_waiting v44.toNatClampNeg)) = Int32.toInt (2000 : Int32) + Int32.toInt (ru_waiting v44.toNatClampNeg) := ta_add _ _ (by omega)
        rw [← ev45] at f46
        refine And.intro (fun c48 => ?_) (fun c48 => ?_)
        · skip
          have c48 := (fa_le _ _).mp c48
          exact hKn x1 ru_drafted v44 ru_draft (by omega) (by omega) (by omega) (by omega)
        · skip
          have c48 := mt (fa_le _ _).mpr c48
          refine And.intro (t_in (by omega)) ?_
          intro v49 ev49
          have f50 : Int32.toInt (ru_drafted + 1) = Int32.toInt ru_drafted + Int32.toInt (1 : Int32) := ta_add _ _ (by omega)
          rw [← ev49] at f50
          exact hKn x1 v49 v44 (upd ru_draft ru_drafted.toNatClampNeg v45) (by omega) (by omega) (by omega) (by omega)
    refine And.intro (fun c51 => ?_) ?_
    · skip
      have c51 := (fa_eq _ _).mp c51
      refine And.intro (fun c52 => ?_) (fun c52 => ?_)
      · skip
        have c52 := (fa_lt _ _).mp c52
        exact hpost _ _ _ (by omega) (by omega)
      · skip
        have c52 := mt (fa_lt _ _).mpr c52
        intro v53 ev53
        have hv53 := congrArg Int32.toInt (ev53.trans ev2.symm)
        refine And.intro (t_in (by omega)) ?_
        intro v54 ev54
        have f56 := h_ru_waiting v53.toNatClampNeg
        have f55 : Int32.toInt (2000 + (ru_waiting v53.toNatClampNeg)) = Int32.toInt (2000 : Int32) + Int32.toInt (ru_waiting v53.toNatClampNeg) := ta_add _ _ (by omega)
        rw [← ev54] at f55
        refine And.intro (fun c57 => ?_) (fun c57 => ?_)
        · skip
          have c57 := (fa_le _ _).mp c57
          exact hKn x1 ru_drafted v53 ru_draft (by omega) (by omega) (by omega) (by omega)
        · skip
          have c57 := mt (fa_le _ _).mpr c57
          refine And.intro (t_in (by omega)) ?_
          intro v58 ev58
          have f59 : Int32.toInt (ru_drafted + 1) = Int32.toInt ru_drafted + Int32.toInt (1 : Int32) := ta_add _ _ (by omega)
          rw [← ev58] at f59
          exact hKn x1 v58 v53 (upd ru_draft ru_drafted.toNatClampNeg v54) (by omega) (by omega) (by omega) (by omega)
    refine And.intro (fun c60 => ?_) ?_
    · skip
      have c60 := (fa_eq _ _).mp c60
      refine And.intro (fun c61 => ?_) (fun c61 => ?_)
      · skip
        have c61 := (fa_lt _ _).mp c61
        exact hpost _ _ _ (by omega) (by omega)
      · skip
        have c61 := mt (fa_lt _ _).mpr c61
        intro v62 ev62
        have hv62 := congrArg Int32.toInt (ev62.trans ev2.symm)
        refine And.intro (t_in (by omega)) ?_
        intro v63 ev63
        have f65 := h_ru_waiting v62.toNatClampNeg
        have f64 : Int32.toInt (2000 + (ru_waiting v62.toNatClampNeg)) = Int32.toInt (2000 : Int32) + Int32.toInt (ru_waiting v62.toNatClampNeg) := ta_add _ _ (by omega)
        rw [← ev63] at f64
        refine And.intro (fun c66 => ?_) (fun c66 => ?_)
        · skip
          have c66 := (fa_le _ _).mp c66
          exact hKn x1 ru_drafted v62 ru_draft (by omega) (by omega) (by omega) (by omega)
        · skip
          have c66 := mt (fa_le _ _).mpr c66
          refine And.intro (t_in (by omega)) ?_
          intro v67 ev67
          have f68 : Int32.toInt (ru_drafted + 1) = Int32.toInt ru_drafted + Int32.toInt (1 : Int32) := ta_add _ _ (by omega)
          rw [← ev67] at f68
          exact hKn x1 v67 v62 (upd ru_draft ru_drafted.toNatClampNeg v63) (by omega) (by omega) (by omega) (by omega)
    refine And.intro (fun c69 => ?_) ?_
    · skip
      have c69 := (fa_eq _ _).mp c69
      refine And.intro (fun c70 => ?_) (fun c70 => ?_)
      · skip
        have c70 := (fa_lt _ _).mp c70
        exfalso; omega
      · skip
        have c70 := mt (fa_lt _ _).mpr c70
        intro v71 ev71
        have hv71 := congrArg Int32.toInt (ev71.trans ev2.symm)
        refine And.intro (t_in (by omega)) ?_
        intro v72 ev72
        have f74 := h_ru_waiting v71.toNatClampNeg
        have f73 : Int32.toInt (2000 + (ru_waiting v71.toNatClampNeg)) = Int32.toInt (2000 : Int32) + Int32.toInt (ru_waiting v71.toNatClampNeg) := ta_add _ _ (by omega)
        rw [← ev72] at f73
        refine And.intro (fun c75 => ?_) (fun c75 => ?_)
        · skip
          have c75 := (fa_le _ _).mp c75
          exact hKn x1 ru_drafted v71 ru_draft (by omega) (by omega) (by omega) (by omega)
        · skip
          have c75 := mt (fa_le _ _).mpr c75
          refine And.intro (t_in (by omega)) ?_
          intro v76 ev76
          have f77 : Int32.toInt (ru_drafted + 1) = Int32.toInt ru_drafted + Int32.toInt (1 : Int32) := ta_add _ _ (by omega)
          rw [← ev76] at f77
          exact hKn x1 v76 v71 (upd ru_draft ru_drafted.toNatClampNeg v72) (by omega) (by omega) (by omega) (by omega)
    intro c78 c79 c80 c81 c82 c83 c84 c85
    have c78 := mt (fa_eq _ _).mpr c78
    have c79 := mt (fa_eq _ _).mpr c79
    have c80 := mt (fa_eq _ _).mpr c80
    have c81 := mt (fa_eq _ _).mpr c81
    have c82 := mt (fa_eq _ _).mpr c82
    have c83 := mt (fa_eq _ _).mpr c83
    have c84 := mt (fa_eq _ _).mpr c84
    have c85 := mt (fa_eq _ _).mpr c85
    refine And.intro (fun c86 => ?_) (fun c86 => ?_)
    · skip
      have c86 := (fa_lt _ _).mp c86
      exact hpost _ _ _ (by omega) (by omega)
    · skip
      have c86 := mt (fa_lt _ _).mpr c86
      exfalso; omega
set_option maxHeartbeats 8000000 in
set_option maxRecDepth 200000 in
theorem tb_X7_settle_0 {post : Int32 → Int32 → (Nat → Int32) → Prop} (ru_waiting : Nat → Int32) (h_ru_waiting : ∀ k : Nat, 0 ≤ Int32.toInt (ru_waiting k) ∧ Int32.toInt (ru_waiting k) ≤ 256) (hpost : ∀ (ru_drafted' : Int32) (ru_waits' : Int32) (ru_draft' : Nat → Int32), (0 ≤ Int32.toInt ru_drafted' ∧ Int32.toInt ru_drafted' ≤ 40) → (0 ≤ Int32.toInt ru_waits' ∧ Int32.toInt ru_waits' ≤ 40) → post ru_drafted' ru_waits' ru_draft') : ∀ (n : Nat) (x1 : Int32) (ru_drafted : Int32) (ru_waits : Int32) (ru_draft : Nat → Int32), (1 ≤ Int32.toInt x1 ∧ Int32.toInt x1 ≤ 4) → (0 ≤ Int32.toInt ru_drafted ∧ Int32.toInt ru_drafted ≤ 40) → (0 ≤ Int32.toInt ru_waits ∧ Int32.toInt ru_waits ≤ 40) → (Int32.toInt ru_waits < (n : Int)) → wb_X7_settle_0 post ru_waiting n x1 ru_drafted ru_waits ru_draft := by
  intro n
  induction n with
  | zero =>
    intro x1 ru_drafted ru_waits ru_draft h_x1 h_ru_drafted h_ru_waits hm
    exfalso; omega
  | succ n ih =>
    intro x1 ru_drafted ru_waits ru_draft h_x1 h_ru_drafted h_ru_waits hm
    exact ts_X7_settle_0 ru_waiting h_ru_waiting hpost ih x1 ru_drafted ru_waits ru_draft h_x1 h_ru_drafted h_ru_waits (by omega)
set_option maxHeartbeats 8000000 in
set_option maxRecDepth 200000 in
theorem t_X7_settle {post : Int32 → Int32 → (Nat → Int32) → Prop} {p0 : Int32} {ru_drafted : Int32} {ru_waits : Int32} {ru_waiting : Nat → Int32} {ru_draft : Nat → Int32} (h_p0 : 1 ≤ Int32.toInt p0 ∧ Int32.toInt p0 ≤ 4) (h_ru_drafted : 0 ≤ Int32.toInt ru_drafted ∧ Int32.toInt ru_drafted ≤ 40) (h_ru_waits : 0 ≤ Int32.toInt ru_waits ∧ Int32.toInt ru_waits ≤ 40) (h_ru_waiting : ∀ k : Nat, 0 ≤ Int32.toInt (ru_waiting k) ∧ Int32.toInt (ru_waiting k) ≤ 256) (hpost : ∀ (ru_drafted' : Int32) (ru_waits' : Int32) (ru_draft' : Nat → Int32), (0 ≤ Int32.toInt ru_drafted' ∧ Int32.toInt ru_drafted' ≤ 40) → (0 ≤ Int32.toInt ru_waits' ∧ Int32.toInt ru_waits' ≤ 40) → post ru_drafted' ru_waits' ru_draft') : wp_X7_settle post p0 ru_drafted ru_waits ru_waiting ru_draft := by
  exact ⟨42, tb_X7_settle_0 ru_waiting h_ru_waiting hpost _ p0 ru_drafted ru_waits ru_draft (by omega) (by omega) (by omega) (by omega)⟩
