def TT_X10_thing (W : TY_X10) (rn : Int) : Prop := ∀ {post : Int32 → Int32 → Int32 → Prop} {p0 : Int32} {m_read : Nat} {m_length : Int32} {m_top : Int32} {m_at : Int32} {m_wrong : Int32} {m_isAsked : Int32} {m_askedFruit : Int32} {m_askedStanding : Int32} {m_askedHook : Int32} {m_askedApron : Int32} {m_x : Nat → Int32} {m_height : Nat → Int32} {m_worth : Nat → Int32} {m_foot : Nat → Int32} {m_fork : Nat → Int32} {m_text : Nat → Int32} {m_rule : Nat → Int32} (h_p0 : 0 ≤ Int32.toInt p0 ∧ Int32.toInt p0 ≤ 4) (h_m_read : m_read = 1 ∨ m_read = 2) (h_m_length : 1 ≤ Int32.toInt m_length ∧ Int32.toInt m_length ≤ 80) (h_m_top : 40 ≤ Int32.toInt m_top ∧ Int32.toInt m_top ≤ 40) (h_m_at : 0 ≤ Int32.toInt m_at ∧ Int32.toInt m_at ≤ 80) (h_m_wrong : -1 ≤ Int32.toInt m_wrong ∧ Int32.toInt m_wrong ≤ -1) (h_m_isAsked : 0 ≤ Int32.toInt m_isAsked ∧ Int32.toInt m_isAsked ≤ 1) (h_m_askedFruit : 0 ≤ Int32.toInt m_askedFruit ∧ Int32.toInt m_askedFruit ≤ 15) (h_m_askedStanding : 0 ≤ Int32.toInt m_askedStanding ∧ Int32.toInt m_askedStanding ≤ 7) (h_m_askedHook : 0 ≤ Int32.toInt m_askedHook ∧ Int32.toInt m_askedHook ≤ 1) (h_m_askedApron : 0 ≤ Int32.toInt m_askedApron ∧ Int32.toInt m_askedApron ≤ 63) (h_m_x : ∀ k : Nat, 0 ≤ Int32.toInt (m_x k) ∧ Int32.toInt (m_x k) ≤ 99) (h_m_height : ∀ k : Nat, 0 ≤ Int32.toInt (m_height k) ∧ Int32.toInt (m_height k) ≤ 99) (h_m_worth : ∀ k : Nat, 0 ≤ Int32.toInt (m_worth k) ∧ Int32.toInt (m_worth k) ≤ 9) (h_m_foot : ∀ k : Nat, 0 ≤ Int32.toInt (m_foot k) ∧ Int32.toInt (m_foot k) ≤ 99) (h_m_fork : ∀ k : Nat, 0 ≤ Int32.toInt (m_fork k) ∧ Int32.toInt (m_fork k) ≤ 99) (h_m_text : ∀ k : Nat, -128 ≤ Int32.toInt (m_text k) ∧ Int32.toInt (m_text k) ≤ 127) (h_m_rule : ∀ k : Nat, -128 ≤ Int32.toInt (m_rule k) ∧ Int32.toInt (m_rule k) ≤ 127) (hc0 : m_read = 2 → Int32.toInt m_top ≤ 40) (hx0 : Int32.toInt m_at ≤ Int32.toInt m_top) (hx1 : Int32.toInt m_top - Int32.toInt m_at < rn) (hpost : ∀ (r : Int32) (m_at' : Int32) (m_wrong' : Int32), (0 ≤ Int32.toInt m_at' ∧ Int32.toInt m_at' ≤ 80) → (-1 ≤ Int32.toInt m_wrong' ∧ Int32.toInt m_wrong' ≤ 80) → (Int32.toInt m_at ≤ Int32.toInt m_at') → (Int32.toInt m_at' ≤ Int32.toInt m_top) → post r m_at' m_wrong'), W post p0 m_read m_length m_top m_at m_wrong m_isAsked m_askedFruit m_askedStanding m_askedHook m_askedApron m_x m_height m_worth m_foot m_fork m_text m_rule
def TT_X10_held (W : TY_X10) (rn : Int) : Prop := ∀ {post : Int32 → Int32 → Int32 → Prop} {p0 : Int32} {m_read : Nat} {m_length : Int32} {m_top : Int32} {m_at : Int32} {m_wrong : Int32} {m_isAsked : Int32} {m_askedFruit : Int32} {m_askedStanding : Int32} {m_askedHook : Int32} {m_askedApron : Int32} {m_x : Nat → Int32} {m_height : Nat → Int32} {m_worth : Nat → Int32} {m_foot : Nat → Int32} {m_fork : Nat → Int32} {m_text : Nat → Int32} {m_rule : Nat → Int32} (h_p0 : 0 ≤ Int32.toInt p0 ∧ Int32.toInt p0 ≤ 4) (h_m_read : m_read = 1 ∨ m_read = 2) (h_m_length : 1 ≤ Int32.toInt m_length ∧ Int32.toInt m_length ≤ 80) (h_m_top : 40 ≤ Int32.toInt m_top ∧ Int32.toInt m_top ≤ 40) (h_m_at : 0 ≤ Int32.toInt m_at ∧ Int32.toInt m_at ≤ 80) (h_m_wrong : -1 ≤ Int32.toInt m_wrong ∧ Int32.toInt m_wrong ≤ -1) (h_m_isAsked : 0 ≤ Int32.toInt m_isAsked ∧ Int32.toInt m_isAsked ≤ 1) (h_m_askedFruit : 0 ≤ Int32.toInt m_askedFruit ∧ Int32.toInt m_askedFruit ≤ 15) (h_m_askedStanding : 0 ≤ Int32.toInt m_askedStanding ∧ Int32.toInt m_askedStanding ≤ 7) (h_m_askedHook : 0 ≤ Int32.toInt m_askedHook ∧ Int32.toInt m_askedHook ≤ 1) (h_m_askedApron : 0 ≤ Int32.toInt m_askedApron ∧ Int32.toInt m_askedApron ≤ 63) (h_m_x : ∀ k : Nat, 0 ≤ Int32.toInt (m_x k) ∧ Int32.toInt (m_x k) ≤ 99) (h_m_height : ∀ k : Nat, 0 ≤ Int32.toInt (m_height k) ∧ Int32.toInt (m_height k) ≤ 99) (h_m_worth : ∀ k : Nat, 0 ≤ Int32.toInt (m_worth k) ∧ Int32.toInt (m_worth k) ≤ 9) (h_m_foot : ∀ k : Nat, 0 ≤ Int32.toInt (m_foot k) ∧ Int32.toInt (m_foot k) ≤ 99) (h_m_fork : ∀ k : Nat, 0 ≤ Int32.toInt (m_fork k) ∧ Int32.toInt (m_fork k) ≤ 99) (h_m_text : ∀ k : Nat, -128 ≤ Int32.toInt (m_text k) ∧ Int32.toInt (m_text k) ≤ 127) (h_m_rule : ∀ k : Nat, -128 ≤ Int32.toInt (m_rule k) ∧ Int32.toInt (m_rule k) ≤ 127) (hc0 : m_read = 2 → Int32.toInt m_top ≤ 40) (hx0 : Int32.toInt m_at ≤ Int32.toInt m_top) (hx1 : Int32.toInt m_top - Int32.toInt m_at < rn) (hpost : ∀ (r : Int32) (m_at' : Int32) (m_wrong' : Int32), (0 ≤ Int32.toInt m_at' ∧ Int32.toInt m_at' ≤ 80) → (-1 ≤ Int32.toInt m_wrong' ∧ Int32.toInt m_wrong' ≤ 80) → (Int32.toInt m_at ≤ Int32.toInt m_at') → (Int32.toInt m_at' ≤ Int32.toInt m_top) → post r m_at' m_wrong'), W post p0 m_read m_length m_top m_at m_wrong m_isAsked m_askedFruit m_askedStanding m_askedHook m_askedApron m_x m_height m_worth m_foot m_fork m_text m_rule
set_option maxHeartbeats 8000000 in
set_option maxRecDepth 200000 in
theorem ts_X10_thing_136 {post : Int32 → Int32 → Int32 → Prop} {WT WH : TY_X10} {rn : Int} (hT : TT_X10_thing WT rn) (hH : TT_X10_held WH rn) {m_at0 : Int32} (m_read : Nat) (m_length : Int32) (m_top : Int32) (m_isAsked : Int32) (m_askedFruit : Int32) (m_askedStanding : Int32) (m_askedHook : Int32) (m_askedApron : Int32) (m_x : Nat → Int32) (m_height : Nat → Int32) (m_worth : Nat → Int32) (m_foot : Nat → Int32) (m_fork : Nat → Int32) (m_text : Nat → Int32) (m_rule : Nat → Int32) (h_m_read : m_read = 1 ∨ m_read = 2) (h_m_length : 1 ≤ Int32.toInt m_length ∧ Int32.toInt m_length ≤ 80) (h_m_top : 40 ≤ Int32.toInt m_top ∧ Int32.toInt m_top ≤ 40) (h_m_isAsked : 0 ≤ Int32.toInt m_isAsked ∧ Int32.toInt m_isAsked ≤ 1) (h_m_askedFruit : 0 ≤ Int32.toInt m_askedFruit ∧ Int32.toInt m_askedFruit ≤ 15) (h_m_askedStanding : 0 ≤ Int32.toInt m_askedStanding ∧ Int32.toInt m_askedStanding ≤ 7) (h_m_askedHook : 0 ≤ Int32.toInt m_askedHook ∧ Int32.toInt m_askedHook ≤ 1) (h_m_askedApron : 0 ≤ Int32.toInt m_askedApron ∧ Int32.toInt m_askedApron ≤ 63) (h_m_x : ∀ k : Nat, 0 ≤ Int32.toInt (m_x k) ∧ Int32.toInt (m_x k) ≤ 99) (h_m_height : ∀ k : Nat, 0 ≤ Int32.toInt (m_height k) ∧ Int32.toInt (m_height k) ≤ 99) (h_m_worth : ∀ k : Nat, 0 ≤ Int32.toInt (m_worth k) ∧ Int32.toInt (m_worth k) ≤ 9) (h_m_foot : ∀ k : Nat, 0 ≤ Int32.toInt (m_foot k) ∧ Int32.toInt (m_foot k) ≤ 99) (h_m_fork : ∀ k : Nat, 0 ≤ Int32.toInt (m_fork k) ∧ Int32.toInt (m_fork k) ≤ 99) (h_m_text : ∀ k : Nat, -128 ≤ Int32.toInt (m_text k) ∧ Int32.toInt (m_text k) ≤ 127) (h_m_rule : ∀ k : Nat, -128 ≤ Int32.toInt (m_rule k) ∧ Int32.toInt (m_rule k) ≤ 127) (hc0 : m_read = 2 → Int32.toInt m_top ≤ 40) (hpost : ∀ (r : Int32) (m_at' : Int32) (m_wrong' : Int32), (0 ≤ Int32.toInt m_at' ∧ Int32.toInt m_at' ≤ 80) → (-1 ≤ Int32.toInt m_wrong' ∧ Int32.toInt m_wrong' ≤ 80) → (Int32.toInt m_at0 ≤ Int32.toInt m_at') → (Int32.toInt m_at' ≤ Int32.toInt m_top) → post r m_at' m_wrong') (x2 : Int32) (m_at : Int32) (m_wrong : Int32) (h_x2 : 100 ≤ Int32.toInt x2 ∧ Int32.toInt x2 ≤ 121) (h_m_at : 0 ≤ Int32.toInt m_at ∧ Int32.toInt m_at ≤ 80) (h_m_wrong : -1 ≤ Int32.toInt m_wrong ∧ Int32.toInt m_wrong ≤ -1) (hx0 : Int32.toInt m_at ≤ Int32.toInt m_top) (hx1 : Int32.toInt m_top - Int32.toInt m_at < rn + 1) (hx2 : Int32.toInt m_at0 ≤ Int32.toInt m_at) (hx3 : Int32.toInt m_at < Int32.toInt m_top) : ws_X10_thing_136 WT WH post m_read m_length m_top m_isAsked m_askedFruit m_askedStanding m_askedHook m_askedApron m_x m_height m_worth m_foot m_fork m_text m_rule x2 m_at m_wrong := by
  have l0 : Int32.toInt (0 : Int32) = 0 := (by decide)
  have l1 : Int32.toInt (1 : Int32) = 1 := (by decide)
  have l2 : Int32.toInt (100 : Int32) = 100 := (by decide)
  have l3 : Int32.toInt (107 : Int32) = 107 := (by decide)
  have l4 : Int32.toInt (115 : Int32) = 115 := (by decide)
  have l5 : Int32.toInt (117 : Int32) = 117 := (by decide)
  have l6 : Int32.toInt (119 : Int32) = 119 := (by decide)
  have l7 : Int32.toInt (121 : Int32) = 121 := (by decide)
  intro v1 ev1
  have f2 : Int32.toInt (m_at + 1) = Int32.toInt m_at + Int32.toInt (1 : Int32) := ta_add _ _ (by omega)
  rw [← ev1] at f2
  refine And.intro (fun c3 => ?_) (fun c3 => ?_)
  · skip
    have c3 := (fa_eq _ _).mp c3
    exact hpost _ _ _ (by omega) (by omega) (by omega) (by omega)
  · skip
    have c3 := mt (fa_eq _ _).mpr c3
    refine And.intro (fun c4 => ?_) ?_
    · skip
      have c4 := (fa_eq _ _).mp c4
      refine And.intro (t_in (by omega)) ?_
      intro v5 ev5
      have f6 := h_m_x m_askedFruit.toNatClampNeg
      have hv5 := congrArg Int32.toInt ev5
      refine And.intro (t_in (by omega)) ?_
      intro v7 ev7
      have f9 := h_m_foot m_askedStanding.toNatClampNeg
      have f8 : Int32.toInt (v5 - (m_foot m_askedStanding.toNatClampNeg)) = Int32.toInt v5 - Int32.toInt (m_foot m_askedStanding.toNatClampNeg) := ta_sub _ _ (by omega)
      rw [← ev7] at f8
      intro v10 ev10
      have f11 := ti_abs v7 (by omega)
      have hv10 := congrArg Int32.toInt ev10
      exact hpost _ _ _ (by omega) (by omega) (by omega) (by omega)
    refine And.intro (fun c12 => ?_) ?_
    · skip
      have c12 := (fa_eq _ _).mp c12
      exact hpost _ _ _ (by omega) (by omega) (by omega) (by omega)
    refine And.intro (fun c13 => ?_) ?_
    · skip
      have c13 := (fa_eq _ _).mp c13
      exact hpost _ _ _ (by omega) (by omega) (by omega) (by omega)
    refine And.intro (fun c14 => ?_) ?_
    · skip
      have c14 := (fa_eq _ _).mp c14
      refine And.intro (t_in (by omega)) ?_
      intro v15 ev15
      have f16 := h_m_height m_askedFruit.toNatClampNeg
      have hv15 := congrArg Int32.toInt ev15
      refine And.intro (t_in (by omega)) ?_
      intro v17 ev17
      have f19 := h_m_fork m_askedStanding.toNatClampNeg
      have f18 : Int32.toInt (v15 - (m_fork m_askedStanding.toNatClampNeg)) = Int32.toInt v15 - Int32.toInt (m_fork m_askedStanding.toNatClampNeg) := ta_sub _ _ (by omega)
      rw [← ev17] at f18
      intro v20 ev20
      have f21 := ti_max (0 : Int32) v17
      have hv20 := congrArg Int32.toInt ev20
      exact hpost _ _ _ (by omega) (by omega) (by omega) (by omega)
    refine And.intro (fun c22 => ?_) ?_
    · skip
      have c22 := (fa_eq _ _).mp c22
      refine And.intro (t_in (by omega)) ?_
      exact hpost _ _ _ (by omega) (by omega) (by omega) (by omega)
    refine And.intro (fun c23 => ?_) ?_
    · skip
      have c23 := (fa_eq _ _).mp c23
      refine And.intro (t_in (by omega)) ?_
      exact hpost _ _ _ (by omega) (by omega) (by omega) (by omega)
    intro c24 c25 c26 c27 c28 c29
    have c24 := mt (fa_eq _ _).mpr c24
    have c25 := mt (fa_eq _ _).mpr c25
    have c26 := mt (fa_eq _ _).mpr c26
    have c27 := mt (fa_eq _ _).mpr c27
    have c28 := mt (fa_eq _ _).mpr c28
    have c29 := mt (fa_eq _ _).mpr c29
    exact hpost _ _ _ (by omega) (by omega) (by omega) (by omega)
set_option maxHeartbeats 8000000 in
set_option maxRecDepth 200000 in
theorem ts_X10_thing_67 {post : Int32 → Int32 → Int32 → Prop} {WT WH : TY_X10} {rn : Int} (hT : TT_X10_thing WT rn) (hH : TT_X10_held WH rn) {m_at0 : Int32} (m_read : Nat) (m_length : Int32) (m_top : Int32) (m_isAsked : Int32) (m_askedFruit : Int32) (m_askedStanding : Int32) (m_askedHook : Int32) (m_askedApron : Int32) (m_x : Nat → Int32) (m_height : Nat → Int32) (m_worth : Nat → Int32) (m_foot : Nat → Int32) (m_fork : Nat → Int32) (m_text : Nat → Int32) (m_rule : Nat → Int32) (h_m_read : m_read = 1 ∨ m_read = 2) (h_m_length : 1 ≤ Int32.toInt m_length ∧ Int32.toInt m_length ≤ 80) (h_m_top : 40 ≤ Int32.toInt m_top ∧ Int32.toInt m_top ≤ 40) (h_m_isAsked : 0 ≤ Int32.toInt m_isAsked ∧ Int32.toInt m_isAsked ≤ 1) (h_m_askedFruit : 0 ≤ Int32.toInt m_askedFruit ∧ Int32.toInt m_askedFruit ≤ 15) (h_m_askedStanding : 0 ≤ Int32.toInt m_askedStanding ∧ Int32.toInt m_askedStanding ≤ 7) (h_m_askedHook : 0 ≤ Int32.toInt m_askedHook ∧ Int32.toInt m_askedHook ≤ 1) (h_m_askedApron : 0 ≤ Int32.toInt m_askedApron ∧ Int32.toInt m_askedApron ≤ 63) (h_m_x : ∀ k : Nat, 0 ≤ Int32.toInt (m_x k) ∧ Int32.toInt (m_x k) ≤ 99) (h_m_height : ∀ k : Nat, 0 ≤ Int32.toInt (m_height k) ∧ Int32.toInt (m_height k) ≤ 99) (h_m_worth : ∀ k : Nat, 0 ≤ Int32.toInt (m_worth k) ∧ Int32.toInt (m_worth k) ≤ 9) (h_m_foot : ∀ k : Nat, 0 ≤ Int32.toInt (m_foot k) ∧ Int32.toInt (m_foot k) ≤ 99) (h_m_fork : ∀ k : Nat, 0 ≤ Int32.toInt (m_fork k) ∧ Int32.toInt (m_fork k) ≤ 99) (h_m_text : ∀ k : Nat, -128 ≤ Int32.toInt (m_text k) ∧ Int32.toInt (m_text k) ≤ 127) (h_m_rule : ∀ k : Nat, -128 ≤ Int32.toInt (m_rule k) ∧ Int32.toInt (m_rule k) ≤ 127) (hc0 : m_read = 2 → Int32.toInt m_top ≤ 40) (hpost : ∀ (r : Int32) (m_at' : Int32) (m_wrong' : Int32), (0 ≤ Int32.toInt m_at' ∧ Int32.toInt m_at' ≤ 80) → (-1 ≤ Int32.toInt m_wrong' ∧ Int32.toInt m_wrong' ≤ 80) → (Int32.toInt m_at0 ≤ Int32.toInt m_at') → (Int32.toInt m_at' ≤ Int32.toInt m_top) → post r m_at' m_wrong') (x2 : Int32) (m_at : Int32) (m_wrong : Int32) (h_x2 : -1 ≤ Int32.toInt x2 ∧ Int32.toInt x2 ≤ 255) (h_m_at : 0 ≤ Int32.toInt m_at ∧ Int32.toInt m_at ≤ 80) (h_m_wrong : -1 ≤ Int32.toInt m_wrong ∧ Int32.toInt m_wrong ≤ -1) (hx0 : Int32.toInt m_at ≤ Int32.toInt m_top) (hx1 : Int32.toInt m_top - Int32.toInt m_at < rn + 1) (hx2 : Int32.toInt m_at0 ≤ Int32.toInt m_at) (hx3 : Int32.toInt x2 = -1 ∨ Int32.toInt m_at < Int32.toInt m_top) : ws_X10_thing_67 WT WH post m_read m_length m_top m_isAsked m_askedFruit m_askedStanding m_askedHook m_askedApron m_x m_height m_worth m_foot m_fork m_text m_rule x2 m_at m_wrong := by
  have l0 : Int32.toInt ((-1) : Int32) = -1 := (by decide)
  have l1 : Int32.toInt (100 : Int32) = 100 := (by decide)
  have l2 : Int32.toInt (107 : Int32) = 107 := (by decide)
  have l3 : Int32.toInt (111 : Int32) = 111 := (by decide)
  have l4 : Int32.toInt (115 : Int32) = 115 := (by decide)
  have l5 : Int32.toInt (117 : Int32) = 117 := (by decide)
  have l6 : Int32.toInt (119 : Int32) = 119 := (by decide)
  have l7 : Int32.toInt (121 : Int32) = 121 := (by decide)
  have l8 : Int32.toInt (3 : Int32) = 3 := (by decide)
  have l9 : Int32.toInt (48 : Int32) = 48 := (by decide)
  have l10 : Int32.toInt (57 : Int32) = 57 := (by decide)
  refine And.intro (fun c30 => ?_) (fun c30 => ?_)
  · skip
    have c30 := (fa_lt _ _).mp c30
    refine And.intro (fun _ => ?_) (fun h9 => absurd h9 (by decide))
    refine And.intro (fun c31 => ?_) (fun c31 => ?_)
    · skip
      have c31 := (fa_eq _ _).mp c31
      exfalso; omega
    · skip
      have c31 := mt (fa_eq _ _).mpr c31
      refine And.intro (fun c32 => ?_) (fun c32 => ?_)
      · skip
        have c32 := (fa_eq _ _).mp c32
        exfalso; omega
      · skip
        have c32 := mt (fa_eq _ _).mpr c32
        refine And.intro (fun c33 => ?_) (fun c33 => ?_)
        · skip
          have c33 := (fa_eq _ _).mp c33
          exfalso; omega
        · skip
          have c33 := mt (fa_eq _ _).mpr c33
          refine And.intro (fun c34 => ?_) (fun c34 => ?_)
          · skip
            have c34 := (fa_eq _ _).mp c34
            exfalso; omega
          · skip
            have c34 := mt (fa_eq _ _).mpr c34
            refine And.intro (fun c35 => ?_) (fun c35 => ?_)
            · skip
              have c35 := (fa_eq _ _).mp c35
              exfalso; omega
            · skip
              have c35 := mt (fa_eq _ _).mpr c35
              refine And.intro (fun c36 => ?_) (fun c36 => ?_)
              · skip
                have c36 := (fa_eq _ _).mp c36
                exfalso; omega
              · skip
                have c36 := mt (fa_eq _ _).mpr c36
                refine And.intro (fun c37 => ?_) (fun c37 => ?_)
                · skip
                  have c37 := (fa_eq _ _).mp c37
                  exfalso; omega
                · skip
                  have c37 := mt (fa_eq _ _).mpr c37
                  refine And.intro (fun c38 => ?_) (fun c38 => ?_)
                  · skip
                    have c38 := mt (fa_eq _ _).mpr c38
                    exfalso; omega
                  · skip
                    have c38 := (fa_eq _ _).mp c38
                    refine And.intro (fun h9 => absurd h9 (by decide)) (fun _ => ?_)
                    exact hpost _ _ _ (by omega) (by omega) (by omega) (by omega)
  · skip
    have c30 := mt (fa_lt _ _).mpr c30
    refine And.intro (fun c39 => ?_) (fun c39 => ?_)
    · skip
      have c39 := (fa_lt _ _).mp c39
      refine And.intro (fun _ => ?_) (fun h9 => absurd h9 (by decide))
      refine And.intro (fun c40 => ?_) (fun c40 => ?_)
      · skip
        have c40 := (fa_eq _ _).mp c40
        exact ts_X10_thing_136 hT hH m_read m_length m_top m_isAsked m_askedFruit m_askedStanding m_askedHook m_askedApron m_x m_height m_worth m_foot m_fork m_text m_rule h_m_read h_m_length h_m_top h_m_isAsked h_m_askedFruit h_m_askedStanding h_m_askedHook h_m_askedApron h_m_x h_m_height h_m_worth h_m_foot h_m_fork h_m_text h_m_rule hc0 hpost x2 m_at m_wrong (by omega) (by omega) (by omega) (by omega) (by omega) (by omega) (by omega)
      · skip
        have c40 := mt (fa_eq _ _).mpr c40
        refine And.intro (fun c41 => ?_) (fun c41 => ?_)
        · skip
          have c41 := (fa_eq _ _).mp c41
          exact ts_X10_thing_136 hT hH m_read m_length m_top m_isAsked m_askedFruit m_askedStanding m_askedHook m_askedApron m_x m_height m_worth m_foot m_fork m_text m_rule h_m_read h_m_length h_m_top h_m_isAsked h_m_askedFruit h_m_askedStanding h_m_askedHook h_m_askedApron h_m_x h_m_height h_m_worth h_m_foot h_m_fork h_m_text h_m_rule hc0 hpost x2 m_at m_wrong (by omega) (by omega) (by omega) (by omega) (by omega) (by omega) (by omega)
        · skip
          have c41 := mt (fa_eq _ _).mpr c41
          refine And.intro (fun c42 => ?_) (fun c42 => ?_)
          · skip
            have c42 := (fa_eq _ _).mp c42
            exact ts_X10_thing_136 hT hH m_read m_length m_top m_isAsked m_askedFruit m_askedStanding m_askedHook m_askedApron m_x m_height m_worth m_foot m_fork m_text m_rule h_m_read h_m_length h_m_top h_m_isAsked h_m_askedFruit h_m_askedStanding h_m_askedHook h_m_askedApron h_m_x h_m_height h_m_worth h_m_foot h_m_fork h_m_text h_m_rule hc0 hpost x2 m_at m_wrong (by omega) (by omega) (by omega) (by omega) (by omega) (by omega) (by omega)
          · skip
            have c42 := mt (fa_eq _ _).mpr c42
            refine And.intro (fun c43 => ?_) (fun c43 => ?_)
            · skip
              have c43 := (fa_eq _ _).mp c43
              exact ts_X10_thing_136 hT hH m_read m_length m_top m_isAsked m_askedFruit m_askedStanding m_askedHook m_askedApron m_x m_height m_worth m_foot m_fork m_text m_rule h_m_read h_m_length h_m_top h_m_isAsked h_m_askedFruit h_m_askedStanding h_m_askedHook h_m_askedApron h_m_x h_m_height h_m_worth h_m_foot h_m_fork h_m_text h_m_rule hc0 hpost x2 m_at m_wrong (by omega) (by omega) (by omega) (by omega) (by omega) (by omega) (by omega)
            · skip
              have c43 := mt (fa_eq _ _).mpr c43
              refine And.intro (fun c44 => ?_) (fun c44 => ?_)
              · skip
                have c44 := (fa_eq _ _).mp c44
                exact ts_X10_thing_136 hT hH m_read m_length m_top m_isAsked m_askedFruit m_askedStanding m_askedHook m_askedApron m_x m_height m_worth m_foot m_fork m_text m_rule h_m_read h_m_length h_m_top h_m_isAsked h_m_askedFruit h_m_askedStanding h_m_askedHook h_m_askedApron h_m_x h_m_height h_m_worth h_m_foot h_m_fork h_m_text h_m_rule hc0 hpost x2 m_at m_wrong (by omega) (by omega) (by omega) (by omega) (by omega) (by omega) (by omega)
              · skip
                have c44 := mt (fa_eq _ _).mpr c44
                refine And.intro (fun c45 => ?_) (fun c45 => ?_)
                · skip
                  have c45 := (fa_eq _ _).mp c45
                  exact ts_X10_thing_136 hT hH m_read m_length m_top m_isAsked m_askedFruit m_askedStanding m_askedHook m_askedApron m_x m_height m_worth m_foot m_fork m_text m_rule h_m_read h_m_length h_m_top h_m_isAsked h_m_askedFruit h_m_askedStanding h_m_askedHook h_m_askedApron h_m_x h_m_height h_m_worth h_m_foot h_m_fork h_m_text h_m_rule hc0 hpost x2 m_at m_wrong (by omega) (by omega) (by omega) (by omega) (by omega) (by omega) (by omega)
                · skip
                  have c45 := mt (fa_eq _ _).mpr c45
                  refine And.intro (fun c46 => ?_) (fun c46 => ?_)
                  · skip
                    have c46 := (fa_eq _ _).mp c46
                    exact ts_X10_thing_136 hT hH m_read m_length m_top m_isAsked m_askedFruit m_askedStanding m_askedHook m_askedApron m_x m_height m_worth m_foot m_fork m_text m_rule h_m_read h_m_length h_m_top h_m_isAsked h_m_askedFruit h_m_askedStanding h_m_askedHook h_m_askedApron h_m_x h_m_height h_m_worth h_m_foot h_m_fork h_m_text h_m_rule hc0 hpost x2 m_at m_wrong (by omega) (by omega) (by omega) (by omega) (by omega) (by omega) (by omega)
                  · skip
                    have c46 := mt (fa_eq _ _).mpr c46
                    refine And.intro (fun c47 => ?_) (fun c47 => ?_)
                    · skip
                      have c47 := mt (fa_eq _ _).mpr c47
                      exfalso; omega
                    · skip
                      have c47 := (fa_eq _ _).mp c47
                      refine And.intro (fun h9 => absurd h9 (by decide)) (fun _ => ?_)
                      exact hpost _ _ _ (by omega) (by omega) (by omega) (by omega)
    · skip
      have c39 := mt (fa_lt _ _).mpr c39
      refine And.intro (fun h9 => absurd h9 (by decide)) (fun _ => ?_)
      refine t_X10_number (by omega) (by first | exact h_m_read | exact Or.inl rfl | exact Or.inr rfl | omega) (by omega) (by omega) (by omega) (by omega) (fun k => by have q9 := h_m_text k; omega) (fun k => by have q9 := h_m_rule k; omega) (by omega) (fun r50 m_at_48 m_wrong_49 h_r50 h_m_at_48 h_m_wrong_49 ox51 ox52 ox53 ox54 => ?_)
      exact hpost _ _ _ (by omega) (by omega) (by omega) (by omega)
set_option maxHeartbeats 8000000 in
set_option maxRecDepth 200000 in
theorem t_X10_thing {post : Int32 → Int32 → Int32 → Prop} {WT WH : TY_X10} {rn : Int} (hT : TT_X10_thing WT rn) (hH : TT_X10_held WH rn) {p0 : Int32} {m_read : Nat} {m_length : Int32} {m_top : Int32} {m_at : Int32} {m_wrong : Int32} {m_isAsked : Int32} {m_askedFruit : Int32} {m_askedStanding : Int32} {m_askedHook : Int32} {m_askedApron : Int32} {m_x : Nat → Int32} {m_height : Nat → Int32} {m_worth : Nat → Int32} {m_foot : Nat → Int32} {m_fork : Nat → Int32} {m_text : Nat → Int32} {m_rule : Nat → Int32} (h_p0 : 0 ≤ Int32.toInt p0 ∧ Int32.toInt p0 ≤ 4) (h_m_read : m_read = 1 ∨ m_read = 2) (h_m_length : 1 ≤ Int32.toInt m_length ∧ Int32.toInt m_length ≤ 80) (h_m_top : 40 ≤ Int32.toInt m_top ∧ Int32.toInt m_top ≤ 40) (h_m_at : 0 ≤ Int32.toInt m_at ∧ Int32.toInt m_at ≤ 80) (h_m_wrong : -1 ≤ Int32.toInt m_wrong ∧ Int32.toInt m_wrong ≤ -1) (h_m_isAsked : 0 ≤ Int32.toInt m_isAsked ∧ Int32.toInt m_isAsked ≤ 1) (h_m_askedFruit : 0 ≤ Int32.toInt m_askedFruit ∧ Int32.toInt m_askedFruit ≤ 15) (h_m_askedStanding : 0 ≤ Int32.toInt m_askedStanding ∧ Int32.toInt m_askedStanding ≤ 7) (h_m_askedHook : 0 ≤ Int32.toInt m_askedHook ∧ Int32.toInt m_askedHook ≤ 1) (h_m_askedApron : 0 ≤ Int32.toInt m_askedApron ∧ Int32.toInt m_askedApron ≤ 63) (h_m_x : ∀ k : Nat, 0 ≤ Int32.toInt (m_x k) ∧ Int32.toInt (m_x k) ≤ 99) (h_m_height : ∀ k : Nat, 0 ≤ Int32.toInt (m_height k) ∧ Int32.toInt (m_height k) ≤ 99) (h_m_worth : ∀ k : Nat, 0 ≤ Int32.toInt (m_worth k) ∧ Int32.toInt (m_worth k) ≤ 9) (h_m_foot : ∀ k : Nat, 0 ≤ Int32.toInt (m_foot k) ∧ Int32.toInt (m_foot k) ≤ 99) (h_m_fork : ∀ k : Nat, 0 ≤ Int32.toInt (m_fork k) ∧ Int32.toInt (m_fork k) ≤ 99) (h_m_text : ∀ k : Nat, -128 ≤ Int32.toInt (m_text k) ∧ Int32.toInt (m_text k) ≤ 127) (h_m_rule : ∀ k : Nat, -128 ≤ Int32.toInt (m_rule k) ∧ Int32.toInt (m_rule k) ≤ 127) (hc0 : m_read = 2 → Int32.toInt m_top ≤ 40) (hx0 : Int32.toInt m_at ≤ Int32.toInt m_top) (hx1 : Int32.toInt m_top - Int32.toInt m_at < rn + 1) (hpost : ∀ (r : Int32) (m_at' : Int32) (m_wrong' : Int32), (0 ≤ Int32.toInt m_at' ∧ Int32.toInt m_at' ≤ 80) → (-1 ≤ Int32.toInt m_wrong' ∧ Int32.toInt m_wrong' ≤ 80) → (Int32.toInt m_at ≤ Int32.toInt m_at') → (Int32.toInt m_at' ≤ Int32.toInt m_top) → post r m_at' m_wrong') : wp_X10_thing WT WH post p0 m_read m_length m_top m_at m_wrong m_isAsked m_askedFruit m_askedStanding m_askedHook m_askedApron m_x m_height m_worth m_foot m_fork m_text m_rule := by
  have l0 : Int32.toInt ((-1) : Int32) = -1 := (by decide)
  have l1 : Int32.toInt (1 : Int32) = 1 := (by decide)
  have l2 : Int32.toInt (4 : Int32) = 4 := (by decide)
  have l3 : Int32.toInt (40 : Int32) = 40 := (by decide)
  have l4 : Int32.toInt (41 : Int32) = 41 := (by decide)
  have l5 : Int32.toInt (45 : Int32) = 45 := (by decide)
  refine And.intro (fun c55 => ?_) (fun c55 => ?_)
  · skip
    have c55 := mt (fa_eq _ _).mpr c55
    exfalso; omega
  · skip
    have c55 := (fa_eq _ _).mp c55
    refine And.intro (fun h9 => absurd h9 (by decide)) (fun _ => ?_)
    refine t_X10_here (by first | exact h_m_read | exact Or.inl rfl | exact Or.inr rfl | omega) (by omega) (by omega) (by omega) (fun k => by have q9 := h_m_text k; omega) (fun k => by have q9 := h_m_rule k; omega) (by omega) (fun r56 h_r56 ox57 ox58 => ?_)
    refine And.intro (fun c59 => ?_) (fun c59 => ?_)
    · skip
      have c59 := (fa_eq _ _).mp c59
      intro v60 ev60
      have f61 : Int32.toInt (m_at + 1) = Int32.toInt m_at + Int32.toInt (1 : Int32) := ta_add _ _ (by omega)
      rw [← ev60] at f61
      refine And.intro (fun h9 => absurd h9 (by decide)) (fun _ => ?_)
      refine hT (by omega) (by first | exact h_m_read | exact Or.inl rfl | exact Or.inr rfl | omega) (by omega) (by omega) (by omega) (by omega) (by omega) (by omega) (by omega) (by omega) (by omega) (fun k => by have q9 := h_m_x k; omega) (fun k => by have q9 := h_m_height k; omega) (fun k => by have q9 := h_m_worth k; omega) (fun k => by have q9 := h_m_foot k; omega) (fun k => by have q9 := h_m_fork k; omega) (fun k => by have q9 := h_m_text k; omega) (fun k => by have q9 := h_m_rule k; omega) (by omega) (by omega) (by omega) (fun r64 m_at_62 m_wrong_63 h_m_at_62 h_m_wrong_63 ox65 ox66 => ?_)
      exact hpost _ _ _ (by omega) (by omega) (by omega) (by omega)
    · skip
      have c59 := mt (fa_eq _ _).mpr c59
      refine And.intro (fun _ => ?_) (fun h9 => absurd h9 (by decide))
      refine And.intro (fun c67 => ?_) (fun c67 => ?_)
      · skip
        have c67 := mt (fa_eq _ _).mpr c67
        exfalso; omega
      · skip
        have c67 := (fa_eq _ _).mp c67
        refine And.intro (fun _ => ?_) (fun h9 => absurd h9 (by decide))
        refine t_X10_here (by first | exact h_m_read | exact Or.inl rfl | exact Or.inr rfl | omega) (by omega) (by omega) (by omega) (fun k => by have q9 := h_m_text k; omega) (fun k => by have q9 := h_m_rule k; omega) (by omega) (fun r68 h_r68 ox69 ox70 => ?_)
        refine And.intro (fun c71 => ?_) (fun c71 => ?_)
        · skip
          have c71 := mt (fa_eq _ _).mpr c71
          exact ts_X10_thing_67 hT hH m_read m_length m_top m_isAsked m_askedFruit m_askedStanding m_askedHook m_askedApron m_x m_height m_worth m_foot m_fork m_text m_rule h_m_read h_m_length h_m_top h_m_isAsked h_m_askedFruit h_m_askedStanding h_m_askedHook h_m_askedApron h_m_x h_m_height h_m_worth h_m_foot h_m_fork h_m_text h_m_rule hc0 hpost r68 m_at m_wrong (by omega) (by omega) (by omega) (by omega) (by omega) (by omega) (by omega)
        · skip
          have c71 := (fa_eq _ _).mp c71
          refine And.intro (fun c72 => ?_) (fun c72 => ?_)
          · skip
            have c72 := (fa_le _ _).mp c72
            exact ts_X10_thing_67 hT hH m_read m_length m_top m_isAsked m_askedFruit m_askedStanding m_askedHook m_askedApron m_x m_height m_worth m_foot m_fork m_text m_rule h_m_read h_m_length h_m_top h_m_isAsked h_m_askedFruit h_m_askedStanding h_m_askedHook h_m_askedApron h_m_x h_m_height h_m_worth h_m_foot h_m_fork h_m_text h_m_rule hc0 hpost r68 m_at m_wrong (by omega) (by omega) (by omega) (by omega) (by omega) (by omega) (by omega)
          · skip
            have c72 := mt (fa_le _ _).mpr c72
            intro v73 ev73
            have f74 : Int32.toInt (m_at + 1) = Int32.toInt m_at + Int32.toInt (1 : Int32) := ta_add _ _ (by omega)
            rw [← ev73] at f74
            intro v75 ev75
            have f76 : Int32.toInt (p0 + 1) = Int32.toInt p0 + Int32.toInt (1 : Int32) := ta_add _ _ (by omega)
            rw [← ev75] at f76
            refine hH (by omega) (by first | exact h_m_read | exact Or.inl rfl | exact Or.inr rfl | omega) (by omega) (by omega) (by omega) (by omega) (by omega) (by omega) (by omega) (by omega) (by omega) (fun k => by have q9 := h_m_x k; omega) (fun k => by have q9 := h_m_height k; omega) (fun k => by have q9 := h_m_worth k; omega) (fun k => by have q9 := h_m_foot k; omega) (fun k => by have q9 := h_m_fork k; omega) (fun k => by have q9 := h_m_text k; omega) (fun k => by have q9 := h_m_rule k; omega) (by omega) (by omega) (by omega) (fun r79 m_at_77 m_wrong_78 h_m_at_77 h_m_wrong_78 ox80 ox81 => ?_)
            refine And.intro (fun c82 => ?_) (fun c82 => ?_)
            · skip
              have c82 := mt (fa_eq _ _).mpr c82
              refine And.intro (fun _ => ?_) (fun h9 => absurd h9 (by decide))
              refine And.intro (fun h9 => absurd h9 (by decide)) (fun _ => ?_)
              refine And.intro (fun c83 => ?_) (fun c83 => ?_)
              · skip
                have c83 := mt (fa_eq _ _).mpr c83
                refine And.intro (fun _ => ?_) (fun h9 => absurd h9 (by decide))
                exact hpost _ _ _ (by omega) (by omega) (by omega) (by omega)
              · skip
                have c83 := (fa_eq _ _).mp c83
                exfalso; omega
            · skip
              have c82 := (fa_eq _ _).mp c82
              refine And.intro (fun h9 => absurd h9 (by decide)) (fun _ => ?_)
              refine t_X10_here (by first | exact h_m_read | exact Or.inl rfl | exact Or.inr rfl | omega) (by omega) (by omega) (by omega) (fun k => by have q9 := h_m_text k; omega) (fun k => by have q9 := h_m_rule k; omega) (by omega) (fun r84 h_r84 ox85 ox86 => ?_)
              refine And.intro (fun c87 => ?_) (fun c87 => ?_)
              · skip
                have c87 := (fa_eq _ _).mp c87
                intro v88 ev88
                have f89 : Int32.toInt (m_at_77 + 1) = Int32.toInt m_at_77 + Int32.toInt (1 : Int32) := ta_add _ _ (by omega)
                rw [← ev88] at f89
                refine And.intro (fun _ => ?_) (fun h9 => absurd h9 (by decide))
                exact hpost _ _ _ (by omega) (by omega) (by omega) (by omega)
              · skip
                have c87 := mt (fa_eq _ _).mpr c87
                refine And.intro (fun h9 => absurd h9 (by decide)) (fun _ => ?_)
                refine And.intro (fun c90 => ?_) (fun c90 => ?_)
                · skip
                  have c90 := mt (fa_eq _ _).mpr c90
                  exfalso; omega
                · skip
                  have c90 := (fa_eq _ _).mp c90
                  refine And.intro (fun h9 => absurd h9 (by decide)) (fun _ => ?_)
                  exact hpost _ _ _ (by omega) (by omega) (by omega) (by omega)
set_option maxHeartbeats 8000000 in
set_option maxRecDepth 200000 in
theorem ts_X10_product_87 {post : Int32 → Int32 → Int32 → Prop} {WT WH : TY_X10} {rn : Int} (hT : TT_X10_thing WT rn) (hH : TT_X10_held WH rn) {m_at0 : Int32} {K6 : Int32 → Int32 → Int32 → Int32 → Prop} {n6 : Int} (m_read : Nat) (m_length : Int32) (m_top : Int32) (m_isAsked : Int32) (m_askedFruit : Int32) (m_askedStanding : Int32) (m_askedHook : Int32) (m_askedApron : Int32) (m_x : Nat → Int32) (m_height : Nat → Int32) (m_worth : Nat → Int32) (m_foot : Nat → Int32) (m_fork : Nat → Int32) (m_text : Nat → Int32) (m_rule : Nat → Int32) (h_m_read : m_read = 1 ∨ m_read = 2) (h_m_length : 1 ≤ Int32.toInt m_length ∧ Int32.toInt m_length ≤ 80) (h_m_top : 40 ≤ Int32.toInt m_top ∧ Int32.toInt m_top ≤ 40) (h_m_isAsked : 0 ≤ Int32.toInt m_isAsked ∧ Int32.toInt m_isAsked ≤ 1) (h_m_askedFruit : 0 ≤ Int32.toInt m_askedFruit ∧ Int32.toInt m_askedFruit ≤ 15) (h_m_askedStanding : 0 ≤ Int32.toInt m_askedStanding ∧ Int32.toInt m_askedStanding ≤ 7) (h_m_askedHook : 0 ≤ Int32.toInt m_askedHook ∧ Int32.toInt m_askedHook ≤ 1) (h_m_askedApron : 0 ≤ Int32.toInt m_askedApron ∧ Int32.toInt m_askedApron ≤ 63) (h_m_x : ∀ k : Nat, 0 ≤ Int32.toInt (m_x k) ∧ Int32.toInt (m_x k) ≤ 99) (h_m_height : ∀ k : Nat, 0 ≤ Int32.toInt (m_height k) ∧ Int32.toInt (m_height k) ≤ 99) (h_m_worth : ∀ k : Nat, 0 ≤ Int32.toInt (m_worth k) ∧ Int32.toInt (m_worth k) ≤ 9) (h_m_foot : ∀ k : Nat, 0 ≤ Int32.toInt (m_foot k) ∧ Int32.toInt (m_foot k) ≤ 99) (h_m_fork : ∀ k : Nat, 0 ≤ Int32.toInt (m_fork k) ∧ Int32.toInt (m_fork k) ≤ 99) (h_m_text : ∀ k : Nat, -128 ≤ Int32.toInt (m_text k) ∧ Int32.toInt (m_text k) ≤ 127) (h_m_rule : ∀ k : Nat, -128 ≤ Int32.toInt (m_rule k) ∧ Int32.toInt (m_rule k) ≤ 127) (hc0 : m_read = 2 → Int32.toInt m_top ≤ 40) (hpost : ∀ (r : Int32) (m_at' : Int32) (m_wrong' : Int32), (0 ≤ Int32.toInt m_at' ∧ Int32.toInt m_at' ≤ 80) → (-1 ≤ Int32.toInt m_wrong' ∧ Int32.toInt m_wrong' ≤ 80) → (Int32.toInt m_at0 ≤ Int32.toInt m_at') → (Int32.toInt m_at' ≤ Int32.toInt m_top) → post r m_at' m_wrong') (hK6 : ∀ (x1 : Int32) (x2 : Int32) (m_at : Int32) (m_wrong : Int32), (0 ≤ Int32.toInt x1 ∧ Int32.toInt x1 ≤ 4) → (0 ≤ Int32.toInt m_at ∧ Int32.toInt m_at ≤ 80) → (-1 ≤ Int32.toInt m_wrong ∧ Int32.toInt m_wrong ≤ 80) → (Int32.toInt m_at ≤ Int32.toInt m_top) → (Int32.toInt m_top - Int32.toInt m_at < rn + 1) → (Int32.toInt m_at0 ≤ Int32.toInt m_at) → (Int32.toInt m_top - Int32.toInt m_at < n6) → K6 x1 x2 m_at m_wrong) (x1 : Int32) (k0 : Int32) (m_at : Int32) (m_wrong : Int32) (h_x1 : 0 ≤ Int32.toInt x1 ∧ Int32.toInt x1 ≤ 4) (h_m_at : 0 ≤ Int32.toInt m_at ∧ Int32.toInt m_at ≤ 80) (h_m_wrong : -1 ≤ Int32.toInt m_wrong ∧ Int32.toInt m_wrong ≤ 80) (hx0 : Int32.toInt m_at ≤ Int32.toInt m_top) (hx1 : Int32.toInt m_top - Int32.toInt m_at < rn + 1) (hx2 : Int32.toInt m_at0 ≤ Int32.toInt m_at) (hx3 : Int32.toInt m_top - Int32.toInt m_at < n6) (hn6 : Int32.toInt m_top - Int32.toInt m_at ≤ n6) : ws_X10_product_87 WT WH post K6 m_read m_length m_top m_isAsked m_askedFruit m_askedStanding m_askedHook m_askedApron m_x m_height m_worth m_foot m_fork m_text m_rule x1 k0 m_at m_wrong := by
  have f1 := tp_r k0
  exact hK6 x1 k0 m_at m_wrong (by omega) (by omega) (by omega) (by omega) (by omega) (by omega) (by omega)
set_option maxHeartbeats 8000000 in
set_option maxRecDepth 200000 in
theorem ts_X10_product_45 {post : Int32 → Int32 → Int32 → Prop} {WT WH : TY_X10} {rn : Int} (hT : TT_X10_thing WT rn) (hH : TT_X10_held WH rn) {m_at0 : Int32} {K6 : Int32 → Int32 → Int32 → Int32 → Prop} {n6 : Int} (m_read : Nat) (m_length : Int32) (m_top : Int32) (m_isAsked : Int32) (m_askedFruit : Int32) (m_askedStanding : Int32) (m_askedHook : Int32) (m_askedApron : Int32) (m_x : Nat → Int32) (m_height : Nat → Int32) (m_worth : Nat → Int32) (m_foot : Nat → Int32) (m_fork : Nat → Int32) (m_text : Nat → Int32) (m_rule : Nat → Int32) (h_m_read : m_read = 1 ∨ m_read = 2) (h_m_length : 1 ≤ Int32.toInt m_length ∧ Int32.toInt m_length ≤ 80) (h_m_top : 40 ≤ Int32.toInt m_top ∧ Int32.toInt m_top ≤ 40) (h_m_isAsked : 0 ≤ Int32.toInt m_isAsked ∧ Int32.toInt m_isAsked ≤ 1) (h_m_askedFruit : 0 ≤ Int32.toInt m_askedFruit ∧ Int32.toInt m_askedFruit ≤ 15) (h_m_askedStanding : 0 ≤ Int32.toInt m_askedStanding ∧ Int32.toInt m_askedStanding ≤ 7) (h_m_askedHook : 0 ≤ Int32.toInt m_askedHook ∧ Int32.toInt m_askedHook ≤ 1) (h_m_askedApron : 0 ≤ Int32.toInt m_askedApron ∧ Int32.toInt m_askedApron ≤ 63) (h_m_x : ∀ k : Nat, 0 ≤ Int32.toInt (m_x k) ∧ Int32.toInt (m_x k) ≤ 99) (h_m_height : ∀ k : Nat, 0 ≤ Int32.toInt (m_height k) ∧ Int32.toInt (m_height k) ≤ 99) (h_m_worth : ∀ k : Nat, 0 ≤ Int32.toInt (m_worth k) ∧ Int32.toInt (m_worth k) ≤ 9) (h_m_foot : ∀ k : Nat, 0 ≤ Int32.toInt (m_foot k) ∧ Int32.toInt (m_foot k) ≤ 99) (h_m_fork : ∀ k : Nat, 0 ≤ Int32.toInt (m_fork k) ∧ Int32.toInt (m_fork k) ≤ 99) (h_m_text : ∀ k : Nat, -128 ≤ Int32.toInt (m_text k) ∧ Int32.toInt (m_text k) ≤ 127) (h_m_rule : ∀ k : Nat, -128 ≤ Int32.toInt (m_rule k) ∧ Int32.toInt (m_rule k) ≤ 127) (hc0 : m_read = 2 → Int32.toInt m_top ≤ 40) (hpost : ∀ (r : Int32) (m_at' : Int32) (m_wrong' : Int32), (0 ≤ Int32.toInt m_at' ∧ Int32.toInt m_at' ≤ 80) → (-1 ≤ Int32.toInt m_wrong' ∧ Int32.toInt m_wrong' ≤ 80) → (Int32.toInt m_at0 ≤ Int32.toInt m_at') → (Int32.toInt m_at' ≤ Int32.toInt m_top) → post r m_at' m_wrong') (hK6 : ∀ (x1 : Int32) (x2 : Int32) (m_at : Int32) (m_wrong : Int32), (0 ≤ Int32.toInt x1 ∧ Int32.toInt x1 ≤ 4) → (0 ≤ Int32.toInt m_at ∧ Int32.toInt m_at ≤ 80) → (-1 ≤ Int32.toInt m_wrong ∧ Int32.toInt m_wrong ≤ 80) → (Int32.toInt m_at ≤ Int32.toInt m_top) → (Int32.toInt m_top - Int32.toInt m_at < rn + 1) → (Int32.toInt m_at0 ≤ Int32.toInt m_at) → (Int32.toInt m_top - Int32.toInt m_at < n6) → K6 x1 x2 m_at m_wrong) (x1 : Int32) (x2 : Int32) (k0 : Int32) (m_at : Int32) (m_wrong : Int32) (h_x1 : 0 ≤ Int32.toInt x1 ∧ Int32.toInt x1 ≤ 4) (h_k0 : 0 ≤ Int32.toInt k0 ∧ Int32.toInt k0 ≤ 1) (h_m_at : 0 ≤ Int32.toInt m_at ∧ Int32.toInt m_at ≤ 80) (h_m_wrong : -1 ≤ Int32.toInt m_wrong ∧ Int32.toInt m_wrong ≤ -1) (hx0 : Int32.toInt m_at ≤ Int32.toInt m_top) (hx1 : Int32.toInt m_top - Int32.toInt m_at < rn + 1) (hx2 : Int32.toInt m_at0 ≤ Int32.toInt m_at) (hx3 : Int32.toInt m_at < Int32.toInt m_top) (hn6 : Int32.toInt m_top - Int32.toInt m_at ≤ n6) : ws_X10_product_45 WT WH post K6 m_read m_length m_top m_isAsked m_askedFruit m_askedStanding m_askedHook m_askedApron m_x m_height m_worth m_foot m_fork m_text m_rule x1 x2 k0 m_at m_wrong := by
  have l0 : Int32.toInt (0 : Int32) = 0 := (by decide)
  have l1 : Int32.toInt (1 : Int32) = 1 := (by decide)
  intro v2 ev2
  have f3 : Int32.toInt (m_at + 1) = Int32.toInt m_at + Int32.toInt (1 : Int32) := ta_add _ _ (by omega)
  rw [← ev2] at f3
  refine t_X10_thing hT hH (by omega) (by first | exact h_m_read | exact Or.inl rfl | exact Or.inr rfl | omega) (by omega) (by omega) (by omega) (by omega) (by omega) (by omega) (by omega) (by omega) (by omega) (fun k => by have q9 := h_m_x k; omega) (fun k => by have q9 := h_m_height k; omega) (fun k => by have q9 := h_m_worth k; omega) (fun k => by have q9 := h_m_foot k; omega) (fun k => by have q9 := h_m_fork k; omega) (fun k => by have q9 := h_m_text k; omega) (fun k => by have q9 := h_m_rule k; omega) (by omega) (by omega) (by omega) (fun r6 m_at_4 m_wrong_5 h_m_at_4 h_m_wrong_5 ox7 ox8 => ?_)
  refine And.intro (fun c9 => ?_) (fun c9 => ?_)
  · skip
    have c9 := (fa_eq _ _).mp c9
    have f11 := tp_r r6
    refine And.intro (fun c10 => ?_) (fun c10 => ?_)
    · skip
      have c10 := mt (fa_eq _ _).mpr c10
      refine And.intro (mt (fa_eq _ _).mp (by omega)) ?_
      intro v12 ev12
      have f13 := tp_r v12
      exact ts_X10_product_87 hT hH m_read m_length m_top m_isAsked m_askedFruit m_askedStanding m_askedHook m_askedApron m_x m_height m_worth m_foot m_fork m_text m_rule h_m_read h_m_length h_m_top h_m_isAsked h_m_askedFruit h_m_askedStanding h_m_askedHook h_m_askedApron h_m_x h_m_height h_m_worth h_m_foot h_m_fork h_m_text h_m_rule hc0 hpost hK6 x1 v12 m_at_4 m_wrong_5 (by omega) (by omega) (by omega) (by omega) (by omega) (by omega) (by omega) (by omega)
    · skip
      have c10 := (fa_eq _ _).mp c10
      exact ts_X10_product_87 hT hH m_read m_length m_top m_isAsked m_askedFruit m_askedStanding m_askedHook m_askedApron m_x m_height m_worth m_foot m_fork m_text m_rule h_m_read h_m_length h_m_top h_m_isAsked h_m_askedFruit h_m_askedStanding h_m_askedHook h_m_askedApron h_m_x h_m_height h_m_worth h_m_foot h_m_fork h_m_text h_m_rule hc0 hpost hK6 x1 0 m_at_4 m_wrong_5 (by omega) (by omega) (by omega) (by omega) (by omega) (by omega) (by omega) (by omega)
  · skip
    have c9 := mt (fa_eq _ _).mpr c9
    intro v14 ev14
    have hv14 := congrArg Int32.toInt ev14
    have f16 := tp_r v14
    exact ts_X10_product_87 hT hH m_read m_length m_top m_isAsked m_askedFruit m_askedStanding m_askedHook m_askedApron m_x m_height m_worth m_foot m_fork m_text m_rule h_m_read h_m_length h_m_top h_m_isAsked h_m_askedFruit h_m_askedStanding h_m_askedHook h_m_askedApron h_m_x h_m_height h_m_worth h_m_foot h_m_fork h_m_text h_m_rule hc0 hpost hK6 x1 v14 m_at_4 m_wrong_5 (by omega) (by omega) (by omega) (by omega) (by omega) (by omega) (by omega) (by omega)
set_option maxHeartbeats 8000000 in
set_option maxRecDepth 200000 in
theorem ts_X10_product_31 {post : Int32 → Int32 → Int32 → Prop} {WT WH : TY_X10} {rn : Int} (hT : TT_X10_thing WT rn) (hH : TT_X10_held WH rn) {m_at0 : Int32} {K6 : Int32 → Int32 → Int32 → Int32 → Prop} {n6 : Int} (m_read : Nat) (m_length : Int32) (m_top : Int32) (m_isAsked : Int32) (m_askedFruit : Int32) (m_askedStanding : Int32) (m_askedHook : Int32) (m_askedApron : Int32) (m_x : Nat → Int32) (m_height : Nat → Int32) (m_worth : Nat → Int32) (m_foot : Nat → Int32) (m_fork : Nat → Int32) (m_text : Nat → Int32) (m_rule : Nat → Int32) (h_m_read : m_read = 1 ∨ m_read = 2) (h_m_length : 1 ≤ Int32.toInt m_length ∧ Int32.toInt m_length ≤ 80) (h_m_top : 40 ≤ Int32.toInt m_top ∧ Int32.toInt m_top ≤ 40) (h_m_isAsked : 0 ≤ Int32.toInt m_isAsked ∧ Int32.toInt m_isAsked ≤ 1) (h_m_askedFruit : 0 ≤ Int32.toInt m_askedFruit ∧ Int32.toInt m_askedFruit ≤ 15) (h_m_askedStanding : 0 ≤ Int32.toInt m_askedStanding ∧ Int32.toInt m_askedStanding ≤ 7) (h_m_askedHook : 0 ≤ Int32.toInt m_askedHook ∧ Int32.toInt m_askedHook ≤ 1) (h_m_askedApron : 0 ≤ Int32.toInt m_askedApron ∧ Int32.toInt m_askedApron ≤ 63) (h_m_x : ∀ k : Nat, 0 ≤ Int32.toInt (m_x k) ∧ Int32.toInt (m_x k) ≤ 99) (h_m_height : ∀ k : Nat, 0 ≤ Int32.toInt (m_height k) ∧ Int32.toInt (m_height k) ≤ 99) (h_m_worth : ∀ k : Nat, 0 ≤ Int32.toInt (m_worth k) ∧ Int32.toInt (m_worth k) ≤ 9) (h_m_foot : ∀ k : Nat, 0 ≤ Int32.toInt (m_foot k) ∧ Int32.toInt (m_foot k) ≤ 99) (h_m_fork : ∀ k : Nat, 0 ≤ Int32.toInt (m_fork k) ∧ Int32.toInt (m_fork k) ≤ 99) (h_m_text : ∀ k : Nat, -128 ≤ Int32.toInt (m_text k) ∧ Int32.toInt (m_text k) ≤ 127) (h_m_rule : ∀ k : Nat, -128 ≤ Int32.toInt (m_rule k) ∧ Int32.toInt (m_rule k) ≤ 127) (hc0 : m_read = 2 → Int32.toInt m_top ≤ 40) (hpost : ∀ (r : Int32) (m_at' : Int32) (m_wrong' : Int32), (0 ≤ Int32.toInt m_at' ∧ Int32.toInt m_at' ≤ 80) → (-1 ≤ Int32.toInt m_wrong' ∧ Int32.toInt m_wrong' ≤ 80) → (Int32.toInt m_at0 ≤ Int32.toInt m_at') → (Int32.toInt m_at' ≤ Int32.toInt m_top) → post r m_at' m_wrong') (hK6 : ∀ (x1 : Int32) (x2 : Int32) (m_at : Int32) (m_wrong : Int32), (0 ≤ Int32.toInt x1 ∧ Int32.toInt x1 ≤ 4) → (0 ≤ Int32.toInt m_at ∧ Int32.toInt m_at ≤ 80) → (-1 ≤ Int32.toInt m_wrong ∧ Int32.toInt m_wrong ≤ 80) → (Int32.toInt m_at ≤ Int32.toInt m_top) → (Int32.toInt m_top - Int32.toInt m_at < rn + 1) → (Int32.toInt m_at0 ≤ Int32.toInt m_at) → (Int32.toInt m_top - Int32.toInt m_at < n6) → K6 x1 x2 m_at m_wrong) (x1 : Int32) (x2 : Int32) (m_at : Int32) (m_wrong : Int32) (h_x1 : 0 ≤ Int32.toInt x1 ∧ Int32.toInt x1 ≤ 4) (h_m_at : 0 ≤ Int32.toInt m_at ∧ Int32.toInt m_at ≤ 80) (h_m_wrong : -1 ≤ Int32.toInt m_wrong ∧ Int32.toInt m_wrong ≤ -1) (hx0 : Int32.toInt m_at ≤ Int32.toInt m_top) (hx1 : Int32.toInt m_top - Int32.toInt m_at < rn + 1) (hx2 : Int32.toInt m_at0 ≤ Int32.toInt m_at) (hx3 : Int32.toInt m_at < Int32.toInt m_top) (hn6 : Int32.toInt m_top - Int32.toInt m_at ≤ n6) : ws_X10_product_31 WT WH post K6 m_read m_length m_top m_isAsked m_askedFruit m_askedStanding m_askedHook m_askedApron m_x m_height m_worth m_foot m_fork m_text m_rule x1 x2 m_at m_wrong := by
  have l0 : Int32.toInt (0 : Int32) = 0 := (by decide)
  have l1 : Int32.toInt (1 : Int32) = 1 := (by decide)
  have l2 : Int32.toInt (42 : Int32) = 42 := (by decide)
  refine t_X10_here (by first | exact h_m_read | exact Or.inl rfl | exact Or.inr rfl | omega) (by omega) (by omega) (by omega) (fun k => by have q9 := h_m_text k; omega) (fun k => by have q9 := h_m_rule k; omega) (by omega) (fun r17 h_r17 ox18 ox19 => ?_)
  refine And.intro (fun c20 => ?_) (fun c20 => ?_)
  · skip
    have c20 := mt (fa_eq _ _).mpr c20
    have f21 := tp_r x2
    exact ts_X10_product_45 hT hH m_read m_length m_top m_isAsked m_askedFruit m_askedStanding m_askedHook m_askedApron m_x m_height m_worth m_foot m_fork m_text m_rule h_m_read h_m_length h_m_top h_m_isAsked h_m_askedFruit h_m_askedStanding h_m_askedHook h_m_askedApron h_m_x h_m_height h_m_worth h_m_foot h_m_fork h_m_text h_m_rule hc0 hpost hK6 x1 x2 0 m_at m_wrong (by omega) (by omega) (by omega) (by omega) (by omega) (by omega) (by omega) (by omega) (by omega)
  · skip
    have c20 := (fa_eq _ _).mp c20
    have f22 := tp_r x2
    exact ts_X10_product_45 hT hH m_read m_length m_top m_isAsked m_askedFruit m_askedStanding m_askedHook m_askedApron m_x m_height m_worth m_foot m_fork m_text m_rule h_m_read h_m_length h_m_top h_m_isAsked h_m_askedFruit h_m_askedStanding h_m_askedHook h_m_askedApron h_m_x h_m_height h_m_worth h_m_foot h_m_fork h_m_text h_m_rule hc0 hpost hK6 x1 x2 1 m_at m_wrong (by omega) (by omega) (by omega) (by omega) (by omega) (by omega) (by omega) (by omega) (by omega)
set_option maxHeartbeats 8000000 in
set_option maxRecDepth 200000 in
theorem ts_X10_product_6 {post : Int32 → Int32 → Int32 → Prop} {WT WH : TY_X10} {rn : Int} (hT : TT_X10_thing WT rn) (hH : TT_X10_held WH rn) {m_at0 : Int32} {next : Int32 → Int32 → Int32 → Int32 → Prop} {n6 : Int} (m_read : Nat) (m_length : Int32) (m_top : Int32) (m_isAsked : Int32) (m_askedFruit : Int32) (m_askedStanding : Int32) (m_askedHook : Int32) (m_askedApron : Int32) (m_x : Nat → Int32) (m_height : Nat → Int32) (m_worth : Nat → Int32) (m_foot : Nat → Int32) (m_fork : Nat → Int32) (m_text : Nat → Int32) (m_rule : Nat → Int32) (h_m_read : m_read = 1 ∨ m_read = 2) (h_m_length : 1 ≤ Int32.toInt m_length ∧ Int32.toInt m_length ≤ 80) (h_m_top : 40 ≤ Int32.toInt m_top ∧ Int32.toInt m_top ≤ 40) (h_m_isAsked : 0 ≤ Int32.toInt m_isAsked ∧ Int32.toInt m_isAsked ≤ 1) (h_m_askedFruit : 0 ≤ Int32.toInt m_askedFruit ∧ Int32.toInt m_askedFruit ≤ 15) (h_m_askedStanding : 0 ≤ Int32.toInt m_askedStanding ∧ Int32.toInt m_askedStanding ≤ 7) (h_m_askedHook : 0 ≤ Int32.toInt m_askedHook ∧ Int32.toInt m_askedHook ≤ 1) (h_m_askedApron : 0 ≤ Int32.toInt m_askedApron ∧ Int32.toInt m_askedApron ≤ 63) (h_m_x : ∀ k : Nat, 0 ≤ Int32.toInt (m_x k) ∧ Int32.toInt (m_x k) ≤ 99) (h_m_height : ∀ k : Nat, 0 ≤ Int32.toInt (m_height k) ∧ Int32.toInt (m_height k) ≤ 99) (h_m_worth : ∀ k : Nat, 0 ≤ Int32.toInt (m_worth k) ∧ Int32.toInt (m_worth k) ≤ 9) (h_m_foot : ∀ k : Nat, 0 ≤ Int32.toInt (m_foot k) ∧ Int32.toInt (m_foot k) ≤ 99) (h_m_fork : ∀ k : Nat, 0 ≤ Int32.toInt (m_fork k) ∧ Int32.toInt (m_fork k) ≤ 99) (h_m_text : ∀ k : Nat, -128 ≤ Int32.toInt (m_text k) ∧ Int32.toInt (m_text k) ≤ 127) (h_m_rule : ∀ k : Nat, -128 ≤ Int32.toInt (m_rule k) ∧ Int32.toInt (m_rule k) ≤ 127) (hc0 : m_read = 2 → Int32.toInt m_top ≤ 40) (hpost : ∀ (r : Int32) (m_at' : Int32) (m_wrong' : Int32), (0 ≤ Int32.toInt m_at' ∧ Int32.toInt m_at' ≤ 80) → (-1 ≤ Int32.toInt m_wrong' ∧ Int32.toInt m_wrong' ≤ 80) → (Int32.toInt m_at0 ≤ Int32.toInt m_at') → (Int32.toInt m_at' ≤ Int32.toInt m_top) → post r m_at' m_wrong') (hKn : ∀ (x1 : Int32) (x2 : Int32) (m_at : Int32) (m_wrong : Int32), (0 ≤ Int32.toInt x1 ∧ Int32.toInt x1 ≤ 4) → (0 ≤ Int32.toInt m_at ∧ Int32.toInt m_at ≤ 80) → (-1 ≤ Int32.toInt m_wrong ∧ Int32.toInt m_wrong ≤ 80) → (Int32.toInt m_at ≤ Int32.toInt m_top) → (Int32.toInt m_top - Int32.toInt m_at < rn + 1) → (Int32.toInt m_at0 ≤ Int32.toInt m_at) → (Int32.toInt m_top - Int32.toInt m_at < n6) → next x1 x2 m_at m_wrong) (x1 : Int32) (x2 : Int32) (m_at : Int32) (m_wrong : Int32) (h_x1 : 0 ≤ Int32.toInt x1 ∧ Int32.toInt x1 ≤ 4) (h_m_at : 0 ≤ Int32.toInt m_at ∧ Int32.toInt m_at ≤ 80) (h_m_wrong : -1 ≤ Int32.toInt m_wrong ∧ Int32.toInt m_wrong ≤ 80) (hx0 : Int32.toInt m_at ≤ Int32.toInt m_top) (hx1 : Int32.toInt m_top - Int32.toInt m_at < rn + 1) (hx2 : Int32.toInt m_at0 ≤ Int32.toInt m_at) (hn6 : Int32.toInt m_top - Int32.toInt m_at ≤ n6) : ws_X10_product_6 WT WH post next m_read m_length m_top m_isAsked m_askedFruit m_askedStanding m_askedHook m_askedApron m_x m_height m_worth m_foot m_fork m_text m_rule x1 x2 m_at m_wrong := by
  have l0 : Int32.toInt ((-1) : Int32) = -1 := (by decide)
  have l1 : Int32.toInt (42 : Int32) = 42 := (by decide)
  have l2 : Int32.toInt (47 : Int32) = 47 := (by decide)
  refine And.intro (fun c23 => ?_) (fun c23 => ?_)
  · skip
    have c23 := mt (fa_eq _ _).mpr c23
    refine And.intro (fun _ => ?_) (fun h9 => absurd h9 (by decide))
    exact hpost _ _ _ (by omega) (by omega) (by omega) (by omega)
  · skip
    have c23 := (fa_eq _ _).mp c23
    refine And.intro (fun h9 => absurd h9 (by decide)) (fun _ => ?_)
    refine t_X10_here (by first | exact h_m_read | exact Or.inl rfl | exact Or.inr rfl | omega) (by omega) (by omega) (by omega) (fun k => by have q9 := h_m_text k; omega) (fun k => by have q9 := h_m_rule k; omega) (by omega) (fun r24 h_r24 ox25 ox26 => ?_)
    refine And.intro (fun c27 => ?_) (fun c27 => ?_)
    · skip
      have c27 := (fa_eq _ _).mp c27
      have f28 := tp_r x2
      exact ts_X10_product_31 hT hH m_read m_length m_top m_isAsked m_askedFruit m_askedStanding m_askedHook m_askedApron m_x m_height m_worth m_foot m_fork m_text m_rule h_m_read h_m_length h_m_top h_m_isAsked h_m_askedFruit h_m_askedStanding h_m_askedHook h_m_askedApron h_m_x h_m_height h_m_worth h_m_foot h_m_fork h_m_text h_m_rule hc0 hpost hKn x1 x2 m_at m_wrong (by omega) (by omega) (by omega) (by omega) (by omega) (by omega) (by omega) (by omega)
    · skip
      have c27 := mt (fa_eq _ _).mpr c27
      refine t_X10_here (by first | exact h_m_read | exact Or.inl rfl | exact Or.inr rfl | omega) (by omega) (by omega) (by omega) (fun k => by have q9 := h_m_text k; omega) (fun k => by have q9 := h_m_rule k; omega) (by omega) (fun r29 h_r29 ox30 ox31 => ?_)
      refine And.intro (fun c32 => ?_) (fun c32 => ?_)
      · skip
        have c32 := mt (fa_eq _ _).mpr c32
        exact hpost _ _ _ (by omega) (by omega) (by omega) (by omega)
      · skip
        have c32 := (fa_eq _ _).mp c32
        have f33 := tp_r x2
        exact ts_X10_product_31 hT hH m_read m_length m_top m_isAsked m_askedFruit m_askedStanding m_askedHook m_askedApron m_x m_height m_worth m_foot m_fork m_text m_rule h_m_read h_m_length h_m_top h_m_isAsked h_m_askedFruit h_m_askedStanding h_m_askedHook h_m_askedApron h_m_x h_m_height h_m_worth h_m_foot h_m_fork h_m_text h_m_rule hc0 hpost hKn x1 x2 m_at m_wrong (by omega) (by omega) (by omega) (by omega) (by omega) (by omega) (by omega) (by omega)
set_option maxHeartbeats 8000000 in
set_option maxRecDepth 200000 in
theorem tb_X10_product_6 {post : Int32 → Int32 → Int32 → Prop} {WT WH : TY_X10} {rn : Int} (hT : TT_X10_thing WT rn) (hH : TT_X10_held WH rn) {m_at0 : Int32} (m_read : Nat) (m_length : Int32) (m_top : Int32) (m_isAsked : Int32) (m_askedFruit : Int32) (m_askedStanding : Int32) (m_askedHook : Int32) (m_askedApron : Int32) (m_x : Nat → Int32) (m_height : Nat → Int32) (m_worth : Nat → Int32) (m_foot : Nat → Int32) (m_fork : Nat → Int32) (m_text : Nat → Int32) (m_rule : Nat → Int32) (h_m_read : m_read = 1 ∨ m_read = 2) (h_m_length : 1 ≤ Int32.toInt m_length ∧ Int32.toInt m_length ≤ 80) (h_m_top : 40 ≤ Int32.toInt m_top ∧ Int32.toInt m_top ≤ 40) (h_m_isAsked : 0 ≤ Int32.toInt m_isAsked ∧ Int32.toInt m_isAsked ≤ 1) (h_m_askedFruit : 0 ≤ Int32.toInt m_askedFruit ∧ Int32.toInt m_askedFruit ≤ 15) (h_m_askedStanding : 0 ≤ Int32.toInt m_askedStanding ∧ Int32.toInt m_askedStanding ≤ 7) (h_m_askedHook : 0 ≤ Int32.toInt m_askedHook ∧ Int32.toInt m_askedHook ≤ 1) (h_m_askedApron : 0 ≤ Int32.toInt m_askedApron ∧ Int32.toInt m_askedApron ≤ 63) (h_m_x : ∀ k : Nat, 0 ≤ Int32.toInt (m_x k) ∧ Int32.toInt (m_x k) ≤ 99) (h_m_height : ∀ k : Nat, 0 ≤ Int32.toInt (m_height k) ∧ Int32.toInt (m_height k) ≤ 99) (h_m_worth : ∀ k : Nat, 0 ≤ Int32.toInt (m_worth k) ∧ Int32.toInt (m_worth k) ≤ 9) (h_m_foot : ∀ k : Nat, 0 ≤ Int32.toInt (m_foot k) ∧ Int32.toInt (m_foot k) ≤ 99) (h_m_fork : ∀ k : Nat, 0 ≤ Int32.toInt (m_fork k) ∧ Int32.toInt (m_fork k) ≤ 99) (h_m_text : ∀ k : Nat, -128 ≤ Int32.toInt (m_text k) ∧ Int32.toInt (m_text k) ≤ 127) (h_m_rule : ∀ k : Nat, -128 ≤ Int32.toInt (m_rule k) ∧ Int32.toInt (m_rule k) ≤ 127) (hc0 : m_read = 2 → Int32.toInt m_top ≤ 40) (hpost : ∀ (r : Int32) (m_at' : Int32) (m_wrong' : Int32), (0 ≤ Int32.toInt m_at' ∧ Int32.toInt m_at' ≤ 80) → (-1 ≤ Int32.toInt m_wrong' ∧ Int32.toInt m_wrong' ≤ 80) → (Int32.toInt m_at0 ≤ Int32.toInt m_at') → (Int32.toInt m_at' ≤ Int32.toInt m_top) → post r m_at' m_wrong') : ∀ (n : Nat) (x1 : Int32) (x2 : Int32) (m_at : Int32) (m_wrong : Int32), (0 ≤ Int32.toInt x1 ∧ Int32.toInt x1 ≤ 4) → (0 ≤ Int32.toInt m_at ∧ Int32.toInt m_at ≤ 80) → (-1 ≤ Int32.toInt m_wrong ∧ Int32.toInt m_wrong ≤ 80) → (Int32.toInt m_at ≤ Int32.toInt m_top) → (Int32.toInt m_top - Int32.toInt m_at < rn + 1) → (Int32.toInt m_at0 ≤ Int32.toInt m_at) → (Int32.toInt m_top - Int32.toInt m_at < (n : Int)) → wb_X10_product_6 WT WH post m_read m_length m_top m_isAsked m_askedFruit m_askedStanding m_askedHook m_askedApron m_x m_height m_worth m_foot m_fork m_text m_rule n x1 x2 m_at m_wrong := by
  intro n
  induction n with
  | zero =>
    intro x1 x2 m_at m_wrong h_x1 h_m_at h_m_wrong hx0 hx1 hx2 hm
    exfalso; omega
  | succ n ih =>
    intro x1 x2 m_at m_wrong h_x1 h_m_at h_m_wrong hx0 hx1 hx2 hm
    exact ts_X10_product_6 hT hH m_read m_length m_top m_isAsked m_askedFruit m_askedStanding m_askedHook m_askedApron m_x m_height m_worth m_foot m_fork m_text m_rule h_m_read h_m_length h_m_top h_m_isAsked h_m_askedFruit h_m_askedStanding h_m_askedHook h_m_askedApron h_m_x h_m_height h_m_worth h_m_foot h_m_fork h_m_text h_m_rule hc0 hpost ih x1 x2 m_at m_wrong h_x1 h_m_at h_m_wrong hx0 hx1 hx2 (by omega)
set_option maxHeartbeats 8000000 in
set_option maxRecDepth 200000 in
theorem t_X10_product {post : Int32 → Int32 → Int32 → Prop} {WT WH : TY_X10} {rn : Int} (hT : TT_X10_thing WT rn) (hH : TT_X10_held WH rn) {p0 : Int32} {m_read : Nat} {m_length : Int32} {m_top : Int32} {m_at : Int32} {m_wrong : Int32} {m_isAsked : Int32} {m_askedFruit : Int32} {m_askedStanding : Int32} {m_askedHook : Int32} {m_askedApron : Int32} {m_x : Nat → Int32} {m_height : Nat → Int32} {m_worth : Nat → Int32} {m_foot : Nat → Int32} {m_fork : Nat → Int32} {m_text : Nat → Int32} {m_rule : Nat → Int32} (h_p0 : 0 ≤ Int32.toInt p0 ∧ Int32.toInt p0 ≤ 4) (h_m_read : m_read = 1 ∨ m_read = 2) (h_m_length : 1 ≤ Int32.toInt m_length ∧ Int32.toInt m_length ≤ 80) (h_m_top : 40 ≤ Int32.toInt m_top ∧ Int32.toInt m_top ≤ 40) (h_m_at : 0 ≤ Int32.toInt m_at ∧ Int32.toInt m_at ≤ 80) (h_m_wrong : -1 ≤ Int32.toInt m_wrong ∧ Int32.toInt m_wrong ≤ -1) (h_m_isAsked : 0 ≤ Int32.toInt m_isAsked ∧ Int32.toInt m_isAsked ≤ 1) (h_m_askedFruit : 0 ≤ Int32.toInt m_askedFruit ∧ Int32.toInt m_askedFruit ≤ 15) (h_m_askedStanding : 0 ≤ Int32.toInt m_askedStanding ∧ Int32.toInt m_askedStanding ≤ 7) (h_m_askedHook : 0 ≤ Int32.toInt m_askedHook ∧ Int32.toInt m_askedHook ≤ 1) (h_m_askedApron : 0 ≤ Int32.toInt m_askedApron ∧ Int32.toInt m_askedApron ≤ 63) (h_m_x : ∀ k : Nat, 0 ≤ Int32.toInt (m_x k) ∧ Int32.toInt (m_x k) ≤ 99) (h_m_height : ∀ k : Nat, 0 ≤ Int32.toInt (m_height k) ∧ Int32.toInt (m_height k) ≤ 99) (h_m_worth : ∀ k : Nat, 0 ≤ Int32.toInt (m_worth k) ∧ Int32.toInt (m_worth k) ≤ 9) (h_m_foot : ∀ k : Nat, 0 ≤ Int32.toInt (m_foot k) ∧ Int32.toInt (m_foot k) ≤ 99) (h_m_fork : ∀ k : Nat, 0 ≤ Int32.toInt (m_fork k) ∧ Int32.toInt (m_fork k) ≤ 99) (h_m_text : ∀ k : Nat, -128 ≤ Int32.toInt (m_text k) ∧ Int32.toInt (m_text k) ≤ 127) (h_m_rule : ∀ k : Nat, -128 ≤ Int32.toInt (m_rule k) ∧ Int32.toInt (m_rule k) ≤ 127) (hc0 : m_read = 2 → Int32.toInt m_top ≤ 40) (hx0 : Int32.toInt m_at ≤ Int32.toInt m_top) (hx1 : Int32.toInt m_top - Int32.toInt m_at < rn + 1) (hpost : ∀ (r : Int32) (m_at' : Int32) (m_wrong' : Int32), (0 ≤ Int32.toInt m_at' ∧ Int32.toInt m_at' ≤ 80) → (-1 ≤ Int32.toInt m_wrong' ∧ Int32.toInt m_wrong' ≤ 80) → (Int32.toInt m_at ≤ Int32.toInt m_at') → (Int32.toInt m_at' ≤ Int32.toInt m_top) → post r m_at' m_wrong') : wp_X10_product WT WH post p0 m_read m_length m_top m_at m_wrong m_isAsked m_askedFruit m_askedStanding m_askedHook m_askedApron m_x m_height m_worth m_foot m_fork m_text m_rule := by
  refine t_X10_thing hT hH (by omega) (by first | exact h_m_read | exact Or.inl rfl | exact Or.inr rfl | omega) (by omega) (by omega) (by omega) (by omega) (by omega) (by omega) (by omega) (by omega) (by omega) (fun k => by have q9 := h_m_x k; omega) (fun k => by have q9 := h_m_height k; omega) (fun k => by have q9 := h_m_worth k; omega) (fun k => by have q9 := h_m_foot k; omega) (fun k => by have q9 := h_m_fork k; omega) (fun k => by have q9 := h_m_text k; omega) (fun k => by have q9 := h_m_rule k; omega) (by omega) (by omega) (by omega) (fun r36 m_at_34 m_wrong_35 h_m_at_34 h_m_wrong_35 ox37 ox38 => ?_)
  have f39 := tp_r r36
  exact ⟨82, tb_X10_product_6 hT hH m_read m_length m_top m_isAsked m_askedFruit m_askedStanding m_askedHook m_askedApron m_x m_height m_worth m_foot m_fork m_text m_rule h_m_read h_m_length h_m_top h_m_isAsked h_m_askedFruit h_m_askedStanding h_m_askedHook h_m_askedApron h_m_x h_m_height h_m_worth h_m_foot h_m_fork h_m_text h_m_rule hc0 hpost _ p0 r36 m_at_34 m_wrong_35 (by omega) (by omega) (by omega) (by omega) (by omega) (by omega) (by omega)⟩
set_option maxHeartbeats 8000000 in
set_option maxRecDepth 200000 in
theorem ts_X10_sum_78 {post : Int32 → Int32 → Int32 → Prop} {WT WH : TY_X10} {rn : Int} (hT : TT_X10_thing WT rn) (hH : TT_X10_held WH rn) {m_at0 : Int32} {K6 : Int32 → Int32 → Int32 → Int32 → Prop} {n6 : Int} (m_read : Nat) (m_length : Int32) (m_top : Int32) (m_isAsked : Int32) (m_askedFruit : Int32) (m_askedStanding : Int32) (m_askedHook : Int32) (m_askedApron : Int32) (m_x : Nat → Int32) (m_height : Nat → Int32) (m_worth : Nat → Int32) (m_foot : Nat → Int32) (m_fork : Nat → Int32) (m_text : Nat → Int32) (m_rule : Nat → Int32) (h_m_read : m_read = 1 ∨ m_read = 2) (h_m_length : 1 ≤ Int32.toInt m_length ∧ Int32.toInt m_length ≤ 80) (h_m_top : 40 ≤ Int32.toInt m_top ∧ Int32.toInt m_top ≤ 40) (h_m_isAsked : 0 ≤ Int32.toInt m_isAsked ∧ Int32.toInt m_isAsked ≤ 1) (h_m_askedFruit : 0 ≤ Int32.toInt m_askedFruit ∧ Int32.toInt m_askedFruit ≤ 15) (h_m_askedStanding : 0 ≤ Int32.toInt m_askedStanding ∧ Int32.toInt m_askedStanding ≤ 7) (h_m_askedHook : 0 ≤ Int32.toInt m_askedHook ∧ Int32.toInt m_askedHook ≤ 1) (h_m_askedApron : 0 ≤ Int32.toInt m_askedApron ∧ Int32.toInt m_askedApron ≤ 63) (h_m_x : ∀ k : Nat, 0 ≤ Int32.toInt (m_x k) ∧ Int32.toInt (m_x k) ≤ 99) (h_m_height : ∀ k : Nat, 0 ≤ Int32.toInt (m_height k) ∧ Int32.toInt (m_height k) ≤ 99) (h_m_worth : ∀ k : Nat, 0 ≤ Int32.toInt (m_worth k) ∧ Int32.toInt (m_worth k) ≤ 9) (h_m_foot : ∀ k : Nat, 0 ≤ Int32.toInt (m_foot k) ∧ Int32.toInt (m_foot k) ≤ 99) (h_m_fork : ∀ k : Nat, 0 ≤ Int32.toInt (m_fork k) ∧ Int32.toInt (m_fork k) ≤ 99) (h_m_text : ∀ k : Nat, -128 ≤ Int32.toInt (m_text k) ∧ Int32.toInt (m_text k) ≤ 127) (h_m_rule : ∀ k : Nat, -128 ≤ Int32.toInt (m_rule k) ∧ Int32.toInt (m_rule k) ≤ 127) (hc0 : m_read = 2 → Int32.toInt m_top ≤ 40) (hpost : ∀ (r : Int32) (m_at' : Int32) (m_wrong' : Int32), (0 ≤ Int32.toInt m_at' ∧ Int32.toInt m_at' ≤ 80) → (-1 ≤ Int32.toInt m_wrong' ∧ Int32.toInt m_wrong' ≤ 80) → (Int32.toInt m_at0 ≤ Int32.toInt m_at') → (Int32.toInt m_at' ≤ Int32.toInt m_top) → post r m_at' m_wrong') (hK6 : ∀ (x1 : Int32) (x2 : Int32) (m_at : Int32) (m_wrong : Int32), (0 ≤ Int32.toInt x1 ∧ Int32.toInt x1 ≤ 4) → (0 ≤ Int32.toInt m_at ∧ Int32.toInt m_at ≤ 80) → (-1 ≤ Int32.toInt m_wrong ∧ Int32.toInt m_wrong ≤ 80) → (Int32.toInt m_at ≤ Int32.toInt m_top) → (Int32.toInt m_top - Int32.toInt m_at < rn + 1) → (Int32.toInt m_at0 ≤ Int32.toInt m_at) → (Int32.toInt m_top - Int32.toInt m_at < n6) → K6 x1 x2 m_at m_wrong) (x1 : Int32) (k0 : Int32) (m_at : Int32) (m_wrong : Int32) (h_x1 : 0 ≤ Int32.toInt x1 ∧ Int32.toInt x1 ≤ 4) (h_m_at : 0 ≤ Int32.toInt m_at ∧ Int32.toInt m_at ≤ 80) (h_m_wrong : -1 ≤ Int32.toInt m_wrong ∧ Int32.toInt m_wrong ≤ 80) (hx0 : Int32.toInt m_at ≤ Int32.toInt m_top) (hx1 : Int32.toInt m_top - Int32.toInt m_at < rn + 1) (hx2 : Int32.toInt m_at0 ≤ Int32.toInt m_at) (hx3 : Int32.toInt m_top - Int32.toInt m_at < n6) (hn6 : Int32.toInt m_top - Int32.toInt m_at ≤ n6) : ws_X10_sum_78 WT WH post K6 m_read m_length m_top m_isAsked m_askedFruit m_askedStanding m_askedHook m_askedApron m_x m_height m_worth m_foot m_fork m_text m_rule x1 k0 m_at m_wrong := by
  have f1 := tp_r k0
  exact hK6 x1 k0 m_at m_wrong (by omega) (by omega) (by omega) (by omega) (by omega) (by omega) (by omega)
set_option maxHeartbeats 8000000 in
set_option maxRecDepth 200000 in
theorem ts_X10_sum_45 {post : Int32 → Int32 → Int32 → Prop} {WT WH : TY_X10} {rn : Int} (hT : TT_X10_thing WT rn) (hH : TT_X10_held WH rn) {m_at0 : Int32} {K6 : Int32 → Int32 → Int32 → Int32 → Prop} {n6 : Int} (m_read : Nat) (m_length : Int32) (m_top : Int32) (m_isAsked : Int32) (m_askedFruit : Int32) (m_askedStanding : Int32) (m_askedHook : Int32) (m_askedApron : Int32) (m_x : Nat → Int32) (m_height : Nat → Int32) (m_worth : Nat → Int32) (m_foot : Nat → Int32) (m_fork : Nat → Int32) (m_text : Nat → Int32) (m_rule : Nat → Int32) (h_m_read : m_read = 1 ∨ m_read = 2) (h_m_length : 1 ≤ Int32.toInt m_length ∧ Int32.toInt m_length ≤ 80) (h_m_top : 40 ≤ Int32.toInt m_top ∧ Int32.toInt m_top ≤ 40) (h_m_isAsked : 0 ≤ Int32.toInt m_isAsked ∧ Int32.toInt m_isAsked ≤ 1) (h_m_askedFruit : 0 ≤ Int32.toInt m_askedFruit ∧ Int32.toInt m_askedFruit ≤ 15) (h_m_askedStanding : 0 ≤ Int32.toInt m_askedStanding ∧ Int32.toInt m_askedStanding ≤ 7) (h_m_askedHook : 0 ≤ Int32.toInt m_askedHook ∧ Int32.toInt m_askedHook ≤ 1) (h_m_askedApron : 0 ≤ Int32.toInt m_askedApron ∧ Int32.toInt m_askedApron ≤ 63) (h_m_x : ∀ k : Nat, 0 ≤ Int32.toInt (m_x k) ∧ Int32.toInt (m_x k) ≤ 99) (h_m_height : ∀ k : Nat, 0 ≤ Int32.toInt (m_height k) ∧ Int32.toInt (m_height k) ≤ 99) (h_m_worth : ∀ k : Nat, 0 ≤ Int32.toInt (m_worth k) ∧ Int32.toInt (m_worth k) ≤ 9) (h_m_foot : ∀ k : Nat, 0 ≤ Int32.toInt (m_foot k) ∧ Int32.toInt (m_foot k) ≤ 99) (h_m_fork : ∀ k : Nat, 0 ≤ Int32.toInt (m_fork k) ∧ Int32.toInt (m_fork k) ≤ 99) (h_m_text : ∀ k : Nat, -128 ≤ Int32.toInt (m_text k) ∧ Int32.toInt (m_text k) ≤ 127) (h_m_rule : ∀ k : Nat, -128 ≤ Int32.toInt (m_rule k) ∧ Int32.toInt (m_rule k) ≤ 127) (hc0 : m_read = 2 → Int32.toInt m_top ≤ 40) (hpost : ∀ (r : Int32) (m_at' : Int32) (m_wrong' : Int32), (0 ≤ Int32.toInt m_at' ∧ Int32.toInt m_at' ≤ 80) → (-1 ≤ Int32.toInt m_wrong' ∧ Int32.toInt m_wrong' ≤ 80) → (Int32.toInt m_at0 ≤ Int32.toInt m_at') → (Int32.toInt m_at' ≤ Int32.toInt m_top) → post r m_at' m_wrong') (hK6 : ∀ (x1 : Int32) (x2 : Int32) (m_at : Int32) (m_wrong : Int32), (0 ≤ Int32.toInt x1 ∧ Int32.toInt x1 ≤ 4) → (0 ≤ Int32.toInt m_at ∧ Int32.toInt m_at ≤ 80) → (-1 ≤ Int32.toInt m_wrong ∧ Int32.toInt m_wrong ≤ 80) → (Int32.toInt m_at ≤ Int32.toInt m_top) → (Int32.toInt m_top - Int32.toInt m_at < rn + 1) → (Int32.toInt m_at0 ≤ Int32.toInt m_at) → (Int32.toInt m_top - Int32.toInt m_at < n6) → K6 x1 x2 m_at m_wrong) (x1 : Int32) (x2 : Int32) (k0 : Int32) (m_at : Int32) (m_wrong : Int32) (h_x1 : 0 ≤ Int32.toInt x1 ∧ Int32.toInt x1 ≤ 4) (h_k0 : 0 ≤ Int32.toInt k0 ∧ Int32.toInt k0 ≤ 1) (h_m_at : 0 ≤ Int32.toInt m_at ∧ Int32.toInt m_at ≤ 80) (h_m_wrong : -1 ≤ Int32.toInt m_wrong ∧ Int32.toInt m_wrong ≤ -1) (hx0 : Int32.toInt m_at ≤ Int32.toInt m_top) (hx1 : Int32.toInt m_top - Int32.toInt m_at < rn + 1) (hx2 : Int32.toInt m_at0 ≤ Int32.toInt m_at) (hx3 : Int32.toInt m_at < Int32.toInt m_top) (hn6 : Int32.toInt m_top - Int32.toInt m_at ≤ n6) : ws_X10_sum_45 WT WH post K6 m_read m_length m_top m_isAsked m_askedFruit m_askedStanding m_askedHook m_askedApron m_x m_height m_worth m_foot m_fork m_text m_rule x1 x2 k0 m_at m_wrong := by
  have l0 : Int32.toInt (0 : Int32) = 0 := (by decide)
  have l1 : Int32.toInt (1 : Int32) = 1 := (by decide)
  intro v2 ev2
  have f3 : Int32.toInt (m_at + 1) = Int32.toInt m_at + Int32.toInt (1 : Int32) := ta_add _ _ (by omega)
  rw [← ev2] at f3
  refine t_X10_product hT hH (by omega) (by first | exact h_m_read | exact Or.inl rfl | exact Or.inr rfl | omega) (by omega) (by omega) (by omega) (by omega) (by omega) (by omega) (by omega) (by omega) (by omega) (fun k => by have q9 := h_m_x k; omega) (fun k => by have q9 := h_m_height k; omega) (fun k => by have q9 := h_m_worth k; omega) (fun k => by have q9 := h_m_foot k; omega) (fun k => by have q9 := h_m_fork k; omega) (fun k => by have q9 := h_m_text k; omega) (fun k => by have q9 := h_m_rule k; omega) (by omega) (by omega) (by omega) (fun r6 m_at_4 m_wrong_5 h_m_at_4 h_m_wrong_5 ox7 ox8 => ?_)
  refine And.intro (fun c9 => ?_) (fun c9 => ?_)
  · skip
    have c9 := (fa_eq _ _).mp c9
    intro v10 ev10
    have hv10 := congrArg Int32.toInt ev10
    have f12 := tp_r v10
    exact ts_X10_sum_78 hT hH m_read m_length m_top m_isAsked m_askedFruit m_askedStanding m_askedHook m_askedApron m_x m_height m_worth m_foot m_fork m_text m_rule h_m_read h_m_length h_m_top h_m_isAsked h_m_askedFruit h_m_askedStanding h_m_askedHook h_m_askedApron h_m_x h_m_height h_m_worth h_m_foot h_m_fork h_m_text h_m_rule hc0 hpost hK6 x1 v10 m_at_4 m_wrong_5 (by omega) (by omega) (by omega) (by omega) (by omega) (by omega) (by omega) (by omega)
  · skip
    have c9 := mt (fa_eq _ _).mpr c9
    intro v13 ev13
    have hv13 := congrArg Int32.toInt ev13
    have f15 := tp_r v13
    exact ts_X10_sum_78 hT hH m_read m_length m_top m_isAsked m_askedFruit m_askedStanding m_askedHook m_askedApron m_x m_height m_worth m_foot m_fork m_text m_rule h_m_read h_m_length h_m_top h_m_isAsked h_m_askedFruit h_m_askedStanding h_m_askedHook h_m_askedApron h_m_x h_m_height h_m_worth h_m_foot h_m_fork h_m_text h_m_rule hc0 hpost hK6 x1 v13 m_at_4 m_wrong_5 (by omega) (by omega) (by omega) (by omega) (by omega) (by omega) (by omega) (by omega)
set_option maxHeartbeats 8000000 in
set_option maxRecDepth 200000 in
theorem ts_X10_sum_31 {post : Int32 → Int32 → Int32 → Prop} {WT WH : TY_X10} {rn : Int} (hT : TT_X10_thing WT rn) (hH : TT_X10_held WH rn) {m_at0 : Int32} {K6 : Int32 → Int32 → Int32 → Int32 → Prop} {n6 : Int} (m_read : Nat) (m_length : Int32) (m_top : Int32) (m_isAsked : Int32) (m_askedFruit : Int32) (m_askedStanding : Int32) (m_askedHook : Int32) (m_askedApron : Int32) (m_x : Nat → Int32) (m_height : Nat → Int32) (m_worth : Nat → Int32) (m_foot : Nat → Int32) (m_fork : Nat → Int32) (m_text : Nat → Int32) (m_rule : Nat → Int32) (h_m_read : m_read = 1 ∨ m_read = 2) (h_m_length : 1 ≤ Int32.toInt m_length ∧ Int32.toInt m_length ≤ 80) (h_m_top : 40 ≤ Int32.toInt m_top ∧ Int32.toInt m_top ≤ 40) (h_m_isAsked : 0 ≤ Int32.toInt m_isAsked ∧ Int32.toInt m_isAsked ≤ 1) (h_m_askedFruit : 0 ≤ Int32.toInt m_askedFruit ∧ Int32.toInt m_askedFruit ≤ 15) (h_m_askedStanding : 0 ≤ Int32.toInt m_askedStanding ∧ Int32.toInt m_askedStanding ≤ 7) (h_m_askedHook : 0 ≤ Int32.toInt m_askedHook ∧ Int32.toInt m_askedHook ≤ 1) (h_m_askedApron : 0 ≤ Int32.toInt m_askedApron ∧ Int32.toInt m_askedApron ≤ 63) (h_m_x : ∀ k : Nat, 0 ≤ Int32.toInt (m_x k) ∧ Int32.toInt (m_x k) ≤ 99) (h_m_height : ∀ k : Nat, 0 ≤ Int32.toInt (m_height k) ∧ Int32.toInt (m_height k) ≤ 99) (h_m_worth : ∀ k : Nat, 0 ≤ Int32.toInt (m_worth k) ∧ Int32.toInt (m_worth k) ≤ 9) (h_m_foot : ∀ k : Nat, 0 ≤ Int32.toInt (m_foot k) ∧ Int32.toInt (m_foot k) ≤ 99) (h_m_fork : ∀ k : Nat, 0 ≤ Int32.toInt (m_fork k) ∧ Int32.toInt (m_fork k) ≤ 99) (h_m_text : ∀ k : Nat, -128 ≤ Int32.toInt (m_text k) ∧ Int32.toInt (m_text k) ≤ 127) (h_m_rule : ∀ k : Nat, -128 ≤ Int32.toInt (m_rule k) ∧ Int32.toInt (m_rule k) ≤ 127) (hc0 : m_read = 2 → Int32.toInt m_top ≤ 40) (hpost : ∀ (r : Int32) (m_at' : Int32) (m_wrong' : Int32), (0 ≤ Int32.toInt m_at' ∧ Int32.toInt m_at' ≤ 80) → (-1 ≤ Int32.toInt m_wrong' ∧ Int32.toInt m_wrong' ≤ 80) → (Int32.toInt m_at0 ≤ Int32.toInt m_at') → (Int32.toInt m_at' ≤ Int32.toInt m_top) → post r m_at' m_wrong') (hK6 : ∀ (x1 : Int32) (x2 : Int32) (m_at : Int32) (m_wrong : Int32), (0 ≤ Int32.toInt x1 ∧ Int32.toInt x1 ≤ 4) → (0 ≤ Int32.toInt m_at ∧ Int32.toInt m_at ≤ 80) → (-1 ≤ Int32.toInt m_wrong ∧ Int32.toInt m_wrong ≤ 80) → (Int32.toInt m_at ≤ Int32.toInt m_top) → (Int32.toInt m_top - Int32.toInt m_at < rn + 1) → (Int32.toInt m_at0 ≤ Int32.toInt m_at) → (Int32.toInt m_top - Int32.toInt m_at < n6) → K6 x1 x2 m_at m_wrong) (x1 : Int32) (x2 : Int32) (m_at : Int32) (m_wrong : Int32) (h_x1 : 0 ≤ Int32.toInt x1 ∧ Int32.toInt x1 ≤ 4) (h_m_at : 0 ≤ Int32.toInt m_at ∧ Int32.toInt m_at ≤ 80) (h_m_wrong : -1 ≤ Int32.toInt m_wrong ∧ Int32.toInt m_wrong ≤ -1) (hx0 : Int32.toInt m_at ≤ Int32.toInt m_top) (hx1 : Int32.toInt m_top - Int32.toInt m_at < rn + 1) (hx2 : Int32.toInt m_at0 ≤ Int32.toInt m_at) (hx3 : Int32.toInt m_at < Int32.toInt m_top) (hn6 : Int32.toInt m_top - Int32.toInt m_at ≤ n6) : ws_X10_sum_31 WT WH post K6 m_read m_length m_top m_isAsked m_askedFruit m_askedStanding m_askedHook m_askedApron m_x m_height m_worth m_foot m_fork m_text m_rule x1 x2 m_at m_wrong := by
  have l0 : Int32.toInt (0 : Int32) = 0 := (by decide)
  have l1 : Int32.toInt (1 : Int32) = 1 := (by decide)
  have l2 : Int32.toInt (43 : Int32) = 43 := (by decide)
  refine t_X10_here (by first | exact h_m_read | exact Or.inl rfl | exact Or.inr rfl | omega) (by omega) (by omega) (by omega) (fun k => by have q9 := h_m_text k; omega) (fun k => by have q9 := h_m_rule k; omega) (by omega) (fun r16 h_r16 ox17 ox18 => ?_)
  refine And.intro (fun c19 => ?_) (fun c19 => ?_)
  · skip
    have c19 := mt (fa_eq _ _).mpr c19
    have f20 := tp_r x2
    exact ts_X10_sum_45 hT hH m_read m_length m_top m_isAsked m_askedFruit m_askedStanding m_askedHook m_askedApron m_x m_height m_worth m_foot m_fork m_text m_rule h_m_read h_m_length h_m_top h_m_isAsked h_m_askedFruit h_m_askedStanding h_m_askedHook h_m_askedApron h_m_x h_m_height h_m_worth h_m_foot h_m_fork h_m_text h_m_rule hc0 hpost hK6 x1 x2 0 m_at m_wrong (by omega) (by omega) (by omega) (by omega) (by omega) (by omega) (by omega) (by omega) (by omega)
  · skip
    have c19 := (fa_eq _ _).mp c19
    have f21 := tp_r x2
    exact ts_X10_sum_45 hT hH m_read m_length m_top m_isAsked m_askedFruit m_askedStanding m_askedHook m_askedApron m_x m_height m_worth m_foot m_fork m_text m_rule h_m_read h_m_length h_m_top h_m_isAsked h_m_askedFruit h_m_askedStanding h_m_askedHook h_m_askedApron h_m_x h_m_height h_m_worth h_m_foot h_m_fork h_m_text h_m_rule hc0 hpost hK6 x1 x2 1 m_at m_wrong (by omega) (by omega) (by omega) (by omega) (by omega) (by omega) (by omega) (by omega) (by omega)
set_option maxHeartbeats 8000000 in
set_option maxRecDepth 200000 in
theorem ts_X10_sum_6 {post : Int32 → Int32 → Int32 → Prop} {WT WH : TY_X10} {rn : Int} (hT : TT_X10_thing WT rn) (hH : TT_X10_held WH rn) {m_at0 : Int32} {next : Int32 → Int32 → Int32 → Int32 → Prop} {n6 : Int} (m_read : Nat) (m_length : Int32) (m_top : Int32) (m_isAsked : Int32) (m_askedFruit : Int32) (m_askedStanding : Int32) (m_askedHook : Int32) (m_askedApron : Int32) (m_x : Nat → Int32) (m_height : Nat → Int32) (m_worth : Nat → Int32) (m_foot : Nat → Int32) (m_fork : Nat → Int32) (m_text : Nat → Int32) (m_rule : Nat → Int32) (h_m_read : m_read = 1 ∨ m_read = 2) (h_m_length : 1 ≤ Int32.toInt m_length ∧ Int32.toInt m_length ≤ 80) (h_m_top : 40 ≤ Int32.toInt m_top ∧ Int32.toInt m_top ≤ 40) (h_m_isAsked : 0 ≤ Int32.toInt m_isAsked ∧ Int32.toInt m_isAsked ≤ 1) (h_m_askedFruit : 0 ≤ Int32.toInt m_askedFruit ∧ Int32.toInt m_askedFruit ≤ 15) (h_m_askedStanding : 0 ≤ Int32.toInt m_askedStanding ∧ Int32.toInt m_askedStanding ≤ 7) (h_m_askedHook : 0 ≤ Int32.toInt m_askedHook ∧ Int32.toInt m_askedHook ≤ 1) (h_m_askedApron : 0 ≤ Int32.toInt m_askedApron ∧ Int32.toInt m_askedApron ≤ 63) (h_m_x : ∀ k : Nat, 0 ≤ Int32.toInt (m_x k) ∧ Int32.toInt (m_x k) ≤ 99) (h_m_height : ∀ k : Nat, 0 ≤ Int32.toInt (m_height k) ∧ Int32.toInt (m_height k) ≤ 99) (h_m_worth : ∀ k : Nat, 0 ≤ Int32.toInt (m_worth k) ∧ Int32.toInt (m_worth k) ≤ 9) (h_m_foot : ∀ k : Nat, 0 ≤ Int32.toInt (m_foot k) ∧ Int32.toInt (m_foot k) ≤ 99) (h_m_fork : ∀ k : Nat, 0 ≤ Int32.toInt (m_fork k) ∧ Int32.toInt (m_fork k) ≤ 99) (h_m_text : ∀ k : Nat, -128 ≤ Int32.toInt (m_text k) ∧ Int32.toInt (m_text k) ≤ 127) (h_m_rule : ∀ k : Nat, -128 ≤ Int32.toInt (m_rule k) ∧ Int32.toInt (m_rule k) ≤ 127) (hc0 : m_read = 2 → Int32.toInt m_top ≤ 40) (hpost : ∀ (r : Int32) (m_at' : Int32) (m_wrong' : Int32), (0 ≤ Int32.toInt m_at' ∧ Int32.toInt m_at' ≤ 80) → (-1 ≤ Int32.toInt m_wrong' ∧ Int32.toInt m_wrong' ≤ 80) → (Int32.toInt m_at0 ≤ Int32.toInt m_at') → (Int32.toInt m_at' ≤ Int32.toInt m_top) → post r m_at' m_wrong') (hKn : ∀ (x1 : Int32) (x2 : Int32) (m_at : Int32) (m_wrong : Int32), (0 ≤ Int32.toInt x1 ∧ Int32.toInt x1 ≤ 4) → (0 ≤ Int32.toInt m_at ∧ Int32.toInt m_at ≤ 80) → (-1 ≤ Int32.toInt m_wrong ∧ Int32.toInt m_wrong ≤ 80) → (Int32.toInt m_at ≤ Int32.toInt m_top) → (Int32.toInt m_top - Int32.toInt m_at < rn + 1) → (Int32.toInt m_at0 ≤ Int32.toInt m_at) → (Int32.toInt m_top - Int32.toInt m_at < n6) → next x1 x2 m_at m_wrong) (x1 : Int32) (x2 : Int32) (m_at : Int32) (m_wrong : Int32) (h_x1 : 0 ≤ Int32.toInt x1 ∧ Int32.toInt x1 ≤ 4) (h_m_at : 0 ≤ Int32.toInt m_at ∧ Int32.toInt m_at ≤ 80) (h_m_wrong : -1 ≤ Int32.toInt m_wrong ∧ Int32.toInt m_wrong ≤ 80) (hx0 : Int32.toInt m_at ≤ Int32.toInt m_top) (hx1 : Int32.toInt m_top - Int32.toInt m_at < rn + 1) (hx2 : Int32.toInt m_at0 ≤ Int32.toInt m_at) (hn6 : Int32.toInt m_top - Int32.toInt m_at ≤ n6) : ws_X10_sum_6 WT WH post next m_read m_length m_top m_isAsked m_askedFruit m_askedStanding m_askedHook m_askedApron m_x m_height m_worth m_foot m_fork m_text m_rule x1 x2 m_at m_wrong := by
  have l0 : Int32.toInt ((-1) : Int32) = -1 := (by decide)
  have l1 : Int32.toInt (43 : Int32) = 43 := (by decide)
  have l2 : Int32.toInt (45 : Int32) = 45 := (by decide)
  refine And.intro (fun c22 => ?_) (fun c22 => ?_)
  · skip
    have c22 := mt (fa_eq _ _).mpr c22
    refine And.intro (fun _ => ?_) (fun h9 => absurd h9 (by decide))
    exact hpost _ _ _ (by omega) (by omega) (by omega) (by omega)
  · skip
    have c22 := (fa_eq _ _).mp c22
    refine And.intro (fun h9 => absurd h9 (by decide)) (fun _ => ?_)
    refine t_X10_here (by first | exact h_m_read | exact Or.inl rfl | exact Or.inr rfl | omega) (by omega) (by omega) (by omega) (fun k => by have q9 := h_m_text k; omega) (fun k => by have q9 := h_m_rule k; omega) (by omega) (fun r23 h_r23 ox24 ox25 => ?_)
    refine And.intro (fun c26 => ?_) (fun c26 => ?_)
    · skip
      have c26 := (fa_eq _ _).mp c26
      have f27 := tp_r x2
      exact ts_X10_sum_31 hT hH m_read m_length m_top m_isAsked m_askedFruit m_askedStanding m_askedHook m_askedApron m_x m_height m_worth m_foot m_fork m_text m_rule h_m_read h_m_length h_m_top h_m_isAsked h_m_askedFruit h_m_askedStanding h_m_askedHook h_m_askedApron h_m_x h_m_height h_m_worth h_m_foot h_m_fork h_m_text h_m_rule hc0 hpost hKn x1 x2 m_at m_wrong (by omega) (by omega) (by omega) (by omega) (by omega) (by omega) (by omega) (by omega)
    · skip
      have c26 := mt (fa_eq _ _).mpr c26
      refine t_X10_here (by first | exact h_m_read | exact Or.inl rfl | exact Or.inr rfl | omega) (by omega) (by omega) (by omega) (fun k => by have q9 := h_m_text k; omega) (fun k => by have q9 := h_m_rule k; omega) (by omega) (fun r28 h_r28 ox29 ox30 => ?_)
      refine And.intro (fun c31 => ?_) (fun c31 => ?_)
      · skip
        have c31 := mt (fa_eq _ _).mpr c31
        exact hpost _ _ _ (by omega) (by omega) (by omega) (by omega)
      · skip
        have c31 := (fa_eq _ _).mp c31
        have f32 := tp_r x2
        exact ts_X10_sum_31 hT hH m_read m_length m_top m_isAsked m_askedFruit m_askedStanding m_askedHook m_askedApron m_x m_height m_worth m_foot m_fork m_text m_rule h_m_read h_m_length h_m_top h_m_isAsked h_m_askedFruit h_m_askedStanding h_m_askedHook h_m_askedApron h_m_x h_m_height h_m_worth h_m_foot h_m_fork h_m_text h_m_rule hc0 hpost hKn x1 x2 m_at m_wrong (by omega) (by omega) (by omega) (by omega) (by omega) (by omega) (by omega) (by omega)
set_option maxHeartbeats 8000000 in
set_option maxRecDepth 200000 in
theorem tb_X10_sum_6 {post : Int32 → Int32 → Int32 → Prop} {WT WH : TY_X10} {rn : Int} (hT : TT_X10_thing WT rn) (hH : TT_X10_held WH rn) {m_at0 : Int32} (m_read : Nat) (m_length : Int32) (m_top : Int32) (m_isAsked : Int32) (m_askedFruit : Int32) (m_askedStanding : Int32) (m_askedHook : Int32) (m_askedApron : Int32) (m_x : Nat → Int32) (m_height : Nat → Int32) (m_worth : Nat → Int32) (m_foot : Nat → Int32) (m_fork : Nat → Int32) (m_text : Nat → Int32) (m_rule : Nat → Int32) (h_m_read : m_read = 1 ∨ m_read = 2) (h_m_length : 1 ≤ Int32.toInt m_length ∧ Int32.toInt m_length ≤ 80) (h_m_top : 40 ≤ Int32.toInt m_top ∧ Int32.toInt m_top ≤ 40) (h_m_isAsked : 0 ≤ Int32.toInt m_isAsked ∧ Int32.toInt m_isAsked ≤ 1) (h_m_askedFruit : 0 ≤ Int32.toInt m_askedFruit ∧ Int32.toInt m_askedFruit ≤ 15) (h_m_askedStanding : 0 ≤ Int32.toInt m_askedStanding ∧ Int32.toInt m_askedStanding ≤ 7) (h_m_askedHook : 0 ≤ Int32.toInt m_askedHook ∧ Int32.toInt m_askedHook ≤ 1) (h_m_askedApron : 0 ≤ Int32.toInt m_askedApron ∧ Int32.toInt m_askedApron ≤ 63) (h_m_x : ∀ k : Nat, 0 ≤ Int32.toInt (m_x k) ∧ Int32.toInt (m_x k) ≤ 99) (h_m_height : ∀ k : Nat, 0 ≤ Int32.toInt (m_height k) ∧ Int32.toInt (m_height k) ≤ 99) (h_m_worth : ∀ k : Nat, 0 ≤ Int32.toInt (m_worth k) ∧ Int32.toInt (m_worth k) ≤ 9) (h_m_foot : ∀ k : Nat, 0 ≤ Int32.toInt (m_foot k) ∧ Int32.toInt (m_foot k) ≤ 99) (h_m_fork : ∀ k : Nat, 0 ≤ Int32.toInt (m_fork k) ∧ Int32.toInt (m_fork k) ≤ 99) (h_m_text : ∀ k : Nat, -128 ≤ Int32.toInt (m_text k) ∧ Int32.toInt (m_text k) ≤ 127) (h_m_rule : ∀ k : Nat, -128 ≤ Int32.toInt (m_rule k) ∧ Int32.toInt (m_rule k) ≤ 127) (hc0 : m_read = 2 → Int32.toInt m_top ≤ 40) (hpost : ∀ (r : Int32) (m_at' : Int32) (m_wrong' : Int32), (0 ≤ Int32.toInt m_at' ∧ Int32.toInt m_at' ≤ 80) → (-1 ≤ Int32.toInt m_wrong' ∧ Int32.toInt m_wrong' ≤ 80) → (Int32.toInt m_at0 ≤ Int32.toInt m_at') → (Int32.toInt m_at' ≤ Int32.toInt m_top) → post r m_at' m_wrong') : ∀ (n : Nat) (x1 : Int32) (x2 : Int32) (m_at : Int32) (m_wrong : Int32), (0 ≤ Int32.toInt x1 ∧ Int32.toInt x1 ≤ 4) → (0 ≤ Int32.toInt m_at ∧ Int32.toInt m_at ≤ 80) → (-1 ≤ Int32.toInt m_wrong ∧ Int32.toInt m_wrong ≤ 80) → (Int32.toInt m_at ≤ Int32.toInt m_top) → (Int32.toInt m_top - Int32.toInt m_at < rn + 1) → (Int32.toInt m_at0 ≤ Int32.toInt m_at) → (Int32.toInt m_top - Int32.toInt m_at < (n : Int)) → wb_X10_sum_6 WT WH post m_read m_length m_top m_isAsked m_askedFruit m_askedStanding m_askedHook m_askedApron m_x m_height m_worth m_foot m_fork m_text m_rule n x1 x2 m_at m_wrong := by
  intro n
  induction n with
  | zero =>
    intro x1 x2 m_at m_wrong h_x1 h_m_at h_m_wrong hx0 hx1 hx2 hm
    exfalso; omega
  | succ n ih =>
    intro x1 x2 m_at m_wrong h_x1 h_m_at h_m_wrong hx0 hx1 hx2 hm
    exact ts_X10_sum_6 hT hH m_read m_length m_top m_isAsked m_askedFruit m_askedStanding m_askedHook m_askedApron m_x m_height m_worth m_foot m_fork m_text m_rule h_m_read h_m_length h_m_top h_m_isAsked h_m_askedFruit h_m_askedStanding h_m_askedHook h_m_askedApron h_m_x h_m_height h_m_worth h_m_foot h_m_fork h_m_text h_m_rule hc0 hpost ih x1 x2 m_at m_wrong h_x1 h_m_at h_m_wrong hx0 hx1 hx2 (by omega)
set_option maxHeartbeats 8000000 in
set_option maxRecDepth 200000 in
theorem t_X10_sum {post : Int32 → Int32 → Int32 → Prop} {WT WH : TY_X10} {rn : Int} (hT : TT_X10_thing WT rn) (hH : TT_X10_held WH rn) {p0 : Int32} {m_read : Nat} {m_length : Int32} {m_top : Int32} {m_at : Int32} {m_wrong : Int32} {m_isAsked : Int32} {m_askedFruit : Int32} {m_askedStanding : Int32} {m_askedHook : Int32} {m_askedApron : Int32} {m_x : Nat → Int32} {m_height : Nat → Int32} {m_worth : Nat → Int32} {m_foot : Nat → Int32} {m_fork : Nat → Int32} {m_text : Nat → Int32} {m_rule : Nat → Int32} (h_p0 : 0 ≤ Int32.toInt p0 ∧ Int32.toInt p0 ≤ 4) (h_m_read : m_read = 1 ∨ m_read = 2) (h_m_length : 1 ≤ Int32.toInt m_length ∧ Int32.toInt m_length ≤ 80) (h_m_top : 40 ≤ Int32.toInt m_top ∧ Int32.toInt m_top ≤ 40) (h_m_at : 0 ≤ Int32.toInt m_at ∧ Int32.toInt m_at ≤ 80) (h_m_wrong : -1 ≤ Int32.toInt m_wrong ∧ Int32.toInt m_wrong ≤ -1) (h_m_isAsked : 0 ≤ Int32.toInt m_isAsked ∧ Int32.toInt m_isAsked ≤ 1) (h_m_askedFruit : 0 ≤ Int32.toInt m_askedFruit ∧ Int32.toInt m_askedFruit ≤ 15) (h_m_askedStanding : 0 ≤ Int32.toInt m_askedStanding ∧ Int32.toInt m_askedStanding ≤ 7) (h_m_askedHook : 0 ≤ Int32.toInt m_askedHook ∧ Int32.toInt m_askedHook ≤ 1) (h_m_askedApron : 0 ≤ Int32.toInt m_askedApron ∧ Int32.toInt m_askedApron ≤ 63) (h_m_x : ∀ k : Nat, 0 ≤ Int32.toInt (m_x k) ∧ Int32.toInt (m_x k) ≤ 99) (h_m_height : ∀ k : Nat, 0 ≤ Int32.toInt (m_height k) ∧ Int32.toInt (m_height k) ≤ 99) (h_m_worth : ∀ k : Nat, 0 ≤ Int32.toInt (m_worth k) ∧ Int32.toInt (m_worth k) ≤ 9) (h_m_foot : ∀ k : Nat, 0 ≤ Int32.toInt (m_foot k) ∧ Int32.toInt (m_foot k) ≤ 99) (h_m_fork : ∀ k : Nat, 0 ≤ Int32.toInt (m_fork k) ∧ Int32.toInt (m_fork k) ≤ 99) (h_m_text : ∀ k : Nat, -128 ≤ Int32.toInt (m_text k) ∧ Int32.toInt (m_text k) ≤ 127) (h_m_rule : ∀ k : Nat, -128 ≤ Int32.toInt (m_rule k) ∧ Int32.toInt (m_rule k) ≤ 127) (hc0 : m_read = 2 → Int32.toInt m_top ≤ 40) (hx0 : Int32.toInt m_at ≤ Int32.toInt m_top) (hx1 : Int32.toInt m_top - Int32.toInt m_at < rn + 1) (hpost : ∀ (r : Int32) (m_at' : Int32) (m_wrong' : Int32), (0 ≤ Int32.toInt m_at' ∧ Int32.toInt m_at' ≤ 80) → (-1 ≤ Int32.toInt m_wrong' ∧ Int32.toInt m_wrong' ≤ 80) → (Int32.toInt m_at ≤ Int32.toInt m_at') → (Int32.toInt m_at' ≤ Int32.toInt m_top) → post r m_at' m_wrong') : wp_X10_sum WT WH post p0 m_read m_length m_top m_at m_wrong m_isAsked m_askedFruit m_askedStanding m_askedHook m_askedApron m_x m_height m_worth m_foot m_fork m_text m_rule := by
  refine t_X10_product hT hH (by omega) (by first | exact h_m_read | exact Or.inl rfl | exact Or.inr rfl | omega) (by omega) (by omega) (by omega) (by omega) (by omega) (by omega) (by omega) (by omega) (by omega) (fun k => by have q9 := h_m_x k; omega) (fun k => by have q9 := h_m_height k; omega) (fun k => by have q9 := h_m_worth k; omega) (fun k => by have q9 := h_m_foot k; omega) (fun k => by have q9 := h_m_fork k; omega) (fun k => by have q9 := h_m_text k; omega) (fun k => by have q9 := h_m_rule k; omega) (by omega) (by omega) (by omega) (fun r35 m_at_33 m_wrong_34 h_m_at_33 h_m_wrong_34 ox36 ox37 => ?_)
  have f38 := tp_r r35
  exact ⟨82, tb_X10_sum_6 hT hH m_read m_length m_top m_isAsked m_askedFruit m_askedStanding m_askedHook m_askedApron m_x m_height m_worth m_foot m_fork m_text m_rule h_m_read h_m_length h_m_top h_m_isAsked h_m_askedFruit h_m_askedStanding h_m_askedHook h_m_askedApron h_m_x h_m_height h_m_worth h_m_foot h_m_fork h_m_text h_m_rule hc0 hpost _ p0 r35 m_at_33 m_wrong_34 (by omega) (by omega) (by omega) (by omega) (by omega) (by omega) (by omega)⟩
set_option maxHeartbeats 8000000 in
set_option maxRecDepth 200000 in
theorem t_X10_held {post : Int32 → Int32 → Int32 → Prop} {WT WH : TY_X10} {rn : Int} (hT : TT_X10_thing WT rn) (hH : TT_X10_held WH rn) {p0 : Int32} {m_read : Nat} {m_length : Int32} {m_top : Int32} {m_at : Int32} {m_wrong : Int32} {m_isAsked : Int32} {m_askedFruit : Int32} {m_askedStanding : Int32} {m_askedHook : Int32} {m_askedApron : Int32} {m_x : Nat → Int32} {m_height : Nat → Int32} {m_worth : Nat → Int32} {m_foot : Nat → Int32} {m_fork : Nat → Int32} {m_text : Nat → Int32} {m_rule : Nat → Int32} (h_p0 : 0 ≤ Int32.toInt p0 ∧ Int32.toInt p0 ≤ 4) (h_m_read : m_read = 1 ∨ m_read = 2) (h_m_length : 1 ≤ Int32.toInt m_length ∧ Int32.toInt m_length ≤ 80) (h_m_top : 40 ≤ Int32.toInt m_top ∧ Int32.toInt m_top ≤ 40) (h_m_at : 0 ≤ Int32.toInt m_at ∧ Int32.toInt m_at ≤ 80) (h_m_wrong : -1 ≤ Int32.toInt m_wrong ∧ Int32.toInt m_wrong ≤ -1) (h_m_isAsked : 0 ≤ Int32.toInt m_isAsked ∧ Int32.toInt m_isAsked ≤ 1) (h_m_askedFruit : 0 ≤ Int32.toInt m_askedFruit ∧ Int32.toInt m_askedFruit ≤ 15) (h_m_askedStanding : 0 ≤ Int32.toInt m_askedStanding ∧ Int32.toInt m_askedStanding ≤ 7) (h_m_askedHook : 0 ≤ Int32.toInt m_askedHook ∧ Int32.toInt m_askedHook ≤ 1) (h_m_askedApron : 0 ≤ Int32.toInt m_askedApron ∧ Int32.toInt m_askedApron ≤ 63) (h_m_x : ∀ k : Nat, 0 ≤ Int32.toInt (m_x k) ∧ Int32.toInt (m_x k) ≤ 99) (h_m_height : ∀ k : Nat, 0 ≤ Int32.toInt (m_height k) ∧ Int32.toInt (m_height k) ≤ 99) (h_m_worth : ∀ k : Nat, 0 ≤ Int32.toInt (m_worth k) ∧ Int32.toInt (m_worth k) ≤ 9) (h_m_foot : ∀ k : Nat, 0 ≤ Int32.toInt (m_foot k) ∧ Int32.toInt (m_foot k) ≤ 99) (h_m_fork : ∀ k : Nat, 0 ≤ Int32.toInt (m_fork k) ∧ Int32.toInt (m_fork k) ≤ 99) (h_m_text : ∀ k : Nat, -128 ≤ Int32.toInt (m_text k) ∧ Int32.toInt (m_text k) ≤ 127) (h_m_rule : ∀ k : Nat, -128 ≤ Int32.toInt (m_rule k) ∧ Int32.toInt (m_rule k) ≤ 127) (hc0 : m_read = 2 → Int32.toInt m_top ≤ 40) (hx0 : Int32.toInt m_at ≤ Int32.toInt m_top) (hx1 : Int32.toInt m_top - Int32.toInt m_at < rn + 1) (hpost : ∀ (r : Int32) (m_at' : Int32) (m_wrong' : Int32), (0 ≤ Int32.toInt m_at' ∧ Int32.toInt m_at' ≤ 80) → (-1 ≤ Int32.toInt m_wrong' ∧ Int32.toInt m_wrong' ≤ 80) → (Int32.toInt m_at ≤ Int32.toInt m_at') → (Int32.toInt m_at' ≤ Int32.toInt m_top) → post r m_at' m_wrong') : wp_X10_held WT WH post p0 m_read m_length m_top m_at m_wrong m_isAsked m_askedFruit m_askedStanding m_askedHook m_askedApron m_x m_height m_worth m_foot m_fork m_text m_rule := by
  have l0 : Int32.toInt ((-1) : Int32) = -1 := (by decide)
  have l1 : Int32.toInt (1 : Int32) = 1 := (by decide)
  have l2 : Int32.toInt (60 : Int32) = 60 := (by decide)
  have l3 : Int32.toInt (61 : Int32) = 61 := (by decide)
  have l4 : Int32.toInt (62 : Int32) = 62 := (by decide)
  refine t_X10_sum hT hH (by omega) (by first | exact h_m_read | exact Or.inl rfl | exact Or.inr rfl | omega) (by omega) (by omega) (by omega) (by omega) (by omega) (by omega) (by omega) (by omega) (by omega) (fun k => by have q9 := h_m_x k; omega) (fun k => by have q9 := h_m_height k; omega) (fun k => by have q9 := h_m_worth k; omega) (fun k => by have q9 := h_m_foot k; omega) (fun k => by have q9 := h_m_fork k; omega) (fun k => by have q9 := h_m_text k; omega) (fun k => by have q9 := h_m_rule k; omega) (by omega) (by omega) (by omega) (fun r3 m_at_1 m_wrong_2 h_m_at_1 h_m_wrong_2 ox4 ox5 => ?_)
  refine And.intro (fun c6 => ?_) (fun c6 => ?_)
  · skip
    have c6 := mt (fa_eq _ _).mpr c6
    refine And.intro (fun _ => ?_) (fun h9 => absurd h9 (by decide))
    refine And.intro (fun _ => ?_) (fun h9 => absurd h9 (by decide))
    refine And.intro (fun c7 => ?_) (fun c7 => ?_)
    · skip
      have c7 := mt (fa_eq _ _).mpr c7
      refine And.intro (fun _ => ?_) (fun h9 => absurd h9 (by decide))
      refine And.intro (fun _ => ?_) (fun h9 => absurd h9 (by decide))
      refine And.intro (fun c8 => ?_) (fun c8 => ?_)
      · skip
        have c8 := mt (fa_eq _ _).mpr c8
        refine And.intro (fun _ => ?_) (fun h9 => absurd h9 (by decide))
        refine And.intro (fun _ => ?_) (fun h9 => absurd h9 (by decide))
        exact hpost _ _ _ (by omega) (by omega) (by omega) (by omega)
      · skip
        have c8 := (fa_eq _ _).mp c8
        exfalso; omega
    · skip
      have c7 := (fa_eq _ _).mp c7
      exfalso; omega
  · skip
    have c6 := (fa_eq _ _).mp c6
    refine And.intro (fun h9 => absurd h9 (by decide)) (fun _ => ?_)
    refine t_X10_here (by first | exact h_m_read | exact Or.inl rfl | exact Or.inr rfl | omega) (by omega) (by omega) (by omega) (fun k => by have q9 := h_m_text k; omega) (fun k => by have q9 := h_m_rule k; omega) (by omega) (fun r9 h_r9 ox10 ox11 => ?_)
    refine And.intro (fun c12 => ?_) (fun c12 => ?_)
    · skip
      have c12 := (fa_eq _ _).mp c12
      intro v13 ev13
      have f14 : Int32.toInt (m_at_1 + 1) = Int32.toInt m_at_1 + Int32.toInt (1 : Int32) := ta_add _ _ (by omega)
      rw [← ev13] at f14
      refine And.intro (fun h9 => absurd h9 (by decide)) (fun _ => ?_)
      refine t_X10_sum hT hH (by omega) (by first | exact h_m_read | exact Or.inl rfl | exact Or.inr rfl | omega) (by omega) (by omega) (by omega) (by omega) (by omega) (by omega) (by omega) (by omega) (by omega) (fun k => by have q9 := h_m_x k; omega) (fun k => by have q9 := h_m_height k; omega) (fun k => by have q9 := h_m_worth k; omega) (fun k => by have q9 := h_m_foot k; omega) (fun k => by have q9 := h_m_fork k; omega) (fun k => by have q9 := h_m_text k; omega) (fun k => by have q9 := h_m_rule k; omega) (by omega) (by omega) (by omega) (fun r17 m_at_15 m_wrong_16 h_m_at_15 h_m_wrong_16 ox18 ox19 => ?_)
      have f21 := tp_r r3
      have f22 := tp_r r17
      refine And.intro (fun c20 => ?_) (fun c20 => ?_)
      · skip
        have c20 := (fa_le _ _).mp c20
        exact hpost _ _ _ (by omega) (by omega) (by omega) (by omega)
      · skip
        have c20 := mt (fa_le _ _).mpr c20
        exact hpost _ _ _ (by omega) (by omega) (by omega) (by omega)
    · skip
      have c12 := mt (fa_eq _ _).mpr c12
      refine And.intro (fun _ => ?_) (fun h9 => absurd h9 (by decide))
      refine And.intro (fun c23 => ?_) (fun c23 => ?_)
      · skip
        have c23 := mt (fa_eq _ _).mpr c23
        exfalso; omega
      · skip
        have c23 := (fa_eq _ _).mp c23
        refine And.intro (fun h9 => absurd h9 (by decide)) (fun _ => ?_)
        refine t_X10_here (by first | exact h_m_read | exact Or.inl rfl | exact Or.inr rfl | omega) (by omega) (by omega) (by omega) (fun k => by have q9 := h_m_text k; omega) (fun k => by have q9 := h_m_rule k; omega) (by omega) (fun r24 h_r24 ox25 ox26 => ?_)
        refine And.intro (fun c27 => ?_) (fun c27 => ?_)
        · skip
          have c27 := (fa_eq _ _).mp c27
          intro v28 ev28
          have f29 : Int32.toInt (m_at_1 + 1) = Int32.toInt m_at_1 + Int32.toInt (1 : Int32) := ta_add _ _ (by omega)
          rw [← ev28] at f29
          refine And.intro (fun h9 => absurd h9 (by decide)) (fun _ => ?_)
          refine t_X10_sum hT hH (by omega) (by first | exact h_m_read | exact Or.inl rfl | exact Or.inr rfl | omega) (by omega) (by omega) (by omega) (by omega) (by omega) (by omega) (by omega) (by omega) (by omega) (fun k => by have q9 := h_m_x k; omega) (fun k => by have q9 := h_m_height k; omega) (fun k => by have q9 := h_m_worth k; omega) (fun k => by have q9 := h_m_foot k; omega) (fun k => by have q9 := h_m_fork k; omega) (fun k => by have q9 := h_m_text k; omega) (fun k => by have q9 := h_m_rule k; omega) (by omega) (by omega) (by omega) (fun r32 m_at_30 m_wrong_31 h_m_at_30 h_m_wrong_31 ox33 ox34 => ?_)
          have f36 := tp_r r3
          have f37 := tp_r r32
          refine And.intro (fun c35 => ?_) (fun c35 => ?_)
          · skip
            have c35 := (fa_le _ _).mp c35
            exact hpost _ _ _ (by omega) (by omega) (by omega) (by omega)
          · skip
            have c35 := mt (fa_le _ _).mpr c35
            exact hpost _ _ _ (by omega) (by omega) (by omega) (by omega)
        · skip
          have c27 := mt (fa_eq _ _).mpr c27
          refine And.intro (fun _ => ?_) (fun h9 => absurd h9 (by decide))
          refine And.intro (fun c38 => ?_) (fun c38 => ?_)
          · skip
            have c38 := mt (fa_eq _ _).mpr c38
            exfalso; omega
          · skip
            have c38 := (fa_eq _ _).mp c38
            refine And.intro (fun h9 => absurd h9 (by decide)) (fun _ => ?_)
            refine t_X10_here (by first | exact h_m_read | exact Or.inl rfl | exact Or.inr rfl | omega) (by omega) (by omega) (by omega) (fun k => by have q9 := h_m_text k; omega) (fun k => by have q9 := h_m_rule k; omega) (by omega) (fun r39 h_r39 ox40 ox41 => ?_)
            refine And.intro (fun c42 => ?_) (fun c42 => ?_)
            · skip
              have c42 := (fa_eq _ _).mp c42
              intro v43 ev43
              have f44 : Int32.toInt (m_at_1 + 1) = Int32.toInt m_at_1 + Int32.toInt (1 : Int32) := ta_add _ _ (by omega)
              rw [← ev43] at f44
              refine And.intro (fun h9 => absurd h9 (by decide)) (fun _ => ?_)
              refine t_X10_sum hT hH (by omega) (by first | exact h_m_read | exact Or.inl rfl | exact Or.inr rfl | omega) (by omega) (by omega) (by omega) (by omega) (by omega) (by omega) (by omega) (by omega) (by omega) (fun k => by have q9 := h_m_x k; omega) (fun k => by have q9 := h_m_height k; omega) (fun k => by have q9 := h_m_worth k; omega) (fun k => by have q9 := h_m_foot k; omega) (fun k => by have q9 := h_m_fork k; omega) (fun k => by have q9 := h_m_text k; omega) (fun k => by have q9 := h_m_rule k; omega) (by omega) (by omega) (by omega) (fun r47 m_at_45 m_wrong_46 h_m_at_45 h_m_wrong_46 ox48 ox49 => ?_)
              have f51 := tp_r r3
              have f52 := tp_r r47
              refine And.intro (fun c50 => ?_) (fun c50 => ?_)
              · skip
                have c50 := mt (fa_eq _ _).mpr c50
                exact hpost _ _ _ (by omega) (by omega) (by omega) (by omega)
              · skip
                have c50 := (fa_eq _ _).mp c50
                exact hpost _ _ _ (by omega) (by omega) (by omega) (by omega)
            · skip
              have c42 := mt (fa_eq _ _).mpr c42
              refine And.intro (fun _ => ?_) (fun h9 => absurd h9 (by decide))
              exact hpost _ _ _ (by omega) (by omega) (by omega) (by omega)
set_option maxHeartbeats 4000000 in
theorem rr_X10_t : ∀ n : Nat, TT_X10_thing (rr_X10 n).1 (n : Int) ∧ TT_X10_held (rr_X10 n).2 (n : Int) := by
  intro n
  induction n with
  | zero =>
    refine ⟨?_, ?_⟩
    · intro post p0 m_read m_length m_top m_at m_wrong m_isAsked m_askedFruit m_askedStanding m_askedHook m_askedApron m_x m_height m_worth m_foot m_fork m_text m_rule h_p0 h_m_read h_m_length h_m_top h_m_at h_m_wrong h_m_isAsked h_m_askedFruit h_m_askedStanding h_m_askedHook h_m_askedApron h_m_x h_m_height h_m_worth h_m_foot h_m_fork h_m_text h_m_rule hc0 hx0 hx1 hpost
      exfalso; omega
    · intro post p0 m_read m_length m_top m_at m_wrong m_isAsked m_askedFruit m_askedStanding m_askedHook m_askedApron m_x m_height m_worth m_foot m_fork m_text m_rule h_p0 h_m_read h_m_length h_m_top h_m_at h_m_wrong h_m_isAsked h_m_askedFruit h_m_askedStanding h_m_askedHook h_m_askedApron h_m_x h_m_height h_m_worth h_m_foot h_m_fork h_m_text h_m_rule hc0 hx0 hx1 hpost
      exfalso; omega
  | succ n ih =>
    refine ⟨?_, ?_⟩
    · intro post p0 m_read m_length m_top m_at m_wrong m_isAsked m_askedFruit m_askedStanding m_askedHook m_askedApron m_x m_height m_worth m_foot m_fork m_text m_rule h_p0 h_m_read h_m_length h_m_top h_m_at h_m_wrong h_m_isAsked h_m_askedFruit h_m_askedStanding h_m_askedHook h_m_askedApron h_m_x h_m_height h_m_worth h_m_foot h_m_fork h_m_text h_m_rule hc0 hx0 hx1 hpost
      exact t_X10_thing ih.1 ih.2 h_p0 h_m_read h_m_length h_m_top h_m_at h_m_wrong h_m_isAsked h_m_askedFruit h_m_askedStanding h_m_askedHook h_m_askedApron h_m_x h_m_height h_m_worth h_m_foot h_m_fork h_m_text h_m_rule hc0 (by omega) (by omega) hpost
    · intro post p0 m_read m_length m_top m_at m_wrong m_isAsked m_askedFruit m_askedStanding m_askedHook m_askedApron m_x m_height m_worth m_foot m_fork m_text m_rule h_p0 h_m_read h_m_length h_m_top h_m_at h_m_wrong h_m_isAsked h_m_askedFruit h_m_askedStanding h_m_askedHook h_m_askedApron h_m_x h_m_height h_m_worth h_m_foot h_m_fork h_m_text h_m_rule hc0 hx0 hx1 hpost
      exact t_X10_held ih.1 ih.2 h_p0 h_m_read h_m_length h_m_top h_m_at h_m_wrong h_m_isAsked h_m_askedFruit h_m_askedStanding h_m_askedHook h_m_askedApron h_m_x h_m_height h_m_worth h_m_foot h_m_fork h_m_text h_m_rule hc0 (by omega) (by omega) hpost
theorem t_X10_heldR {post : Int32 → Int32 → Int32 → Prop} {p0 : Int32} {m_read : Nat} {m_length : Int32} {m_top : Int32} {m_at : Int32} {m_wrong : Int32} {m_isAsked : Int32} {m_askedFruit : Int32} {m_askedStanding : Int32} {m_askedHook : Int32} {m_askedApron : Int32} {m_x : Nat → Int32} {m_height : Nat → Int32} {m_worth : Nat → Int32} {m_foot : Nat → Int32} {m_fork : Nat → Int32} {m_text : Nat → Int32} {m_rule : Nat → Int32} (h_p0 : 0 ≤ Int32.toInt p0 ∧ Int32.toInt p0 ≤ 4) (h_m_read : m_read = 1 ∨ m_read = 2) (h_m_length : 1 ≤ Int32.toInt m_length ∧ Int32.toInt m_length ≤ 80) (h_m_top : 40 ≤ Int32.toInt m_top ∧ Int32.toInt m_top ≤ 40) (h_m_at : 0 ≤ Int32.toInt m_at ∧ Int32.toInt m_at ≤ 80) (h_m_wrong : -1 ≤ Int32.toInt m_wrong ∧ Int32.toInt m_wrong ≤ -1) (h_m_isAsked : 0 ≤ Int32.toInt m_isAsked ∧ Int32.toInt m_isAsked ≤ 1) (h_m_askedFruit : 0 ≤ Int32.toInt m_askedFruit ∧ Int32.toInt m_askedFruit ≤ 15) (h_m_askedStanding : 0 ≤ Int32.toInt m_askedStanding ∧ Int32.toInt m_askedStanding ≤ 7) (h_m_askedHook : 0 ≤ Int32.toInt m_askedHook ∧ Int32.toInt m_askedHook ≤ 1) (h_m_askedApron : 0 ≤ Int32.toInt m_askedApron ∧ Int32.toInt m_askedApron ≤ 63) (h_m_x : ∀ k : Nat, 0 ≤ Int32.toInt (m_x k) ∧ Int32.toInt (m_x k) ≤ 99) (h_m_height : ∀ k : Nat, 0 ≤ Int32.toInt (m_height k) ∧ Int32.toInt (m_height k) ≤ 99) (h_m_worth : ∀ k : Nat, 0 ≤ Int32.toInt (m_worth k) ∧ Int32.toInt (m_worth k) ≤ 9) (h_m_foot : ∀ k : Nat, 0 ≤ Int32.toInt (m_foot k) ∧ Int32.toInt (m_foot k) ≤ 99) (h_m_fork : ∀ k : Nat, 0 ≤ Int32.toInt (m_fork k) ∧ Int32.toInt (m_fork k) ≤ 99) (h_m_text : ∀ k : Nat, -128 ≤ Int32.toInt (m_text k) ∧ Int32.toInt (m_text k) ≤ 127) (h_m_rule : ∀ k : Nat, -128 ≤ Int32.toInt (m_rule k) ∧ Int32.toInt (m_rule k) ≤ 127) (hx0 : Int32.toInt m_at ≤ Int32.toInt m_top) (hx1 : m_read = 2 → Int32.toInt m_top ≤ 40) (hx2 : Int32.toInt m_top ≤ 42) (hpost : ∀ (r : Int32) (m_at' : Int32) (m_wrong' : Int32), (0 ≤ Int32.toInt m_at' ∧ Int32.toInt m_at' ≤ 80) → (-1 ≤ Int32.toInt m_wrong' ∧ Int32.toInt m_wrong' ≤ 80) → (Int32.toInt m_at ≤ Int32.toInt m_at') → (Int32.toInt m_at' ≤ Int32.toInt m_top) → post r m_at' m_wrong') : wp_X10_heldR post p0 m_read m_length m_top m_at m_wrong m_isAsked m_askedFruit m_askedStanding m_askedHook m_askedApron m_x m_height m_worth m_foot m_fork m_text m_rule := t_X10_held (rr_X10_t 43).1 (rr_X10_t 43).2 h_p0 h_m_read h_m_length h_m_top h_m_at h_m_wrong h_m_isAsked h_m_askedFruit h_m_askedStanding h_m_askedHook h_m_askedApron h_m_x h_m_height h_m_worth h_m_foot h_m_fork h_m_text h_m_rule (by omega) (by omega) (by omega) hpost
set_option maxHeartbeats 8000000 in
set_option maxRecDepth 200000 in
theorem ts_X10_rule_73 {post : Int32 → Int32 → Int32 → Nat → Int32 → Int32 → Int32 → Int32 → Int32 → Int32 → (Nat → Int32) → Prop} {next : Int32 → Int32 → Int32 → Int32 → Nat → Int32 → Int32 → Int32 → Int32 → Int32 → Int32 → (Nat → Int32) → Prop} {n73 : Int} (m_askedFruit : Int32) (m_askedStanding : Int32) (m_askedHook : Int32) (m_askedApron : Int32) (m_x : Nat → Int32) (m_height : Nat → Int32) (m_worth : Nat → Int32) (m_foot : Nat → Int32) (m_fork : Nat → Int32) (m_text : Nat → Int32) (h_m_askedFruit : 0 ≤ Int32.toInt m_askedFruit ∧ Int32.toInt m_askedFruit ≤ 15) (h_m_askedStanding : 0 ≤ Int32.toInt m_askedStanding ∧ Int32.toInt m_askedStanding ≤ 7) (h_m_askedHook : 0 ≤ Int32.toInt m_askedHook ∧ Int32.toInt m_askedHook ≤ 1) (h_m_askedApron : 0 ≤ Int32.toInt m_askedApron ∧ Int32.toInt m_askedApron ≤ 63) (h_m_x : ∀ k : Nat, 0 ≤ Int32.toInt (m_x k) ∧ Int32.toInt (m_x k) ≤ 99) (h_m_height : ∀ k : Nat, 0 ≤ Int32.toInt (m_height k) ∧ Int32.toInt (m_height k) ≤ 99) (h_m_worth : ∀ k : Nat, 0 ≤ Int32.toInt (m_worth k) ∧ Int32.toInt (m_worth k) ≤ 9) (h_m_foot : ∀ k : Nat, 0 ≤ Int32.toInt (m_foot k) ∧ Int32.toInt (m_foot k) ≤ 99) (h_m_fork : ∀ k : Nat, 0 ≤ Int32.toInt (m_fork k) ∧ Int32.toInt (m_fork k) ≤ 99) (h_m_text : ∀ k : Nat, -128 ≤ Int32.toInt (m_text k) ∧ Int32.toInt (m_text k) ≤ 127) (hpost : ∀ (r : Int32) (m_typed' : Int32) (m_thrown' : Int32) (m_read' : Nat) (m_length' : Int32) (m_top' : Int32) (m_at' : Int32) (m_wrong' : Int32) (m_ruleSize' : Int32) (m_isAsked' : Int32) (m_rule' : Nat → Int32), (-100 ≤ Int32.toInt r ∧ Int32.toInt r ≤ 0) → (0 ≤ Int32.toInt m_typed' ∧ Int32.toInt m_typed' ≤ 0) → (0 ≤ Int32.toInt m_thrown' ∧ Int32.toInt m_thrown' ≤ 0) → (m_read' = 1) → (0 ≤ Int32.toInt m_length' ∧ Int32.toInt m_length' ≤ 80) → (40 ≤ Int32.toInt m_top' ∧ Int32.toInt m_top' ≤ 40) → (0 ≤ Int32.toInt m_at' ∧ Int32.toInt m_at' ≤ 80) → (-1 ≤ Int32.toInt m_wrong' ∧ Int32.toInt m_wrong' ≤ 80) → (0 ≤ Int32.toInt m_ruleSize' ∧ Int32.toInt m_ruleSize' ≤ 40) → (0 ≤ Int32.toInt m_isAsked' ∧ Int32.toInt m_isAsked' ≤ 0) → (∀ k : Nat, -128 ≤ Int32.toInt (m_rule' k) ∧ Int32.toInt (m_rule' k) ≤ 127) → post r m_typed' m_thrown' m_read' m_length' m_top' m_at' m_wrong' m_ruleSize' m_isAsked' m_rule') (hKn : ∀ (x1 : Int32) (x2 : Int32) (m_typed : Int32) (m_thrown : Int32) (m_read : Nat) (m_length : Int32) (m_top : Int32) (m_at : Int32) (m_wrong : Int32) (m_ruleSize : Int32) (m_isAsked : Int32) (m_rule : Nat → Int32), (0 ≤ Int32.toInt x1 ∧ Int32.toInt x1 ≤ 40) → (0 ≤ Int32.toInt x2 ∧ Int32.toInt x2 ≤ 40) → (0 ≤ Int32.toInt m_typed ∧ Int32.toInt m_typed ≤ 0) → (0 ≤ Int32.toInt m_thrown ∧ Int32.toInt m_thrown ≤ 0) → (m_read = 1) → (0 ≤ Int32.toInt m_length ∧ Int32.toInt m_length ≤ 80) → (40 ≤ Int32.toInt m_top ∧ Int32.toInt m_top ≤ 40) → (0 ≤ Int32.toInt m_at ∧ Int32.toInt m_at ≤ 80) → (-1 ≤ Int32.toInt m_wrong ∧ Int32.toInt m_wrong ≤ -1) → (0 ≤ Int32.toInt m_ruleSize ∧ Int32.toInt m_ruleSize ≤ 40) → (0 ≤ Int32.toInt m_isAsked ∧ Int32.toInt m_isAsked ≤ 0) → (∀ k : Nat, -128 ≤ Int32.toInt (m_rule k) ∧ Int32.toInt (m_rule k) ≤ 127) → (40 - Int32.toInt x2 < n73) → next x1 x2 m_typed m_thrown m_read m_length m_top m_at m_wrong m_ruleSize m_isAsked m_rule) (x1 : Int32) (x2 : Int32) (m_typed : Int32) (m_thrown : Int32) (m_read : Nat) (m_length : Int32) (m_top : Int32) (m_at : Int32) (m_wrong : Int32) (m_ruleSize : Int32) (m_isAsked : Int32) (m_rule : Nat → Int32) (h_x1 : 0 ≤ Int32.toInt x1 ∧ Int32.toInt x1 ≤ 40) (h_x2 : 0 ≤ Int32.toInt x2 ∧ Int32.toInt x2 ≤ 40) (h_m_typed : 0 ≤ Int32.toInt m_typed ∧ Int32.toInt m_typed ≤ 0) (h_m_thrown : 0 ≤ Int32.toInt m_thrown ∧ Int32.toInt m_thrown ≤ 0) (h_m_read : m_read = 1) (h_m_length : 0 ≤ Int32.toInt m_length ∧ Int32.toInt m_length ≤ 80) (h_m_top : 40 ≤ Int32.toInt m_top ∧ Int32.toInt m_top ≤ 40) (h_m_at : 0 ≤ Int32.toInt m_at ∧ Int32.toInt m_at ≤ 80) (h_m_wrong : -1 ≤ Int32.toInt m_wrong ∧ Int32.toInt m_wrong ≤ -1) (h_m_ruleSize : 0 ≤ Int32.toInt m_ruleSize ∧ Int32.toInt m_ruleSize ≤ 40) (h_m_isAsked : 0 ≤ Int32.toInt m_isAsked ∧ Int32.toInt m_isAsked ≤ 0) (h_m_rule : ∀ k : Nat, -128 ≤ Int32.toInt (m_rule k) ∧ Int32.toInt (m_rule k) ≤ 127) (hn73 : 40 - Int32.toInt x2 ≤ n73) : ws_X10_rule_73 post next m_askedFruit m_askedStanding m_askedHook m_askedApron m_x m_height m_worth m_foot m_fork m_text x1 x2 m_typed m_thrown m_read m_length m_top m_at m_wrong m_ruleSize m_isAsked m_rule := by
  have l0 : Int32.toInt (0 : Int32) = 0 := (by decide)
  have l1 : Int32.toInt (1 : Int32) = 1 := (by decide)
  refine And.intro (fun c1 => ?_) (fun c1 => ?_)
  · skip
    have c1 := (fa_le _ _).mp c1
    exact hpost _ _ _ _ _ _ _ _ _ _ _ (by omega) (by omega) (by omega) (by first | exact h_m_read | exact Or.inl rfl | exact Or.inr rfl | omega) (by omega) (by omega) (by omega) (by omega) (by omega) (by omega) (fun k => by have q9 := h_m_rule k; omega)
  · skip
    have c1 := mt (fa_le _ _).mpr c1
    refine And.intro (t_in (by omega)) ?_
    intro v2 ev2
    have f3 := h_m_text x2.toNatClampNeg
    have hv2 := congrArg Int32.toInt ev2
    refine And.intro (t_in (by omega)) ?_
    have qa4 := ti_nar_byte v2
    have a4 : ∀ k : Nat, -128 ≤ Int32.toInt ((upd m_rule x2.toNatClampNeg (vp_nar .byte v2)) k) ∧ Int32.toInt ((upd m_rule x2.toNatClampNeg (vp_nar .byte v2)) k) ≤ 127 := t_upd (fun k => by have q9 := h_m_rule k; omega) (by omega)
    intro v5 ev5
    have f6 : Int32.toInt (x2 + 1) = Int32.toInt x2 + Int32.toInt (1 : Int32) := ta_add _ _ (by omega)
    rw [← ev5] at f6
    exact hKn x1 v5 m_typed m_thrown m_read m_length m_top m_at m_wrong m_ruleSize m_isAsked (upd m_rule x2.toNatClampNeg (vp_nar .byte v2)) (by omega) (by omega) (by omega) (by omega) (by first | exact h_m_read | exact Or.inl rfl | exact Or.inr rfl | omega) (by omega) (by omega) (by omega) (by omega) (by omega) (by omega) (fun k => by have q9 := a4 k; omega) (by omega)
set_option maxHeartbeats 8000000 in
set_option maxRecDepth 200000 in
theorem tb_X10_rule_73 {post : Int32 → Int32 → Int32 → Nat → Int32 → Int32 → Int32 → Int32 → Int32 → Int32 → (Nat → Int32) → Prop} (m_askedFruit : Int32) (m_askedStanding : Int32) (m_askedHook : Int32) (m_askedApron : Int32) (m_x : Nat → Int32) (m_height : Nat → Int32) (m_worth : Nat → Int32) (m_foot : Nat → Int32) (m_fork : Nat → Int32) (m_text : Nat → Int32) (h_m_askedFruit : 0 ≤ Int32.toInt m_askedFruit ∧ Int32.toInt m_askedFruit ≤ 15) (h_m_askedStanding : 0 ≤ Int32.toInt m_askedStanding ∧ Int32.toInt m_askedStanding ≤ 7) (h_m_askedHook : 0 ≤ Int32.toInt m_askedHook ∧ Int32.toInt m_askedHook ≤ 1) (h_m_askedApron : 0 ≤ Int32.toInt m_askedApron ∧ Int32.toInt m_askedApron ≤ 63) (h_m_x : ∀ k : Nat, 0 ≤ Int32.toInt (m_x k) ∧ Int32.toInt (m_x k) ≤ 99) (h_m_height : ∀ k : Nat, 0 ≤ Int32.toInt (m_height k) ∧ Int32.toInt (m_height k) ≤ 99) (h_m_worth : ∀ k : Nat, 0 ≤ Int32.toInt (m_worth k) ∧ Int32.toInt (m_worth k) ≤ 9) (h_m_foot : ∀ k : Nat, 0 ≤ Int32.toInt (m_foot k) ∧ Int32.toInt (m_foot k) ≤ 99) (h_m_fork : ∀ k : Nat, 0 ≤ Int32.toInt (m_fork k) ∧ Int32.toInt (m_fork k) ≤ 99) (h_m_text : ∀ k : Nat, -128 ≤ Int32.toInt (m_text k) ∧ Int32.toInt (m_text k) ≤ 127) (hpost : ∀ (r : Int32) (m_typed' : Int32) (m_thrown' : Int32) (m_read' : Nat) (m_length' : Int32) (m_top' : Int32) (m_at' : Int32) (m_wrong' : Int32) (m_ruleSize' : Int32) (m_isAsked' : Int32) (m_rule' : Nat → Int32), (-100 ≤ Int32.toInt r ∧ Int32.toInt r ≤ 0) → (0 ≤ Int32.toInt m_typed' ∧ Int32.toInt m_typed' ≤ 0) → (0 ≤ Int32.toInt m_thrown' ∧ Int32.toInt m_thrown' ≤ 0) → (m_read' = 1) → (0 ≤ Int32.toInt m_length' ∧ Int32.toInt m_length' ≤ 80) → (40 ≤ Int32.toInt m_top' ∧ Int32.toInt m_top' ≤ 40) → (0 ≤ Int32.toInt m_at' ∧ Int32.toInt m_at' ≤ 80) → (-1 ≤ Int32.toInt m_wrong' ∧ Int32.toInt m_wrong' ≤ 80) → (0 ≤ Int32.toInt m_ruleSize' ∧ Int32.toInt m_ruleSize' ≤ 40) → (0 ≤ Int32.toInt m_isAsked' ∧ Int32.toInt m_isAsked' ≤ 0) → (∀ k : Nat, -128 ≤ Int32.toInt (m_rule' k) ∧ Int32.toInt (m_rule' k) ≤ 127) → post r m_typed' m_thrown' m_read' m_length' m_top' m_at' m_wrong' m_ruleSize' m_isAsked' m_rule') : ∀ (n : Nat) (x1 : Int32) (x2 : Int32) (m_typed : Int32) (m_thrown : Int32) (m_read : Nat) (m_length : Int32) (m_top : Int32) (m_at : Int32) (m_wrong : Int32) (m_ruleSize : Int32) (m_isAsked : Int32) (m_rule : Nat → Int32), (0 ≤ Int32.toInt x1 ∧ Int32.toInt x1 ≤ 40) → (0 ≤ Int32.toInt x2 ∧ Int32.toInt x2 ≤ 40) → (0 ≤ Int32.toInt m_typed ∧ Int32.toInt m_typed ≤ 0) → (0 ≤ Int32.toInt m_thrown ∧ Int32.toInt m_thrown ≤ 0) → (m_read = 1) → (0 ≤ Int32.toInt m_length ∧ Int32.toInt m_length ≤ 80) → (40 ≤ Int32.toInt m_top ∧ Int32.toInt m_top ≤ 40) → (0 ≤ Int32.toInt m_at ∧ Int32.toInt m_at ≤ 80) → (-1 ≤ Int32.toInt m_wrong ∧ Int32.toInt m_wrong ≤ -1) → (0 ≤ Int32.toInt m_ruleSize ∧ Int32.toInt m_ruleSize ≤ 40) → (0 ≤ Int32.toInt m_isAsked ∧ Int32.toInt m_isAsked ≤ 0) → (∀ k : Nat, -128 ≤ Int32.toInt (m_rule k) ∧ Int32.toInt (m_rule k) ≤ 127) → (40 - Int32.toInt x2 < (n : Int)) → wb_X10_rule_73 post m_askedFruit m_askedStanding m_askedHook m_askedApron m_x m_height m_worth m_foot m_fork m_text n x1 x2 m_typed m_thrown m_read m_length m_top m_at m_wrong m_ruleSize m_isAsked m_rule := by
  intro n
  induction n with
  | zero =>
    intro x1 x2 m_typed m_thrown m_read m_length m_top m_at m_wrong m_ruleSize m_isAsked m_rule h_x1 h_x2 h_m_typed h_m_thrown h_m_read h_m_length h_m_top h_m_at h_m_wrong h_m_ruleSize h_m_isAsked h_m_rule hm
    exfalso; omega
  | succ n ih =>
    intro x1 x2 m_typed m_thrown m_read m_length m_top m_at m_wrong m_ruleSize m_isAsked m_rule h_x1 h_x2 h_m_typed h_m_thrown h_m_read h_m_length h_m_top h_m_at h_m_wrong h_m_ruleSize h_m_isAsked h_m_rule hm
    exact ts_X10_rule_73 m_askedFruit m_askedStanding m_askedHook m_askedApron m_x m_height m_worth m_foot m_fork m_text h_m_askedFruit h_m_askedStanding h_m_askedHook h_m_askedApron h_m_x h_m_height h_m_worth h_m_foot h_m_fork h_m_text hpost ih x1 x2 m_typed m_thrown m_read m_length m_top m_at m_wrong m_ruleSize m_isAsked m_rule h_x1 h_x2 h_m_typed h_m_thrown h_m_read h_m_length h_m_top h_m_at h_m_wrong h_m_ruleSize h_m_isAsked h_m_rule (by omega)
set_option maxHeartbeats 8000000 in
set_option maxRecDepth 200000 in
theorem ts_X10_rule_71 {post : Int32 → Int32 → Int32 → Nat → Int32 → Int32 → Int32 → Int32 → Int32 → Int32 → (Nat → Int32) → Prop} (m_askedFruit : Int32) (m_askedStanding : Int32) (m_askedHook : Int32) (m_askedApron : Int32) (m_x : Nat → Int32) (m_height : Nat → Int32) (m_worth : Nat → Int32) (m_foot : Nat → Int32) (m_fork : Nat → Int32) (m_text : Nat → Int32) (h_m_askedFruit : 0 ≤ Int32.toInt m_askedFruit ∧ Int32.toInt m_askedFruit ≤ 15) (h_m_askedStanding : 0 ≤ Int32.toInt m_askedStanding ∧ Int32.toInt m_askedStanding ≤ 7) (h_m_askedHook : 0 ≤ Int32.toInt m_askedHook ∧ Int32.toInt m_askedHook ≤ 1) (h_m_askedApron : 0 ≤ Int32.toInt m_askedApron ∧ Int32.toInt m_askedApron ≤ 63) (h_m_x : ∀ k : Nat, 0 ≤ Int32.toInt (m_x k) ∧ Int32.toInt (m_x k) ≤ 99) (h_m_height : ∀ k : Nat, 0 ≤ Int32.toInt (m_height k) ∧ Int32.toInt (m_height k) ≤ 99) (h_m_worth : ∀ k : Nat, 0 ≤ Int32.toInt (m_worth k) ∧ Int32.toInt (m_worth k) ≤ 9) (h_m_foot : ∀ k : Nat, 0 ≤ Int32.toInt (m_foot k) ∧ Int32.toInt (m_foot k) ≤ 99) (h_m_fork : ∀ k : Nat, 0 ≤ Int32.toInt (m_fork k) ∧ Int32.toInt (m_fork k) ≤ 99) (h_m_text : ∀ k : Nat, -128 ≤ Int32.toInt (m_text k) ∧ Int32.toInt (m_text k) ≤ 127) (hpost : ∀ (r : Int32) (m_typed' : Int32) (m_thrown' : Int32) (m_read' : Nat) (m_length' : Int32) (m_top' : Int32) (m_at' : Int32) (m_wrong' : Int32) (m_ruleSize' : Int32) (m_isAsked' : Int32) (m_rule' : Nat → Int32), (-100 ≤ Int32.toInt r ∧ Int32.toInt r ≤ 0) → (0 ≤ Int32.toInt m_typed' ∧ Int32.toInt m_typed' ≤ 0) → (0 ≤ Int32.toInt m_thrown' ∧ Int32.toInt m_thrown' ≤ 0) → (m_read' = 1) → (0 ≤ Int32.toInt m_length' ∧ Int32.toInt m_length' ≤ 80) → (40 ≤ Int32.toInt m_top' ∧ Int32.toInt m_top' ≤ 40) → (0 ≤ Int32.toInt m_at' ∧ Int32.toInt m_at' ≤ 80) → (-1 ≤ Int32.toInt m_wrong' ∧ Int32.toInt m_wrong' ≤ 80) → (0 ≤ Int32.toInt m_ruleSize' ∧ Int32.toInt m_ruleSize' ≤ 40) → (0 ≤ Int32.toInt m_isAsked' ∧ Int32.toInt m_isAsked' ≤ 0) → (∀ k : Nat, -128 ≤ Int32.toInt (m_rule' k) ∧ Int32.toInt (m_rule' k) ≤ 127) → post r m_typed' m_thrown' m_read' m_length' m_top' m_at' m_wrong' m_ruleSize' m_isAsked' m_rule') (x1 : Int32) (m_typed : Int32) (m_thrown : Int32) (m_read : Nat) (m_length : Int32) (m_top : Int32) (m_at : Int32) (m_wrong : Int32) (m_ruleSize : Int32) (m_isAsked : Int32) (m_rule : Nat → Int32) (h_x1 : 0 ≤ Int32.toInt x1 ∧ Int32.toInt x1 ≤ 40) (h_m_typed : 0 ≤ Int32.toInt m_typed ∧ Int32.toInt m_typed ≤ 0) (h_m_thrown : 0 ≤ Int32.toInt m_thrown ∧ Int32.toInt m_thrown ≤ 0) (h_m_read : m_read = 1) (h_m_length : 0 ≤ Int32.toInt m_length ∧ Int32.toInt m_length ≤ 80) (h_m_top : 40 ≤ Int32.toInt m_top ∧ Int32.toInt m_top ≤ 40) (h_m_at : 0 ≤ Int32.toInt m_at ∧ Int32.toInt m_at ≤ 80) (h_m_wrong : -1 ≤ Int32.toInt m_wrong ∧ Int32.toInt m_wrong ≤ -1) (h_m_ruleSize : 0 ≤ Int32.toInt m_ruleSize ∧ Int32.toInt m_ruleSize ≤ 40) (h_m_isAsked : 0 ≤ Int32.toInt m_isAsked ∧ Int32.toInt m_isAsked ≤ 0) (h_m_rule : ∀ k : Nat, -128 ≤ Int32.toInt (m_rule k) ∧ Int32.toInt (m_rule k) ≤ 127) : ws_X10_rule_71 post m_askedFruit m_askedStanding m_askedHook m_askedApron m_x m_height m_worth m_foot m_fork m_text x1 m_typed m_thrown m_read m_length m_top m_at m_wrong m_ruleSize m_isAsked m_rule := by
  have l0 : Int32.toInt (0 : Int32) = 0 := (by decide)
  exact ⟨42, tb_X10_rule_73 m_askedFruit m_askedStanding m_askedHook m_askedApron m_x m_height m_worth m_foot m_fork m_text h_m_askedFruit h_m_askedStanding h_m_askedHook h_m_askedApron h_m_x h_m_height h_m_worth h_m_foot h_m_fork h_m_text hpost _ x1 0 m_typed m_thrown m_read m_length m_top m_at m_wrong m_ruleSize m_isAsked m_rule (by omega) (by omega) (by omega) (by omega) (by first | exact h_m_read | exact Or.inl rfl | exact Or.inr rfl | omega) (by omega) (by omega) (by omega) (by omega) (by omega) (by omega) (fun k => by have q9 := h_m_rule k; omega) (by omega)⟩
set_option maxHeartbeats 8000000 in
set_option maxRecDepth 200000 in
theorem ts_X10_rule_57 {post : Int32 → Int32 → Int32 → Nat → Int32 → Int32 → Int32 → Int32 → Int32 → Int32 → (Nat → Int32) → Prop} (m_askedFruit : Int32) (m_askedStanding : Int32) (m_askedHook : Int32) (m_askedApron : Int32) (m_x : Nat → Int32) (m_height : Nat → Int32) (m_worth : Nat → Int32) (m_foot : Nat → Int32) (m_fork : Nat → Int32) (m_text : Nat → Int32) (h_m_askedFruit : 0 ≤ Int32.toInt m_askedFruit ∧ Int32.toInt m_askedFruit ≤ 15) (h_m_askedStanding : 0 ≤ Int32.toInt m_askedStanding ∧ Int32.toInt m_askedStanding ≤ 7) (h_m_askedHook : 0 ≤ Int32.toInt m_askedHook ∧ Int32.toInt m_askedHook ≤ 1) (h_m_askedApron : 0 ≤ Int32.toInt m_askedApron ∧ Int32.toInt m_askedApron ≤ 63) (h_m_x : ∀ k : Nat, 0 ≤ Int32.toInt (m_x k) ∧ Int32.toInt (m_x k) ≤ 99) (h_m_height : ∀ k : Nat, 0 ≤ Int32.toInt (m_height k) ∧ Int32.toInt (m_height k) ≤ 99) (h_m_worth : ∀ k : Nat, 0 ≤ Int32.toInt (m_worth k) ∧ Int32.toInt (m_worth k) ≤ 9) (h_m_foot : ∀ k : Nat, 0 ≤ Int32.toInt (m_foot k) ∧ Int32.toInt (m_foot k) ≤ 99) (h_m_fork : ∀ k : Nat, 0 ≤ Int32.toInt (m_fork k) ∧ Int32.toInt (m_fork k) ≤ 99) (h_m_text : ∀ k : Nat, -128 ≤ Int32.toInt (m_text k) ∧ Int32.toInt (m_text k) ≤ 127) (hpost : ∀ (r : Int32) (m_typed' : Int32) (m_thrown' : Int32) (m_read' : Nat) (m_length' : Int32) (m_top' : Int32) (m_at' : Int32) (m_wrong' : Int32) (m_ruleSize' : Int32) (m_isAsked' : Int32) (m_rule' : Nat → Int32), (-100 ≤ Int32.toInt r ∧ Int32.toInt r ≤ 0) → (0 ≤ Int32.toInt m_typed' ∧ Int32.toInt m_typed' ≤ 0) → (0 ≤ Int32.toInt m_thrown' ∧ Int32.toInt m_thrown' ≤ 0) → (m_read' = 1) → (0 ≤ Int32.toInt m_length' ∧ Int32.toInt m_length' ≤ 80) → (40 ≤ Int32.toInt m_top' ∧ Int32.toInt m_top' ≤ 40) → (0 ≤ Int32.toInt m_at' ∧ Int32.toInt m_at' ≤ 80) → (-1 ≤ Int32.toInt m_wrong' ∧ Int32.toInt m_wrong' ≤ 80) → (0 ≤ Int32.toInt m_ruleSize' ∧ Int32.toInt m_ruleSize' ≤ 40) → (0 ≤ Int32.toInt m_isAsked' ∧ Int32.toInt m_isAsked' ≤ 0) → (∀ k : Nat, -128 ≤ Int32.toInt (m_rule' k) ∧ Int32.toInt (m_rule' k) ≤ 127) → post r m_typed' m_thrown' m_read' m_length' m_top' m_at' m_wrong' m_ruleSize' m_isAsked' m_rule') (x1 : Int32) (m_typed : Int32) (m_thrown : Int32) (m_read : Nat) (m_length : Int32) (m_top : Int32) (m_at : Int32) (m_wrong : Int32) (m_ruleSize : Int32) (m_isAsked : Int32) (m_rule : Nat → Int32) (h_x1 : 1 ≤ Int32.toInt x1 ∧ Int32.toInt x1 ≤ 80) (h_m_typed : 0 ≤ Int32.toInt m_typed ∧ Int32.toInt m_typed ≤ 0) (h_m_thrown : 0 ≤ Int32.toInt m_thrown ∧ Int32.toInt m_thrown ≤ 0) (h_m_read : m_read = 1) (h_m_length : 1 ≤ Int32.toInt m_length ∧ Int32.toInt m_length ≤ 80) (h_m_top : 40 ≤ Int32.toInt m_top ∧ Int32.toInt m_top ≤ 40) (h_m_at : 0 ≤ Int32.toInt m_at ∧ Int32.toInt m_at ≤ 80) (h_m_wrong : -1 ≤ Int32.toInt m_wrong ∧ Int32.toInt m_wrong ≤ 80) (h_m_ruleSize : 0 ≤ Int32.toInt m_ruleSize ∧ Int32.toInt m_ruleSize ≤ 40) (h_m_isAsked : 0 ≤ Int32.toInt m_isAsked ∧ Int32.toInt m_isAsked ≤ 0) (h_m_rule : ∀ k : Nat, -128 ≤ Int32.toInt (m_rule k) ∧ Int32.toInt (m_rule k) ≤ 127) (hx0 : Int32.toInt m_wrong ≠ -1 ∨ Int32.toInt x1 ≤ Int32.toInt m_at) (hx1 : Int32.toInt m_at ≤ 40) : ws_X10_rule_57 post m_askedFruit m_askedStanding m_askedHook m_askedApron m_x m_height m_worth m_foot m_fork m_text x1 m_typed m_thrown m_read m_length m_top m_at m_wrong m_ruleSize m_isAsked m_rule := by
  have l0 : Int32.toInt ((-1) : Int32) = -1 := (by decide)
  refine And.intro (fun c7 => ?_) (fun c7 => ?_)
  · skip
    have c7 := mt (fa_eq _ _).mpr c7
    refine And.intro (fun h9 => absurd h9 (by decide)) (fun _ => ?_)
    have f8 : Int32.toInt ((-1) - m_wrong) = Int32.toInt ((-1) : Int32) - Int32.toInt m_wrong := ta_sub _ _ (by omega)
    obtain ⟨w9, ew9⟩ : ∃ w9 : Int32, w9 = (-1) - m_wrong := ⟨_, rfl⟩
    rw [← ew9] at f8
    have key9 := hpost w9 m_typed m_thrown m_read m_length m_top m_at m_wrong m_ruleSize m_isAsked m_rule (by omega) (by omega) (by omega) (by first | exact h_m_read | exact Or.inl rfl | exact Or.inr rfl | omega) (by omega) (by omega) (by omega) (by omega) (by omega) (by omega) (fun k => by have q9 := h_m_rule k; omega)
    subst ew9
    exact key9
  · skip
    have c7 := (fa_eq _ _).mp c7
    refine And.intro (fun _ => ?_) (fun h9 => absurd h9 (by decide))
    exact ts_X10_rule_71 m_askedFruit m_askedStanding m_askedHook m_askedApron m_x m_height m_worth m_foot m_fork m_text h_m_askedFruit h_m_askedStanding h_m_askedHook h_m_askedApron h_m_x h_m_height h_m_worth h_m_foot h_m_fork h_m_text hpost x1 m_typed m_thrown m_read m_length m_top m_at m_wrong m_ruleSize m_isAsked m_rule (by omega) (by omega) (by omega) (by first | exact h_m_read | exact Or.inl rfl | exact Or.inr rfl | omega) (by omega) (by omega) (by omega) (by omega) (by omega) (by omega) (fun k => by have q9 := h_m_rule k; omega)
set_option maxHeartbeats 8000000 in
set_option maxRecDepth 200000 in
theorem t_X10_rule {post : Int32 → Int32 → Int32 → Nat → Int32 → Int32 → Int32 → Int32 → Int32 → Int32 → (Nat → Int32) → Prop} {m_typed : Int32} {m_thrown : Int32} {m_read : Nat} {m_length : Int32} {m_top : Int32} {m_at : Int32} {m_wrong : Int32} {m_ruleSize : Int32} {m_isAsked : Int32} {m_askedFruit : Int32} {m_askedStanding : Int32} {m_askedHook : Int32} {m_askedApron : Int32} {m_x : Nat → Int32} {m_height : Nat → Int32} {m_worth : Nat → Int32} {m_foot : Nat → Int32} {m_fork : Nat → Int32} {m_text : Nat → Int32} {m_rule : Nat → Int32} (h_m_typed : 0 ≤ Int32.toInt m_typed ∧ Int32.toInt m_typed ≤ 80) (h_m_thrown : 0 ≤ Int32.toInt m_thrown ∧ Int32.toInt m_thrown ≤ 1) (h_m_read : m_read = 0 ∨ m_read = 1 ∨ m_read = 2) (h_m_length : 0 ≤ Int32.toInt m_length ∧ Int32.toInt m_length ≤ 80) (h_m_top : 0 ≤ Int32.toInt m_top ∧ Int32.toInt m_top ≤ 80) (h_m_at : 0 ≤ Int32.toInt m_at ∧ Int32.toInt m_at ≤ 80) (h_m_wrong : -1 ≤ Int32.toInt m_wrong ∧ Int32.toInt m_wrong ≤ 80) (h_m_ruleSize : 0 ≤ Int32.toInt m_ruleSize ∧ Int32.toInt m_ruleSize ≤ 40) (h_m_isAsked : 0 ≤ Int32.toInt m_isAsked ∧ Int32.toInt m_isAsked ≤ 0) (h_m_askedFruit : 0 ≤ Int32.toInt m_askedFruit ∧ Int32.toInt m_askedFruit ≤ 15) (h_m_askedStanding : 0 ≤ Int32.toInt m_askedStanding ∧ Int32.toInt m_askedStanding ≤ 7) (h_m_askedHook : 0 ≤ Int32.toInt m_askedHook ∧ Int32.toInt m_askedHook ≤ 1) (h_m_askedApron : 0 ≤ Int32.toInt m_askedApron ∧ Int32.toInt m_askedApron ≤ 63) (h_m_x : ∀ k : Nat, 0 ≤ Int32.toInt (m_x k) ∧ Int32.toInt (m_x k) ≤ 99) (h_m_height : ∀ k : Nat, 0 ≤ Int32.toInt (m_height k) ∧ Int32.toInt (m_height k) ≤ 99) (h_m_worth : ∀ k : Nat, 0 ≤ Int32.toInt (m_worth k) ∧ Int32.toInt (m_worth k) ≤ 9) (h_m_foot : ∀ k : Nat, 0 ≤ Int32.toInt (m_foot k) ∧ Int32.toInt (m_foot k) ≤ 99) (h_m_fork : ∀ k : Nat, 0 ≤ Int32.toInt (m_fork k) ∧ Int32.toInt (m_fork k) ≤ 99) (h_m_text : ∀ k : Nat, -128 ≤ Int32.toInt (m_text k) ∧ Int32.toInt (m_text k) ≤ 127) (h_m_rule : ∀ k : Nat, -128 ≤ Int32.toInt (m_rule k) ∧ Int32.toInt (m_rule k) ≤ 127) (hpost : ∀ (r : Int32) (m_typed' : Int32) (m_thrown' : Int32) (m_read' : Nat) (m_length' : Int32) (m_top' : Int32) (m_at' : Int32) (m_wrong' : Int32) (m_ruleSize' : Int32) (m_isAsked' : Int32) (m_rule' : Nat → Int32), (-100 ≤ Int32.toInt r ∧ Int32.toInt r ≤ 0) → (0 ≤ Int32.toInt m_typed' ∧ Int32.toInt m_typed' ≤ 0) → (0 ≤ Int32.toInt m_thrown' ∧ Int32.toInt m_thrown' ≤ 0) → (m_read' = 1) → (0 ≤ Int32.toInt m_length' ∧ Int32.toInt m_length' ≤ 80) → (40 ≤ Int32.toInt m_top' ∧ Int32.toInt m_top' ≤ 40) → (0 ≤ Int32.toInt m_at' ∧ Int32.toInt m_at' ≤ 80) → (-1 ≤ Int32.toInt m_wrong' ∧ Int32.toInt m_wrong' ≤ 80) → (0 ≤ Int32.toInt m_ruleSize' ∧ Int32.toInt m_ruleSize' ≤ 40) → (0 ≤ Int32.toInt m_isAsked' ∧ Int32.toInt m_isAsked' ≤ 0) → (∀ k : Nat, -128 ≤ Int32.toInt (m_rule' k) ∧ Int32.toInt (m_rule' k) ≤ 127) → post r m_typed' m_thrown' m_read' m_length' m_top' m_at' m_wrong' m_ruleSize' m_isAsked' m_rule') : wp_X10_rule post m_typed m_thrown m_read m_length m_top m_at m_wrong m_ruleSize m_isAsked m_askedFruit m_askedStanding m_askedHook m_askedApron m_x m_height m_worth m_foot m_fork m_text m_rule := by
  have l0 : Int32.toInt ((-1) : Int32) = -1 := (by decide)
  have l1 : Int32.toInt (0 : Int32) = 0 := (by decide)
  have l2 : Int32.toInt (40 : Int32) = 40 := (by decide)
  refine And.intro (fun c10 => ?_) (fun c10 => ?_)
  · skip
    have c10 := (fa_le _ _).mp c10
    exact ts_X10_rule_71 m_askedFruit m_askedStanding m_askedHook m_askedApron m_x m_height m_worth m_foot m_fork m_text h_m_askedFruit h_m_askedStanding h_m_askedHook h_m_askedApron h_m_x h_m_height h_m_worth h_m_foot h_m_fork h_m_text hpost m_typed 0 0 1 m_typed 40 0 (-1) m_ruleSize 0 m_rule (by omega) (by omega) (by omega) (by first | exact h_m_read | exact Or.inl rfl | exact Or.inr rfl | omega) (by omega) (by omega) (by omega) (by omega) (by omega) (by omega) (fun k => by have q9 := h_m_rule k; omega)
  · skip
    have c10 := mt (fa_le _ _).mpr c10
    refine t_X10_heldR (by omega) (by first | exact Or.inl rfl | exact Or.inr rfl | rfl) (by omega) (by omega) (by omega) (by omega) (by omega) (by omega) (by omega) (by omega) (by omega) (fun k => by have q9 := h_m_x k; omega) (fun k => by have q9 := h_m_height k; omega) (fun k => by have q9 := h_m_worth k; omega) (fun k => by have q9 := h_m_foot k; omega) (fun k => by have q9 := h_m_fork k; omega) (fun k => by have q9 := h_m_text k; omega) (fun k => by have q9 := h_m_rule k; omega) (by omega) (by omega) (by omega) (fun r13 m_at_11 m_wrong_12 h_m_at_11 h_m_wrong_12 ox14 ox15 => ?_)
    refine And.intro (fun c16 => ?_) (fun c16 => ?_)
    · skip
      have c16 := (fa_le _ _).mp c16
      exact ts_X10_rule_57 m_askedFruit m_askedStanding m_askedHook m_askedApron m_x m_height m_worth m_foot m_fork m_text h_m_askedFruit h_m_askedStanding h_m_askedHook h_m_askedApron h_m_x h_m_height h_m_worth h_m_foot h_m_fork h_m_text hpost m_typed 0 0 1 m_typed 40 m_at_11 m_wrong_12 m_ruleSize 0 m_rule (by omega) (by omega) (by omega) (by first | exact h_m_read | exact Or.inl rfl | exact Or.inr rfl | omega) (by omega) (by omega) (by omega) (by omega) (by omega) (by omega) (fun k => by have q9 := h_m_rule k; omega) (by omega) (by omega)
    · skip
      have c16 := mt (fa_le _ _).mpr c16
      refine And.intro (fun c17 => ?_) (fun c17 => ?_)
      · skip
        have c17 := mt (fa_eq _ _).mpr c17
        refine And.intro (fun _ => ?_) (fun h9 => absurd h9 (by decide))
        exact ts_X10_rule_57 m_askedFruit m_askedStanding m_askedHook m_askedApron m_x m_height m_worth m_foot m_fork m_text h_m_askedFruit h_m_askedStanding h_m_askedHook h_m_askedApron h_m_x h_m_height h_m_worth h_m_foot h_m_fork h_m_text hpost m_typed 0 0 1 m_typed 40 m_at_11 m_wrong_12 m_ruleSize 0 m_rule (by omega) (by omega) (by omega) (by first | exact h_m_read | exact Or.inl rfl | exact Or.inr rfl | omega) (by omega) (by omega) (by omega) (by omega) (by omega) (by omega) (fun k => by have q9 := h_m_rule k; omega) (by omega) (by omega)
      · skip
        have c17 := (fa_eq _ _).mp c17
        refine And.intro (fun h9 => absurd h9 (by decide)) (fun _ => ?_)
        exact ts_X10_rule_57 m_askedFruit m_askedStanding m_askedHook m_askedApron m_x m_height m_worth m_foot m_fork m_text h_m_askedFruit h_m_askedStanding h_m_askedHook h_m_askedApron h_m_x h_m_height h_m_worth h_m_foot h_m_fork h_m_text hpost m_typed 0 0 1 m_typed 40 m_at_11 m_at_11 m_ruleSize 0 m_rule (by omega) (by omega) (by omega) (by first | exact h_m_read | exact Or.inl rfl | exact Or.inr rfl | omega) (by omega) (by omega) (by omega) (by omega) (by omega) (by omega) (fun k => by have q9 := h_m_rule k; omega) (by omega) (by omega)
