set_option maxHeartbeats 8000000 in
set_option maxRecDepth 200000 in
theorem ts_X7_readBehindThing_105 {post : Int32 → Int32 → Int32 → Int32 → Int32 → Int32 → Int32 → (Nat → Int32) → (Nat → Int32) → Prop} (tx_stop : Int32) (tx_signs : Nat → Int32) (h_tx_stop : 1 ≤ Int32.toInt tx_stop ∧ Int32.toInt tx_stop ≤ 40) (h_tx_signs : ∀ k : Nat, 0 ≤ Int32.toInt (tx_signs k) ∧ Int32.toInt (tx_signs k) ≤ 65535) (hpost : ∀ (r : Int32) (tx_place' : Int32) (ru_drafted' : Int32) (ru_waits' : Int32) (ru_open' : Int32) (ru_compared' : Int32) (ru_wantsThing' : Int32) (ru_waiting' : Nat → Int32) (ru_draft' : Nat → Int32), (0 ≤ Int32.toInt r ∧ Int32.toInt r ≤ 1) → (0 ≤ Int32.toInt tx_place' ∧ Int32.toInt tx_place' ≤ 40) → (0 ≤ Int32.toInt ru_drafted' ∧ Int32.toInt ru_drafted' ≤ 40) → (0 ≤ Int32.toInt ru_waits' ∧ Int32.toInt ru_waits' ≤ 40) → (0 ≤ Int32.toInt ru_open' ∧ Int32.toInt ru_open' ≤ 4) → (0 ≤ Int32.toInt ru_compared' ∧ Int32.toInt ru_compared' ≤ 31) → (0 ≤ Int32.toInt ru_wantsThing' ∧ Int32.toInt ru_wantsThing' ≤ 1) → (∀ k : Nat, 0 ≤ Int32.toInt (ru_waiting' k) ∧ Int32.toInt (ru_waiting' k) ≤ 256) → post r tx_place' ru_drafted' ru_waits' ru_open' ru_compared' ru_wantsThing' ru_waiting' ru_draft') (x2 : Int32) (x3 : Int32) (tx_place : Int32) (ru_drafted : Int32) (ru_waits : Int32) (ru_open : Int32) (ru_compared : Int32) (ru_wantsThing : Int32) (ru_waiting : Nat → Int32) (ru_draft : Nat → Int32) (h_x2 : 42 ≤ Int32.toInt x2 ∧ Int32.toInt x2 ≤ 256) (h_x3 : 1 ≤ Int32.toInt x3 ∧ Int32.toInt x3 ≤ 4) (h_tx_place : 0 ≤ Int32.toInt tx_place ∧ Int32.toInt tx_place ≤ 40) (h_ru_drafted : 0 ≤ Int32.toInt ru_drafted ∧ Int32.toInt ru_drafted ≤ 40) (h_ru_waits : 0 ≤ Int32.toInt ru_waits ∧ Int32.toInt ru_waits ≤ 40) (h_ru_open : 0 ≤ Int32.toInt ru_open ∧ Int32.toInt ru_open ≤ 4) (h_ru_compared : 0 ≤ Int32.toInt ru_compared ∧ Int32.toInt ru_compared ≤ 31) (h_ru_wantsThing : 0 ≤ Int32.toInt ru_wantsThing ∧ Int32.toInt ru_wantsThing ≤ 0) (h_ru_waiting : ∀ k : Nat, 0 ≤ Int32.toInt (ru_waiting k) ∧ Int32.toInt (ru_waiting k) ≤ 256) : ws_X7_readBehindThing_105 post tx_stop tx_signs x2 x3 tx_place ru_drafted ru_waits ru_open ru_compared ru_wantsThing ru_waiting ru_draft := by
  have l0 : Int32.toInt (1 : Int32) = 1 := (by decide)
  have l1 : Int32.toInt (40 : Int32) = 40 := (by decide)
  refine t_X7_settle (by omega) (by omega) (by omega) (fun k => by have q9 := h_ru_waiting k; omega) (fun ru_drafted_1 ru_waits_2 ru_draft_3 h_ru_drafted_1 h_ru_waits_2 => ?_)
  refine And.intro (fun c4 => ?_) (fun c4 => ?_)
  · skip
    have c4 := (fa_le _ _).mp c4
    refine And.intro (fun c5 => ?_) (fun c5 => ?_)
    · skip
      have c5 := (fa_le _ _).mp c5
      exact hpost _ _ _ _ _ _ _ _ _ (by omega) (by omega) (by omega) (by omega) (by omega) (by omega) (by omega) (fun k => by have q9 := h_ru_waiting k; omega)
    · skip
      have c5 := mt (fa_le _ _).mpr c5
      intro v6 ev6
      have f7 : Int32.toInt (tx_place + 1) = Int32.toInt tx_place + Int32.toInt (1 : Int32) := ta_add _ _ (by omega)
      rw [← ev6] at f7
      exact hpost _ _ _ _ _ _ _ _ _ (by omega) (by omega) (by omega) (by omega) (by omega) (by omega) (by omega) (fun k => by have q9 := h_ru_waiting k; omega)
  · skip
    have c4 := mt (fa_le _ _).mpr c4
    refine And.intro (t_in (by omega)) ?_
    have a8 : ∀ k : Nat, 0 ≤ Int32.toInt ((upd ru_waiting ru_waits_2.toNatClampNeg x2) k) ∧ Int32.toInt ((upd ru_waiting ru_waits_2.toNatClampNeg x2) k) ≤ 256 := t_upd (fun k => by have q9 := h_ru_waiting k; omega) (by omega)
    intro v9 ev9
    have f10 : Int32.toInt (ru_waits_2 + 1) = Int32.toInt ru_waits_2 + Int32.toInt (1 : Int32) := ta_add _ _ (by omega)
    rw [← ev9] at f10
    refine And.intro (fun c11 => ?_) (fun c11 => ?_)
    · skip
      have c11 := (fa_le _ _).mp c11
      exact hpost _ _ _ _ _ _ _ _ _ (by omega) (by omega) (by omega) (by omega) (by omega) (by omega) (by omega) (fun k => by have q9 := a8 k; omega)
    · skip
      have c11 := mt (fa_le _ _).mpr c11
      intro v12 ev12
      have f13 : Int32.toInt (tx_place + 1) = Int32.toInt tx_place + Int32.toInt (1 : Int32) := ta_add _ _ (by omega)
      rw [← ev12] at f13
      exact hpost _ _ _ _ _ _ _ _ _ (by omega) (by omega) (by omega) (by omega) (by omega) (by omega) (by omega) (fun k => by have q9 := a8 k; omega)
set_option maxHeartbeats 8000000 in
set_option maxRecDepth 200000 in
theorem ts_X7_readBehindThing_85 {post : Int32 → Int32 → Int32 → Int32 → Int32 → Int32 → Int32 → (Nat → Int32) → (Nat → Int32) → Prop} (tx_stop : Int32) (tx_signs : Nat → Int32) (h_tx_stop : 1 ≤ Int32.toInt tx_stop ∧ Int32.toInt tx_stop ≤ 40) (h_tx_signs : ∀ k : Nat, 0 ≤ Int32.toInt (tx_signs k) ∧ Int32.toInt (tx_signs k) ≤ 65535) (hpost : ∀ (r : Int32) (tx_place' : Int32) (ru_drafted' : Int32) (ru_waits' : Int32) (ru_open' : Int32) (ru_compared' : Int32) (ru_wantsThing' : Int32) (ru_waiting' : Nat → Int32) (ru_draft' : Nat → Int32), (0 ≤ Int32.toInt r ∧ Int32.toInt r ≤ 1) → (0 ≤ Int32.toInt tx_place' ∧ Int32.toInt tx_place' ≤ 40) → (0 ≤ Int32.toInt ru_drafted' ∧ Int32.toInt ru_drafted' ≤ 40) → (0 ≤ Int32.toInt ru_waits' ∧ Int32.toInt ru_waits' ≤ 40) → (0 ≤ Int32.toInt ru_open' ∧ Int32.toInt ru_open' ≤ 4) → (0 ≤ Int32.toInt ru_compared' ∧ Int32.toInt ru_compared' ≤ 31) → (0 ≤ Int32.toInt ru_wantsThing' ∧ Int32.toInt ru_wantsThing' ≤ 1) → (∀ k : Nat, 0 ≤ Int32.toInt (ru_waiting' k) ∧ Int32.toInt (ru_waiting' k) ≤ 256) → post r tx_place' ru_drafted' ru_waits' ru_open' ru_compared' ru_wantsThing' ru_waiting' ru_draft') (x2 : Int32) (x3 : Int32) (tx_place : Int32) (ru_drafted : Int32) (ru_waits : Int32) (ru_open : Int32) (ru_compared : Int32) (ru_wantsThing : Int32) (ru_waiting : Nat → Int32) (ru_draft : Nat → Int32) (h_x2 : 42 ≤ Int32.toInt x2 ∧ Int32.toInt x2 ≤ 256) (h_x3 : 1 ≤ Int32.toInt x3 ∧ Int32.toInt x3 ≤ 4) (h_tx_place : 0 ≤ Int32.toInt tx_place ∧ Int32.toInt tx_place ≤ 40) (h_ru_drafted : 0 ≤ Int32.toInt ru_drafted ∧ Int32.toInt ru_drafted ≤ 40) (h_ru_waits : 0 ≤ Int32.toInt ru_waits ∧ Int32.toInt ru_waits ≤ 40) (h_ru_open : 0 ≤ Int32.toInt ru_open ∧ Int32.toInt ru_open ≤ 4) (h_ru_compared : 0 ≤ Int32.toInt ru_compared ∧ Int32.toInt ru_compared ≤ 31) (h_ru_wantsThing : 0 ≤ Int32.toInt ru_wantsThing ∧ Int32.toInt ru_wantsThing ≤ 0) (h_ru_waiting : ∀ k : Nat, 0 ≤ Int32.toInt (ru_waiting k) ∧ Int32.toInt (ru_waiting k) ≤ 256) : ws_X7_readBehindThing_85 post tx_stop tx_signs x2 x3 tx_place ru_drafted ru_waits ru_open ru_compared ru_wantsThing ru_waiting ru_draft := by
  have l0 : Int32.toInt (1 : Int32) = 1 := (by decide)
  refine And.intro (fun c14 => ?_) (fun c14 => ?_)
  · skip
    have c14 := mt (fa_eq _ _).mpr c14
    exact ts_X7_readBehindThing_105 tx_stop tx_signs h_tx_stop h_tx_signs hpost x2 x3 tx_place ru_drafted ru_waits ru_open ru_compared ru_wantsThing ru_waiting ru_draft (by omega) (by omega) (by omega) (by omega) (by omega) (by omega) (by omega) (by omega) (fun k => by have q9 := h_ru_waiting k; omega)
  · skip
    have c14 := (fa_eq _ _).mp c14
    intro v15 ev15
    have f17 := ti_shl1 4 16 ru_open (by decide) (by omega)
    have f16 := ti_or 5 32 ru_compared (1 <<< (ru_open &&& 31)) (by decide) (by omega) (by omega)
    have hv15 := congrArg Int32.toInt ev15
    exact ts_X7_readBehindThing_105 tx_stop tx_signs h_tx_stop h_tx_signs hpost x2 x3 tx_place ru_drafted ru_waits ru_open v15 ru_wantsThing ru_waiting ru_draft (by omega) (by omega) (by omega) (by omega) (by omega) (by omega) (by omega) (by omega) (fun k => by have q9 := h_ru_waiting k; omega)
set_option maxHeartbeats 8000000 in
set_option maxRecDepth 200000 in
theorem t_X7_readBehindThing {post : Int32 → Int32 → Int32 → Int32 → Int32 → Int32 → Int32 → (Nat → Int32) → (Nat → Int32) → Prop} {tx_place : Int32} {tx_stop : Int32} {tx_signs : Nat → Int32} {ru_drafted : Int32} {ru_waits : Int32} {ru_open : Int32} {ru_compared : Int32} {ru_wantsThing : Int32} {ru_waiting : Nat → Int32} {ru_draft : Nat → Int32} (h_tx_place : 0 ≤ Int32.toInt tx_place ∧ Int32.toInt tx_place ≤ 40) (h_tx_stop : 1 ≤ Int32.toInt tx_stop ∧ Int32.toInt tx_stop ≤ 40) (h_tx_signs : ∀ k : Nat, 0 ≤ Int32.toInt (tx_signs k) ∧ Int32.toInt (tx_signs k) ≤ 65535) (h_ru_drafted : 0 ≤ Int32.toInt ru_drafted ∧ Int32.toInt ru_drafted ≤ 40) (h_ru_waits : 0 ≤ Int32.toInt ru_waits ∧ Int32.toInt ru_waits ≤ 40) (h_ru_open : 0 ≤ Int32.toInt ru_open ∧ Int32.toInt ru_open ≤ 4) (h_ru_compared : 0 ≤ Int32.toInt ru_compared ∧ Int32.toInt ru_compared ≤ 31) (h_ru_wantsThing : 0 ≤ Int32.toInt ru_wantsThing ∧ Int32.toInt ru_wantsThing ≤ 0) (h_ru_waiting : ∀ k : Nat, 0 ≤ Int32.toInt (ru_waiting k) ∧ Int32.toInt (ru_waiting k) ≤ 256) (hpost : ∀ (r : Int32) (tx_place' : Int32) (ru_drafted' : Int32) (ru_waits' : Int32) (ru_open' : Int32) (ru_compared' : Int32) (ru_wantsThing' : Int32) (ru_waiting' : Nat → Int32) (ru_draft' : Nat → Int32), (0 ≤ Int32.toInt r ∧ Int32.toInt r ≤ 1) → (0 ≤ Int32.toInt tx_place' ∧ Int32.toInt tx_place' ≤ 40) → (0 ≤ Int32.toInt ru_drafted' ∧ Int32.toInt ru_drafted' ≤ 40) → (0 ≤ Int32.toInt ru_waits' ∧ Int32.toInt ru_waits' ≤ 40) → (0 ≤ Int32.toInt ru_open' ∧ Int32.toInt ru_open' ≤ 4) → (0 ≤ Int32.toInt ru_compared' ∧ Int32.toInt ru_compared' ≤ 31) → (0 ≤ Int32.toInt ru_wantsThing' ∧ Int32.toInt ru_wantsThing' ≤ 1) → (∀ k : Nat, 0 ≤ Int32.toInt (ru_waiting' k) ∧ Int32.toInt (ru_waiting' k) ≤ 256) → post r tx_place' ru_drafted' ru_waits' ru_open' ru_compared' ru_wantsThing' ru_waiting' ru_draft') : wp_X7_readBehindThing post tx_place tx_stop tx_signs ru_drafted ru_waits ru_open ru_compared ru_wantsThing ru_waiting ru_draft := by
  have l0 : Int32.toInt ((-1) : Int32) = -1 := (by decide)
  have l1 : Int32.toInt (0 : Int32) = 0 := (by decide)
  have l2 : Int32.toInt (1 : Int32) = 1 := (by decide)
  have l3 : Int32.toInt (2 : Int32) = 2 := (by decide)
  have l4 : Int32.toInt (256 : Int32) = 256 := (by decide)
  have l5 : Int32.toInt (3 : Int32) = 3 := (by decide)
  have l6 : Int32.toInt (4 : Int32) = 4 := (by decide)
  have l7 : Int32.toInt (41 : Int32) = 41 := (by decide)
  have l8 : Int32.toInt (42 : Int32) = 42 := (by decide)
  have l9 : Int32.toInt (43 : Int32) = 43 := (by decide)
  have l10 : Int32.toInt (45 : Int32) = 45 := (by decide)
  have l11 : Int32.toInt (47 : Int32) = 47 := (by decide)
  have l12 : Int32.toInt (60 : Int32) = 60 := (by decide)
  have l13 : Int32.toInt (61 : Int32) = 61 := (by decide)
  have l14 : Int32.toInt (62 : Int32) = 62 := (by decide)
  refine And.intro (fun c18 => ?_) (fun c18 => ?_)
  · skip
    have c18 := (fa_le _ _).mp c18
    refine And.intro (fun _ => ?_) (fun h9 => absurd h9 (by decide))
    refine And.intro (fun c19 => ?_) ?_
    · skip
      have c19 := (fa_eq _ _).mp c19
      exfalso; omega
    refine And.intro (fun c20 => ?_) ?_
    · skip
      have c20 := (fa_eq _ _).mp c20
      exfalso; omega
    refine And.intro (fun c21 => ?_) ?_
    · skip
      have c21 := (fa_eq _ _).mp c21
      exfalso; omega
    refine And.intro (fun c22 => ?_) ?_
    · skip
      have c22 := (fa_eq _ _).mp c22
      exfalso; omega
    refine And.intro (fun c23 => ?_) ?_
    · skip
      have c23 := (fa_eq _ _).mp c23
      exfalso; omega
    refine And.intro (fun c24 => ?_) ?_
    · skip
      have c24 := (fa_eq _ _).mp c24
      exfalso; omega
    refine And.intro (fun c25 => ?_) ?_
    · skip
      have c25 := (fa_eq _ _).mp c25
      exfalso; omega
    refine And.intro (fun c26 => ?_) ?_
    · skip
      have c26 := (fa_eq _ _).mp c26
      exfalso; omega
    intro c27 c28 c29 c30 c31 c32 c33 c34
    have c27 := mt (fa_eq _ _).mpr c27
    have c28 := mt (fa_eq _ _).mpr c28
    have c29 := mt (fa_eq _ _).mpr c29
    have c30 := mt (fa_eq _ _).mpr c30
    have c31 := mt (fa_eq _ _).mpr c31
    have c32 := mt (fa_eq _ _).mpr c32
    have c33 := mt (fa_eq _ _).mpr c33
    have c34 := mt (fa_eq _ _).mpr c34
    refine And.intro (fun _ => ?_) (fun h9 => absurd h9 (by decide))
    exact hpost _ _ _ _ _ _ _ _ _ (by omega) (by omega) (by omega) (by omega) (by omega) (by omega) (by omega) (fun k => by have q9 := h_ru_waiting k; omega)
  · skip
    have c18 := mt (fa_le _ _).mpr c18
    refine And.intro (t_in (by omega)) ?_
    intro v35 ev35
    have f36 := h_tx_signs tx_place.toNatClampNeg
    have hv35 := congrArg Int32.toInt ev35
    refine And.intro (fun c37 => ?_) (fun c37 => ?_)
    · skip
      have c37 := mt (fa_eq _ _).mpr c37
      refine And.intro (fun c38 => ?_) ?_
      · skip
        have c38 := (fa_eq _ _).mp c38
        refine And.intro (fun h9 => absurd h9 (by decide)) (fun _ => ?_)
        refine And.intro (fun _ => ?_) (fun h9 => absurd h9 (by decide))
        exact ts_X7_readBehindThing_85 tx_stop tx_signs h_tx_stop h_tx_signs hpost v35 3 tx_place ru_drafted ru_waits ru_open ru_compared ru_wantsThing ru_waiting ru_draft (by omega) (by omega) (by omega) (by omega) (by omega) (by omega) (by omega) (by omega) (fun k => by have q9 := h_ru_waiting k; omega)
      refine And.intro (fun c39 => ?_) ?_
      · skip
        have c39 := (fa_eq _ _).mp c39
        refine And.intro (fun h9 => absurd h9 (by decide)) (fun _ => ?_)
        refine And.intro (fun _ => ?_) (fun h9 => absurd h9 (by decide))
        exact ts_X7_readBehindThing_85 tx_stop tx_signs h_tx_stop h_tx_signs hpost v35 2 tx_place ru_drafted ru_waits ru_open ru_compared ru_wantsThing ru_waiting ru_draft (by omega) (by omega) (by omega) (by omega) (by omega) (by omega) (by omega) (by omega) (fun k => by have q9 := h_ru_waiting k; omega)
      refine And.intro (fun c40 => ?_) ?_
      · skip
        have c40 := (fa_eq _ _).mp c40
        refine And.intro (fun h9 => absurd h9 (by decide)) (fun _ => ?_)
        refine And.intro (fun _ => ?_) (fun h9 => absurd h9 (by decide))
        exact ts_X7_readBehindThing_85 tx_stop tx_signs h_tx_stop h_tx_signs hpost v35 2 tx_place ru_drafted ru_waits ru_open ru_compared ru_wantsThing ru_waiting ru_draft (by omega) (by omega) (by omega) (by omega) (by omega) (by omega) (by omega) (by omega) (fun k => by have q9 := h_ru_waiting k; omega)
      refine And.intro (fun c41 => ?_) ?_
      · skip
        have c41 := (fa_eq _ _).mp c41
        refine And.intro (fun h9 => absurd h9 (by decide)) (fun _ => ?_)
        refine And.intro (fun _ => ?_) (fun h9 => absurd h9 (by decide))
        exact ts_X7_readBehindThing_85 tx_stop tx_signs h_tx_stop h_tx_signs hpost v35 3 tx_place ru_drafted ru_waits ru_open ru_compared ru_wantsThing ru_waiting ru_draft (by omega) (by omega) (by omega) (by omega) (by omega) (by omega) (by omega) (by omega) (fun k => by have q9 := h_ru_waiting k; omega)
      refine And.intro (fun c42 => ?_) ?_
      · skip
        have c42 := (fa_eq _ _).mp c42
        refine And.intro (fun h9 => absurd h9 (by decide)) (fun _ => ?_)
        refine And.intro (fun h9 => absurd h9 (by decide)) (fun _ => ?_)
        intro v43 ev43
        have f44 := ti_shr ru_compared ru_open (by omega)
        have hv43 := congrArg Int32.toInt ev43
        have f46 := ti_andr v43 1 (by omega)
        have f47 := ti_andl v43 1 (by omega)
        refine And.intro (fun c45 => ?_) (fun c45 => ?_)
        · skip
          have c45 := (fa_eq _ _).mp c45
          exact ts_X7_readBehindThing_85 tx_stop tx_signs h_tx_stop h_tx_signs hpost v35 1 tx_place ru_drafted ru_waits ru_open ru_compared ru_wantsThing ru_waiting ru_draft (by omega) (by omega) (by omega) (by omega) (by omega) (by omega) (by omega) (by omega) (fun k => by have q9 := h_ru_waiting k; omega)
        · skip
          have c45 := mt (fa_eq _ _).mpr c45
          exact hpost _ _ _ _ _ _ _ _ _ (by omega) (by omega) (by omega) (by omega) (by omega) (by omega) (by omega) (fun k => by have q9 := h_ru_waiting k; omega)
      refine And.intro (fun c48 => ?_) ?_
      · skip
        have c48 := (fa_eq _ _).mp c48
        refine And.intro (fun h9 => absurd h9 (by decide)) (fun _ => ?_)
        refine And.intro (fun h9 => absurd h9 (by decide)) (fun _ => ?_)
        intro v49 ev49
        have f50 := ti_shr ru_compared ru_open (by omega)
        have hv49 := congrArg Int32.toInt ev49
        have f52 := ti_andr v49 1 (by omega)
        have f53 := ti_andl v49 1 (by omega)
        refine And.intro (fun c51 => ?_) (fun c51 => ?_)
        · skip
          have c51 := (fa_eq _ _).mp c51
          exact ts_X7_readBehindThing_85 tx_stop tx_signs h_tx_stop h_tx_signs hpost v35 1 tx_place ru_drafted ru_waits ru_open ru_compared ru_wantsThing ru_waiting ru_draft (by omega) (by omega) (by omega) (by omega) (by omega) (by omega) (by omega) (by omega) (fun k => by have q9 := h_ru_waiting k; omega)
        · skip
          have c51 := mt (fa_eq _ _).mpr c51
          exact hpost _ _ _ _ _ _ _ _ _ (by omega) (by omega) (by omega) (by omega) (by omega) (by omega) (by omega) (fun k => by have q9 := h_ru_waiting k; omega)
      refine And.intro (fun c54 => ?_) ?_
      · skip
        have c54 := (fa_eq _ _).mp c54
        refine And.intro (fun h9 => absurd h9 (by decide)) (fun _ => ?_)
        refine And.intro (fun h9 => absurd h9 (by decide)) (fun _ => ?_)
        intro v55 ev55
        have f56 := ti_shr ru_compared ru_open (by omega)
        have hv55 := congrArg Int32.toInt ev55
        have f58 := ti_andr v55 1 (by omega)
        have f59 := ti_andl v55 1 (by omega)
        refine And.intro (fun c57 => ?_) (fun c57 => ?_)
        · skip
          have c57 := (fa_eq _ _).mp c57
          exact ts_X7_readBehindThing_85 tx_stop tx_signs h_tx_stop h_tx_signs hpost v35 1 tx_place ru_drafted ru_waits ru_open ru_compared ru_wantsThing ru_waiting ru_draft (by omega) (by omega) (by omega) (by omega) (by omega) (by omega) (by omega) (by omega) (fun k => by have q9 := h_ru_waiting k; omega)
        · skip
          have c57 := mt (fa_eq _ _).mpr c57
          exact hpost _ _ _ _ _ _ _ _ _ (by omega) (by omega) (by omega) (by omega) (by omega) (by omega) (by omega) (fun k => by have q9 := h_ru_waiting k; omega)
      refine And.intro (fun c60 => ?_) ?_
      · skip
        have c60 := (fa_eq _ _).mp c60
        refine And.intro (fun h9 => absurd h9 (by decide)) (fun _ => ?_)
        refine And.intro (fun _ => ?_) (fun h9 => absurd h9 (by decide))
        exact ts_X7_readBehindThing_85 tx_stop tx_signs h_tx_stop h_tx_signs hpost v35 4 tx_place ru_drafted ru_waits ru_open ru_compared ru_wantsThing ru_waiting ru_draft (by omega) (by omega) (by omega) (by omega) (by omega) (by omega) (by omega) (by omega) (fun k => by have q9 := h_ru_waiting k; omega)
      intro c61 c62 c63 c64 c65 c66 c67 c68
      have c61 := mt (fa_eq _ _).mpr c61
      have c62 := mt (fa_eq _ _).mpr c62
      have c63 := mt (fa_eq _ _).mpr c63
      have c64 := mt (fa_eq _ _).mpr c64
      have c65 := mt (fa_eq _ _).mpr c65
      have c66 := mt (fa_eq _ _).mpr c66
      have c67 := mt (fa_eq _ _).mpr c67
      have c68 := mt (fa_eq _ _).mpr c68
      refine And.intro (fun _ => ?_) (fun h9 => absurd h9 (by decide))
      exact hpost _ _ _ _ _ _ _ _ _ (by omega) (by omega) (by omega) (by omega) (by omega) (by omega) (by omega) (fun k => by have q9 := h_ru_waiting k; omega)
    · skip
      have c37 := (fa_eq _ _).mp c37
      refine And.intro (fun c69 => ?_) (fun c69 => ?_)
      · skip
        have c69 := mt (fa_eq _ _).mpr c69
        refine t_X7_settle (by omega) (by omega) (by omega) (fun k => by have q9 := h_ru_waiting k; omega) (fun ru_drafted_70 ru_waits_71 ru_draft_72 h_ru_drafted_70 h_ru_waits_71 => ?_)
        intro v73 ev73
        have f74 : Int32.toInt (ru_waits_71 - 1) = Int32.toInt ru_waits_71 - Int32.toInt (1 : Int32) := ta_sub _ _ (by omega)
        rw [← ev73] at f74
        intro v75 ev75
        have f76 := ti_max (0 : Int32) v73
        have hv75 := congrArg Int32.toInt ev75
        intro v77 ev77
        have f78 : Int32.toInt (ru_open - 1) = Int32.toInt ru_open - Int32.toInt (1 : Int32) := ta_sub _ _ (by omega)
        rw [← ev77] at f78
        refine And.intro (fun c79 => ?_) (fun c79 => ?_)
        · skip
          have c79 := (fa_le _ _).mp c79
          exact hpost _ _ _ _ _ _ _ _ _ (by omega) (by omega) (by omega) (by omega) (by omega) (by omega) (by omega) (fun k => by have q9 := h_ru_waiting k; omega)
        · skip
          have c79 := mt (fa_le _ _).mpr c79
          intro v80 ev80
          have f81 : Int32.toInt (tx_place + 1) = Int32.toInt tx_place + Int32.toInt (1 : Int32) := ta_add _ _ (by omega)
          rw [← ev80] at f81
          exact hpost _ _ _ _ _ _ _ _ _ (by omega) (by omega) (by omega) (by omega) (by omega) (by omega) (by omega) (fun k => by have q9 := h_ru_waiting k; omega)
      · skip
        have c69 := (fa_eq _ _).mp c69
        exact hpost _ _ _ _ _ _ _ _ _ (by omega) (by omega) (by omega) (by omega) (by omega) (by omega) (by omega) (fun k => by have q9 := h_ru_waiting k; omega)
set_option maxHeartbeats 8000000 in
set_option maxRecDepth 200000 in
theorem ts_X7_read_75 {post : Int32 → Int32 → Int32 → Int32 → Int32 → Int32 → Int32 → Int32 → (Nat → Int32) → (Nat → Int32) → (Nat → Int32) → Prop} (tx_length : Int32) (tx_stop : Int32) (tx_signs : Nat → Int32) (h_tx_length : 1 ≤ Int32.toInt tx_length ∧ Int32.toInt tx_length ≤ 80) (h_tx_stop : 0 ≤ Int32.toInt tx_stop ∧ Int32.toInt tx_stop ≤ 40) (h_tx_signs : ∀ k : Nat, 0 ≤ Int32.toInt (tx_signs k) ∧ Int32.toInt (tx_signs k) ≤ 65535) (hpost : ∀ (r : Int32) (tx_place' : Int32) (ru_length' : Int32) (ru_drafted' : Int32) (ru_waits' : Int32) (ru_open' : Int32) (ru_compared' : Int32) (ru_wantsThing' : Int32) (ru_waiting' : Nat → Int32) (ru_program' : Nat → Int32) (ru_draft' : Nat → Int32), (0 ≤ Int32.toInt r ∧ Int32.toInt r ≤ 1) → (0 ≤ Int32.toInt tx_place' ∧ Int32.toInt tx_place' ≤ 80) → (0 ≤ Int32.toInt ru_length' ∧ Int32.toInt ru_length' ≤ 40) → (0 ≤ Int32.toInt ru_drafted' ∧ Int32.toInt ru_drafted' ≤ 40) → (0 ≤ Int32.toInt ru_waits' ∧ Int32.toInt ru_waits' ≤ 40) → (0 ≤ Int32.toInt ru_open' ∧ Int32.toInt ru_open' ≤ 4) → (0 ≤ Int32.toInt ru_compared' ∧ Int32.toInt ru_compared' ≤ 31) → (0 ≤ Int32.toInt ru_wantsThing' ∧ Int32.toInt ru_wantsThing' ≤ 1) → (∀ k : Nat, 0 ≤ Int32.toInt (ru_waiting' k) ∧ Int32.toInt (ru_waiting' k) ≤ 256) → post r tx_place' ru_length' ru_drafted' ru_waits' ru_open' ru_compared' ru_wantsThing' ru_waiting' ru_program' ru_draft') (tx_place : Int32) (ru_length : Int32) (ru_drafted : Int32) (ru_waits : Int32) (ru_open : Int32) (ru_compared : Int32) (ru_wantsThing : Int32) (ru_waiting : Nat → Int32) (ru_program : Nat → Int32) (ru_draft : Nat → Int32) (h_tx_place : 0 ≤ Int32.toInt tx_place ∧ Int32.toInt tx_place ≤ 80) (h_ru_length : 0 ≤ Int32.toInt ru_length ∧ Int32.toInt ru_length ≤ 40) (h_ru_drafted : 0 ≤ Int32.toInt ru_drafted ∧ Int32.toInt ru_drafted ≤ 40) (h_ru_waits : 0 ≤ Int32.toInt ru_waits ∧ Int32.toInt ru_waits ≤ 40) (h_ru_open : 0 ≤ Int32.toInt ru_open ∧ Int32.toInt ru_open ≤ 4) (h_ru_compared : 0 ≤ Int32.toInt ru_compared ∧ Int32.toInt ru_compared ≤ 31) (h_ru_wantsThing : 0 ≤ Int32.toInt ru_wantsThing ∧ Int32.toInt ru_wantsThing ≤ 1) (h_ru_waiting : ∀ k : Nat, 0 ≤ Int32.toInt (ru_waiting k) ∧ Int32.toInt (ru_waiting k) ≤ 256) : ws_X7_read_75 post tx_length tx_stop tx_signs tx_place ru_length ru_drafted ru_waits ru_open ru_compared ru_wantsThing ru_waiting ru_program ru_draft := by
  have l0 : Int32.toInt (0 : Int32) = 0 := (by decide)
  have l1 : Int32.toInt (1 : Int32) = 1 := (by decide)
  refine And.intro (fun c1 => ?_) (fun c1 => ?_)
  · skip
    have c1 := mt (fa_eq _ _).mpr c1
    exact hpost _ _ _ _ _ _ _ _ _ _ _ (by omega) (by omega) (by omega) (by omega) (by omega) (by omega) (by omega) (by omega) (fun k => by have q9 := h_ru_waiting k; omega)
  · skip
    have c1 := (fa_eq _ _).mp c1
    refine And.intro (fun c2 => ?_) (fun c2 => ?_)
    · skip
      have c2 := (fa_lt _ _).mp c2
      exact hpost _ _ _ _ _ _ _ _ _ _ _ (by omega) (by omega) (by omega) (by omega) (by omega) (by omega) (by omega) (by omega) (fun k => by have q9 := h_ru_waiting k; omega)
    · skip
      have c2 := mt (fa_lt _ _).mpr c2
      refine And.intro (fun c3 => ?_) (fun c3 => ?_)
      · skip
        have c3 := mt (fa_eq _ _).mpr c3
        refine And.intro (fun h9 => absurd h9 (by decide)) (fun _ => ?_)
        exact hpost _ _ _ _ _ _ _ _ _ _ _ (by omega) (by omega) (by omega) (by omega) (by omega) (by omega) (by omega) (by omega) (fun k => by have q9 := h_ru_waiting k; omega)
      · skip
        have c3 := (fa_eq _ _).mp c3
        refine And.intro (fun _ => ?_) (fun h9 => absurd h9 (by decide))
        refine t_X7_settle (by omega) (by omega) (by omega) (fun k => by have q9 := h_ru_waiting k; omega) (fun ru_drafted_4 ru_waits_5 ru_draft_6 h_ru_drafted_4 h_ru_waits_5 => ?_)
        exact hpost _ _ _ _ _ _ _ _ _ _ _ (by omega) (by omega) (by omega) (by omega) (by omega) (by omega) (by omega) (by omega) (fun k => by have q9 := h_ru_waiting k; omega)
set_option maxHeartbeats 8000000 in
set_option maxRecDepth 200000 in
theorem ts_X7_read_69 {post : Int32 → Int32 → Int32 → Int32 → Int32 → Int32 → Int32 → Int32 → (Nat → Int32) → (Nat → Int32) → (Nat → Int32) → Prop} {K27 : Int32 → Int32 → Int32 → Int32 → Int32 → Int32 → Int32 → Int32 → (Nat → Int32) → (Nat → Int32) → (Nat → Int32) → Prop} {n27 : Int} (tx_length : Int32) (tx_stop : Int32) (tx_signs : Nat → Int32) (h_tx_length : 1 ≤ Int32.toInt tx_length ∧ Int32.toInt tx_length ≤ 80) (h_tx_stop : 0 ≤ Int32.toInt tx_stop ∧ Int32.toInt tx_stop ≤ 40) (h_tx_signs : ∀ k : Nat, 0 ≤ Int32.toInt (tx_signs k) ∧ Int32.toInt (tx_signs k) ≤ 65535) (hpost : ∀ (r : Int32) (tx_place' : Int32) (ru_length' : Int32) (ru_drafted' : Int32) (ru_waits' : Int32) (ru_open' : Int32) (ru_compared' : Int32) (ru_wantsThing' : Int32) (ru_waiting' : Nat → Int32) (ru_program' : Nat → Int32) (ru_draft' : Nat → Int32), (0 ≤ Int32.toInt r ∧ Int32.toInt r ≤ 1) → (0 ≤ Int32.toInt tx_place' ∧ Int32.toInt tx_place' ≤ 80) → (0 ≤ Int32.toInt ru_length' ∧ Int32.toInt ru_length' ≤ 40) → (0 ≤ Int32.toInt ru_drafted' ∧ Int32.toInt ru_drafted' ≤ 40) → (0 ≤ Int32.toInt ru_waits' ∧ Int32.toInt ru_waits' ≤ 40) → (0 ≤ Int32.toInt ru_open' ∧ Int32.toInt ru_open' ≤ 4) → (0 ≤ Int32.toInt ru_compared' ∧ Int32.toInt ru_compared' ≤ 31) → (0 ≤ Int32.toInt ru_wantsThing' ∧ Int32.toInt ru_wantsThing' ≤ 1) → (∀ k : Nat, 0 ≤ Int32.toInt (ru_waiting' k) ∧ Int32.toInt (ru_waiting' k) ≤ 256) → post r tx_place' ru_length' ru_drafted' ru_waits' ru_open' ru_compared' ru_wantsThing' ru_waiting' ru_program' ru_draft') (hK27 : ∀ (x2 : Int32) (tx_place : Int32) (ru_length : Int32) (ru_drafted : Int32) (ru_waits : Int32) (ru_open : Int32) (ru_compared : Int32) (ru_wantsThing : Int32) (ru_waiting : Nat → Int32) (ru_program : Nat → Int32) (ru_draft : Nat → Int32), (0 ≤ Int32.toInt x2 ∧ Int32.toInt x2 ≤ 48) → (0 ≤ Int32.toInt tx_place ∧ Int32.toInt tx_place ≤ 80) → (0 ≤ Int32.toInt ru_length ∧ Int32.toInt ru_length ≤ 40) → (0 ≤ Int32.toInt ru_drafted ∧ Int32.toInt ru_drafted ≤ 40) → (0 ≤ Int32.toInt ru_waits ∧ Int32.toInt ru_waits ≤ 40) → (0 ≤ Int32.toInt ru_open ∧ Int32.toInt ru_open ≤ 4) → (0 ≤ Int32.toInt ru_compared ∧ Int32.toInt ru_compared ≤ 31) → (0 ≤ Int32.toInt ru_wantsThing ∧ Int32.toInt ru_wantsThing ≤ 1) → (∀ k : Nat, 0 ≤ Int32.toInt (ru_waiting k) ∧ Int32.toInt (ru_waiting k) ≤ 256) → (48 - Int32.toInt x2 < n27) → K27 x2 tx_place ru_length ru_drafted ru_waits ru_open ru_compared ru_wantsThing ru_waiting ru_program ru_draft) (x2 : Int32) (tx_place : Int32) (ru_length : Int32) (ru_drafted : Int32) (ru_waits : Int32) (ru_open : Int32) (ru_compared : Int32) (ru_wantsThing : Int32) (ru_waiting : Nat → Int32) (ru_program : Nat → Int32) (ru_draft : Nat → Int32) (h_x2 : 0 ≤ Int32.toInt x2 ∧ Int32.toInt x2 ≤ 40) (h_tx_place : 0 ≤ Int32.toInt tx_place ∧ Int32.toInt tx_place ≤ 80) (h_ru_length : 0 ≤ Int32.toInt ru_length ∧ Int32.toInt ru_length ≤ 40) (h_ru_drafted : 0 ≤ Int32.toInt ru_drafted ∧ Int32.toInt ru_drafted ≤ 40) (h_ru_waits : 0 ≤ Int32.toInt ru_waits ∧ Int32.toInt ru_waits ≤ 40) (h_ru_open : 0 ≤ Int32.toInt ru_open ∧ Int32.toInt ru_open ≤ 4) (h_ru_compared : 0 ≤ Int32.toInt ru_compared ∧ Int32.toInt ru_compared ≤ 31) (h_ru_wantsThing : 0 ≤ Int32.toInt ru_wantsThing ∧ Int32.toInt ru_wantsThing ≤ 1) (h_ru_waiting : ∀ k : Nat, 0 ≤ Int32.toInt (ru_waiting k) ∧ Int32.toInt (ru_waiting k) ≤ 256) (hn27 : 48 - Int32.toInt x2 ≤ n27) : ws_X7_read_69 post K27 tx_length tx_stop tx_signs x2 tx_place ru_length ru_drafted ru_waits ru_open ru_compared ru_wantsThing ru_waiting ru_program ru_draft := by
  have l0 : Int32.toInt (1 : Int32) = 1 := (by decide)
  intro v7 ev7
  have f8 : Int32.toInt (x2 + 1) = Int32.toInt x2 + Int32.toInt (1 : Int32) := ta_add _ _ (by omega)
  rw [← ev7] at f8
  exact hK27 v7 tx_place ru_length ru_drafted ru_waits ru_open ru_compared ru_wantsThing ru_waiting ru_program ru_draft (by omega) (by omega) (by omega) (by omega) (by omega) (by omega) (by omega) (by omega) (fun k => by have q9 := h_ru_waiting k; omega) (by omega)
set_option maxHeartbeats 8000000 in
set_option maxRecDepth 200000 in
theorem ts_X7_read_27 {post : Int32 → Int32 → Int32 → Int32 → Int32 → Int32 → Int32 → Int32 → (Nat → Int32) → (Nat → Int32) → (Nat → Int32) → Prop} {next : Int32 → Int32 → Int32 → Int32 → Int32 → Int32 → Int32 → Int32 → (Nat → Int32) → (Nat → Int32) → (Nat → Int32) → Prop} {n27 : Int} (tx_length : Int32) (tx_stop : Int32) (tx_signs : Nat → Int32) (h_tx_length : 1 ≤ Int32.toInt tx_length ∧ Int32.toInt tx_length ≤ 80) (h_tx_stop : 0 ≤ Int32.toInt tx_stop ∧ Int32.toInt tx_stop ≤ 40) (h_tx_signs : ∀ k : Nat, 0 ≤ Int32.toInt (tx_signs k) ∧ Int32.toInt (tx_signs k) ≤ 65535) (hpost : ∀ (r : Int32) (tx_place' : Int32) (ru_length' : Int32) (ru_drafted' : Int32) (ru_waits' : Int32) (ru_open' : Int32) (ru_compared' : Int32) (ru_wantsThing' : Int32) (ru_waiting' : Nat → Int32) (ru_program' : Nat → Int32) (ru_draft' : Nat → Int32), (0 ≤ Int32.toInt r ∧ Int32.toInt r ≤ 1) → (0 ≤ Int32.toInt tx_place' ∧ Int32.toInt tx_place' ≤ 80) → (0 ≤ Int32.toInt ru_length' ∧ Int32.toInt ru_length' ≤ 40) → (0 ≤ Int32.toInt ru_drafted' ∧ Int32.toInt ru_drafted' ≤ 40) → (0 ≤ Int32.toInt ru_waits' ∧ Int32.toInt ru_waits' ≤ 40) → (0 ≤ Int32.toInt ru_open' ∧ Int32.toInt ru_open' ≤ 4) → (0 ≤ Int32.toInt ru_compared' ∧ Int32.toInt ru_compared' ≤ 31) → (0 ≤ Int32.toInt ru_wantsThing' ∧ Int32.toInt ru_wantsThing' ≤ 1) → (∀ k : Nat, 0 ≤ Int32.toInt (ru_waiting' k) ∧ Int32.toInt (ru_waiting' k) ≤ 256) → post r tx_place' ru_length' ru_drafted' ru_waits' ru_open' ru_compared' ru_wantsThing' ru_waiting' ru_program' ru_draft') (hKn : ∀ (x2 : Int32) (tx_place : Int32) (ru_length : Int32) (ru_drafted : Int32) (ru_waits : Int32) (ru_open : Int32) (ru_compared : Int32) (ru_wantsThing : Int32) (ru_waiting : Nat → Int32) (ru_program : Nat → Int32) (ru_draft : Nat → Int32), (0 ≤ Int32.toInt x2 ∧ Int32.toInt x2 ≤ 48) → (0 ≤ Int32.toInt tx_place ∧ Int32.toInt tx_place ≤ 80) → (0 ≤ Int32.toInt ru_length ∧ Int32.toInt ru_length ≤ 40) → (0 ≤ Int32.toInt ru_drafted ∧ Int32.toInt ru_drafted ≤ 40) → (0 ≤ Int32.toInt ru_waits ∧ Int32.toInt ru_waits ≤ 40) → (0 ≤ Int32.toInt ru_open ∧ Int32.toInt ru_open ≤ 4) → (0 ≤ Int32.toInt ru_compared ∧ Int32.toInt ru_compared ≤ 31) → (0 ≤ Int32.toInt ru_wantsThing ∧ Int32.toInt ru_wantsThing ≤ 1) → (∀ k : Nat, 0 ≤ Int32.toInt (ru_waiting k) ∧ Int32.toInt (ru_waiting k) ≤ 256) → (48 - Int32.toInt x2 < n27) → next x2 tx_place ru_length ru_drafted ru_waits ru_open ru_compared ru_wantsThing ru_waiting ru_program ru_draft) (x2 : Int32) (tx_place : Int32) (ru_length : Int32) (ru_drafted : Int32) (ru_waits : Int32) (ru_open : Int32) (ru_compared : Int32) (ru_wantsThing : Int32) (ru_waiting : Nat → Int32) (ru_program : Nat → Int32) (ru_draft : Nat → Int32) (h_x2 : 0 ≤ Int32.toInt x2 ∧ Int32.toInt x2 ≤ 48) (h_tx_place : 0 ≤ Int32.toInt tx_place ∧ Int32.toInt tx_place ≤ 80) (h_ru_length : 0 ≤ Int32.toInt ru_length ∧ Int32.toInt ru_length ≤ 40) (h_ru_drafted : 0 ≤ Int32.toInt ru_drafted ∧ Int32.toInt ru_drafted ≤ 40) (h_ru_waits : 0 ≤ Int32.toInt ru_waits ∧ Int32.toInt ru_waits ≤ 40) (h_ru_open : 0 ≤ Int32.toInt ru_open ∧ Int32.toInt ru_open ≤ 4) (h_ru_compared : 0 ≤ Int32.toInt ru_compared ∧ Int32.toInt ru_compared ≤ 31) (h_ru_wantsThing : 0 ≤ Int32.toInt ru_wantsThing ∧ Int32.toInt ru_wantsThing ≤ 1) (h_ru_waiting : ∀ k : Nat, 0 ≤ Int32.toInt (ru_waiting k) ∧ Int32.toInt (ru_waiting k) ≤ 256) (hn27 : 48 - Int32.toInt x2 ≤ n27) : ws_X7_read_27 post next tx_length tx_stop tx_signs x2 tx_place ru_length ru_drafted ru_waits ru_open ru_compared ru_wantsThing ru_waiting ru_program ru_draft := by
  have l0 : Int32.toInt ((-1) : Int32) = -1 := (by decide)
  have l1 : Int32.toInt (0 : Int32) = 0 := (by decide)
  have l2 : Int32.toInt (40 : Int32) = 40 := (by decide)
  refine And.intro (fun c9 => ?_) (fun c9 => ?_)
  · skip
    have c9 := (fa_le _ _).mp c9
    exact ts_X7_read_75 tx_length tx_stop tx_signs h_tx_length h_tx_stop h_tx_signs hpost tx_place ru_length ru_drafted ru_waits ru_open ru_compared ru_wantsThing ru_waiting ru_program ru_draft (by omega) (by omega) (by omega) (by omega) (by omega) (by omega) (by omega) (fun k => by have q9 := h_ru_waiting k; omega)
  · skip
    have c9 := mt (fa_le _ _).mpr c9
    refine And.intro (fun c10 => ?_) (fun c10 => ?_)
    · skip
      have c10 := (fa_le _ _).mp c10
      refine And.intro (fun _ => ?_) (fun h9 => absurd h9 (by decide))
      exact ts_X7_read_75 tx_length tx_stop tx_signs h_tx_length h_tx_stop h_tx_signs hpost tx_place ru_length ru_drafted ru_waits ru_open ru_compared ru_wantsThing ru_waiting ru_program ru_draft (by omega) (by omega) (by omega) (by omega) (by omega) (by omega) (by omega) (fun k => by have q9 := h_ru_waiting k; omega)
    · skip
      have c10 := mt (fa_le _ _).mpr c10
      refine And.intro (t_in (by omega)) ?_
      intro v11 ev11
      have f12 := h_tx_signs tx_place.toNatClampNeg
      have hv11 := congrArg Int32.toInt ev11
      refine And.intro (fun c13 => ?_) (fun c13 => ?_)
      · skip
        have c13 := (fa_eq _ _).mp c13
        exfalso; omega
      · skip
        have c13 := mt (fa_eq _ _).mpr c13
        refine And.intro (fun c14 => ?_) (fun c14 => ?_)
        · skip
          have c14 := (fa_eq _ _).mp c14
          refine t_X7_readBehindThing (by omega) (by omega) (fun k => by have q9 := h_tx_signs k; omega) (by omega) (by omega) (by omega) (by omega) (by omega) (fun k => by have q9 := h_ru_waiting k; omega) (fun r23 tx_place_15 ru_drafted_16 ru_waits_17 ru_open_18 ru_compared_19 ru_wantsThing_20 ru_waiting_21 ru_draft_22 h_r23 h_tx_place_15 h_ru_drafted_16 h_ru_waits_17 h_ru_open_18 h_ru_compared_19 h_ru_wantsThing_20 h_ru_waiting_21 => ?_)
          refine And.intro (fun c24 => ?_) (fun c24 => ?_)
          · skip
            have c24 := mt (fa_eq _ _).mpr c24
            exact ts_X7_read_69 tx_length tx_stop tx_signs h_tx_length h_tx_stop h_tx_signs hpost hKn x2 tx_place_15 ru_length ru_drafted_16 ru_waits_17 ru_open_18 ru_compared_19 ru_wantsThing_20 ru_waiting_21 ru_program ru_draft_22 (by omega) (by omega) (by omega) (by omega) (by omega) (by omega) (by omega) (by omega) (fun k => by have q9 := h_ru_waiting_21 k; omega) (by omega)
          · skip
            have c24 := (fa_eq _ _).mp c24
            exact hpost _ _ _ _ _ _ _ _ _ _ _ (by omega) (by omega) (by omega) (by omega) (by omega) (by omega) (by omega) (by omega) (fun k => by have q9 := h_ru_waiting_21 k; omega)
        · skip
          have c14 := mt (fa_eq _ _).mpr c14
          refine t_X7_readThing (by omega) (by omega) (fun k => by have q9 := h_tx_signs k; omega) (by omega) (by omega) (by omega) (by omega) (by omega) (fun k => by have q9 := h_ru_waiting k; omega) (fun r33 tx_place_25 ru_drafted_26 ru_waits_27 ru_open_28 ru_compared_29 ru_wantsThing_30 ru_waiting_31 ru_draft_32 h_r33 h_tx_place_25 h_ru_drafted_26 h_ru_waits_27 h_ru_open_28 h_ru_compared_29 h_ru_wantsThing_30 h_ru_waiting_31 => ?_)
          refine And.intro (fun c34 => ?_) (fun c34 => ?_)
          · skip
            have c34 := (fa_eq _ _).mp c34
            exact hpost _ _ _ _ _ _ _ _ _ _ _ (by omega) (by omega) (by omega) (by omega) (by omega) (by omega) (by omega) (by omega) (fun k => by have q9 := h_ru_waiting_31 k; omega)
          · skip
            have c34 := mt (fa_eq _ _).mpr c34
            exact ts_X7_read_69 tx_length tx_stop tx_signs h_tx_length h_tx_stop h_tx_signs hpost hKn x2 tx_place_25 ru_length ru_drafted_26 ru_waits_27 ru_open_28 ru_compared_29 ru_wantsThing_30 ru_waiting_31 ru_program ru_draft_32 (by omega) (by omega) (by omega) (by omega) (by omega) (by omega) (by omega) (by omega) (fun k => by have q9 := h_ru_waiting_31 k; omega) (by omega)
set_option maxHeartbeats 8000000 in
set_option maxRecDepth 200000 in
theorem tb_X7_read_27 {post : Int32 → Int32 → Int32 → Int32 → Int32 → Int32 → Int32 → Int32 → (Nat → Int32) → (Nat → Int32) → (Nat → Int32) → Prop} (tx_length : Int32) (tx_stop : Int32) (tx_signs : Nat → Int32) (h_tx_length : 1 ≤ Int32.toInt tx_length ∧ Int32.toInt tx_length ≤ 80) (h_tx_stop : 0 ≤ Int32.toInt tx_stop ∧ Int32.toInt tx_stop ≤ 40) (h_tx_signs : ∀ k : Nat, 0 ≤ Int32.toInt (tx_signs k) ∧ Int32.toInt (tx_signs k) ≤ 65535) (hpost : ∀ (r : Int32) (tx_place' : Int32) (ru_length' : Int32) (ru_drafted' : Int32) (ru_waits' : Int32) (ru_open' : Int32) (ru_compared' : Int32) (ru_wantsThing' : Int32) (ru_waiting' : Nat → Int32) (ru_program' : Nat → Int32) (ru_draft' : Nat → Int32), (0 ≤ Int32.toInt r ∧ Int32.toInt r ≤ 1) → (0 ≤ Int32.toInt tx_place' ∧ Int32.toInt tx_place' ≤ 80) → (0 ≤ Int32.toInt ru_length' ∧ Int32.toInt ru_length' ≤ 40) → (0 ≤ Int32.toInt ru_drafted' ∧ Int32.toInt ru_drafted' ≤ 40) → (0 ≤ Int32.toInt ru_waits' ∧ Int32.toInt ru_waits' ≤ 40) → (0 ≤ Int32.toInt ru_open' ∧ Int32.toInt ru_open' ≤ 4) → (0 ≤ Int32.toInt ru_compared' ∧ Int32.toInt ru_compared' ≤ 31) → (0 ≤ Int32.toInt ru_wantsThing' ∧ Int32.toInt ru_wantsThing' ≤ 1) → (∀ k : Nat, 0 ≤ Int32.toInt (ru_waiting' k) ∧ Int32.toInt (ru_waiting' k) ≤ 256) → post r tx_place' ru_length' ru_drafted' ru_waits' ru_open' ru_compared' ru_wantsThing' ru_waiting' ru_program' ru_draft') : ∀ (n : Nat) (x2 : Int32) (tx_place : Int32) (ru_length : Int32) (ru_drafted : Int32) (ru_waits : Int32) (ru_open : Int32) (ru_compared : Int32) (ru_wantsThing : Int32) (ru_waiting : Nat → Int32) (ru_program : Nat → Int32) (ru_draft : Nat → Int32), (0 ≤ Int32.toInt x2 ∧ Int32.toInt x2 ≤ 48) → (0 ≤ Int32.toInt tx_place ∧ Int32.toInt tx_place ≤ 80) → (0 ≤ Int32.toInt ru_length ∧ Int32.toInt ru_length ≤ 40) → (0 ≤ Int32.toInt ru_drafted ∧ Int32.toInt ru_drafted ≤ 40) → (0 ≤ Int32.toInt ru_waits ∧ Int32.toInt ru_waits ≤ 40) → (0 ≤ Int32.toInt ru_open ∧ Int32.toInt ru_open ≤ 4) → (0 ≤ Int32.toInt ru_compared ∧ Int32.toInt ru_compared ≤ 31) → (0 ≤ Int32.toInt ru_wantsThing ∧ Int32.toInt ru_wantsThing ≤ 1) → (∀ k : Nat, 0 ≤ Int32.toInt (ru_waiting k) ∧ Int32.toInt (ru_waiting k) ≤ 256) → (48 - Int32.toInt x2 < (n : Int)) → wb_X7_read_27 post tx_length tx_stop tx_signs n x2 tx_place ru_length ru_drafted ru_waits ru_open ru_compared ru_wantsThing ru_waiting ru_program ru_draft := by
  intro n
  induction n with
  | zero =>
    intro x2 tx_place ru_length ru_drafted ru_waits ru_open ru_compared ru_wantsThing ru_waiting ru_program ru_draft h_x2 h_tx_place h_ru_length h_ru_drafted h_ru_waits h_ru_open h_ru_compared h_ru_wantsThing h_ru_waiting hm
    exfalso; omega
  | succ n ih =>
    intro x2 tx_place ru_length ru_drafted ru_waits ru_open ru_compared ru_wantsThing ru_waiting ru_program ru_draft h_x2 h_tx_place h_ru_length h_ru_drafted h_ru_waits h_ru_open h_ru_compared h_ru_wantsThing h_ru_waiting hm
    exact ts_X7_read_27 tx_length tx_stop tx_signs h_tx_length h_tx_stop h_tx_signs hpost ih x2 tx_place ru_length ru_drafted ru_waits ru_open ru_compared ru_wantsThing ru_waiting ru_program ru_draft h_x2 h_tx_place h_ru_length h_ru_drafted h_ru_waits h_ru_open h_ru_compared h_ru_wantsThing h_ru_waiting (by omega)
set_option maxHeartbeats 8000000 in
set_option maxRecDepth 200000 in
theorem t_X7_read {post : Int32 → Int32 → Int32 → Int32 → Int32 → Int32 → Int32 → Int32 → (Nat → Int32) → (Nat → Int32) → (Nat → Int32) → Prop} {tx_length : Int32} {tx_place : Int32} {tx_stop : Int32} {tx_signs : Nat → Int32} {ru_length : Int32} {ru_drafted : Int32} {ru_waits : Int32} {ru_open : Int32} {ru_compared : Int32} {ru_wantsThing : Int32} {ru_waiting : Nat → Int32} {ru_program : Nat → Int32} {ru_draft : Nat → Int32} (h_tx_length : 1 ≤ Int32.toInt tx_length ∧ Int32.toInt tx_length ≤ 80) (h_tx_place : 0 ≤ Int32.toInt tx_place ∧ Int32.toInt tx_place ≤ 0) (h_tx_stop : 0 ≤ Int32.toInt tx_stop ∧ Int32.toInt tx_stop ≤ 40) (h_tx_signs : ∀ k : Nat, 0 ≤ Int32.toInt (tx_signs k) ∧ Int32.toInt (tx_signs k) ≤ 65535) (h_ru_length : 0 ≤ Int32.toInt ru_length ∧ Int32.toInt ru_length ≤ 40) (h_ru_drafted : 0 ≤ Int32.toInt ru_drafted ∧ Int32.toInt ru_drafted ≤ 40) (h_ru_waits : 0 ≤ Int32.toInt ru_waits ∧ Int32.toInt ru_waits ≤ 40) (h_ru_open : 0 ≤ Int32.toInt ru_open ∧ Int32.toInt ru_open ≤ 4) (h_ru_compared : 0 ≤ Int32.toInt ru_compared ∧ Int32.toInt ru_compared ≤ 31) (h_ru_wantsThing : 0 ≤ Int32.toInt ru_wantsThing ∧ Int32.toInt ru_wantsThing ≤ 1) (h_ru_waiting : ∀ k : Nat, 0 ≤ Int32.toInt (ru_waiting k) ∧ Int32.toInt (ru_waiting k) ≤ 256) (hpost : ∀ (r : Int32) (tx_place' : Int32) (ru_length' : Int32) (ru_drafted' : Int32) (ru_waits' : Int32) (ru_open' : Int32) (ru_compared' : Int32) (ru_wantsThing' : Int32) (ru_waiting' : Nat → Int32) (ru_program' : Nat → Int32) (ru_draft' : Nat → Int32), (0 ≤ Int32.toInt r ∧ Int32.toInt r ≤ 1) → (0 ≤ Int32.toInt tx_place' ∧ Int32.toInt tx_place' ≤ 80) → (0 ≤ Int32.toInt ru_length' ∧ Int32.toInt ru_length' ≤ 40) → (0 ≤ Int32.toInt ru_drafted' ∧ Int32.toInt ru_drafted' ≤ 40) → (0 ≤ Int32.toInt ru_waits' ∧ Int32.toInt ru_waits' ≤ 40) → (0 ≤ Int32.toInt ru_open' ∧ Int32.toInt ru_open' ≤ 4) → (0 ≤ Int32.toInt ru_compared' ∧ Int32.toInt ru_compared' ≤ 31) → (0 ≤ Int32.toInt ru_wantsThing' ∧ Int32.toInt ru_wantsThing' ≤ 1) → (∀ k : Nat, 0 ≤ Int32.toInt (ru_waiting' k) ∧ Int32.toInt (ru_waiting' k) ≤ 256) → post r tx_place' ru_length' ru_drafted' ru_waits' ru_open' ru_compared' ru_wantsThing' ru_waiting' ru_program' ru_draft') : wp_X7_read post tx_length tx_place tx_stop tx_signs ru_length ru_drafted ru_waits ru_open ru_compared ru_wantsThing ru_waiting ru_program ru_draft := by
  have l0 : Int32.toInt (0 : Int32) = 0 := (by decide)
  have l1 : Int32.toInt (1 : Int32) = 1 := (by decide)
  exact ⟨50, tb_X7_read_27 tx_length tx_stop tx_signs h_tx_length h_tx_stop h_tx_signs hpost _ 0 tx_place ru_length 0 0 0 0 1 ru_waiting ru_program ru_draft (by omega) (by omega) (by omega) (by omega) (by omega) (by omega) (by omega) (by omega) (fun k => by have q9 := h_ru_waiting k; omega) (by omega)⟩
set_option maxHeartbeats 8000000 in
set_option maxRecDepth 200000 in
theorem ts_X9_rule_59 {post : Int32 → Int32 → Int32 → Int32 → Int32 → Int32 → Int32 → Int32 → Int32 → Int32 → (Nat → Int32) → (Nat → Int32) → (Nat → Int32) → Prop} (tx_signs : Nat → Int32) (h_tx_signs : ∀ k : Nat, 0 ≤ Int32.toInt (tx_signs k) ∧ Int32.toInt (tx_signs k) ≤ 65535) (hpost : ∀ (r : Int32) (tx_length' : Int32) (tx_place' : Int32) (tx_stop' : Int32) (ru_length' : Int32) (ru_drafted' : Int32) (ru_waits' : Int32) (ru_open' : Int32) (ru_compared' : Int32) (ru_wantsThing' : Int32) (ru_waiting' : Nat → Int32) (ru_program' : Nat → Int32) (ru_draft' : Nat → Int32), (-100 ≤ Int32.toInt r ∧ Int32.toInt r ≤ 0) → (0 ≤ Int32.toInt tx_length' ∧ Int32.toInt tx_length' ≤ 0) → (0 ≤ Int32.toInt tx_place' ∧ Int32.toInt tx_place' ≤ 80) → (0 ≤ Int32.toInt tx_stop' ∧ Int32.toInt tx_stop' ≤ 40) → (0 ≤ Int32.toInt ru_length' ∧ Int32.toInt ru_length' ≤ 40) → (0 ≤ Int32.toInt ru_drafted' ∧ Int32.toInt ru_drafted' ≤ 40) → (0 ≤ Int32.toInt ru_waits' ∧ Int32.toInt ru_waits' ≤ 40) → (0 ≤ Int32.toInt ru_open' ∧ Int32.toInt ru_open' ≤ 4) → (0 ≤ Int32.toInt ru_compared' ∧ Int32.toInt ru_compared' ≤ 31) → (0 ≤ Int32.toInt ru_wantsThing' ∧ Int32.toInt ru_wantsThing' ≤ 1) → (∀ k : Nat, 0 ≤ Int32.toInt (ru_waiting' k) ∧ Int32.toInt (ru_waiting' k) ≤ 256) → post r tx_length' tx_place' tx_stop' ru_length' ru_drafted' ru_waits' ru_open' ru_compared' ru_wantsThing' ru_waiting' ru_program' ru_draft') (x1 : Int32) (tx_length : Int32) (tx_place : Int32) (tx_stop : Int32) (ru_length : Int32) (ru_drafted : Int32) (ru_waits : Int32) (ru_open : Int32) (ru_compared : Int32) (ru_wantsThing : Int32) (ru_waiting : Nat → Int32) (ru_program : Nat → Int32) (ru_draft : Nat → Int32) (h_x1 : -100 ≤ Int32.toInt x1 ∧ Int32.toInt x1 ≤ 0) (h_tx_length : 0 ≤ Int32.toInt tx_length ∧ Int32.toInt tx_length ≤ 80) (h_tx_place : 0 ≤ Int32.toInt tx_place ∧ Int32.toInt tx_place ≤ 80) (h_tx_stop : 0 ≤ Int32.toInt tx_stop ∧ Int32.toInt tx_stop ≤ 40) (h_ru_length : 0 ≤ Int32.toInt ru_length ∧ Int32.toInt ru_length ≤ 40) (h_ru_drafted : 0 ≤ Int32.toInt ru_drafted ∧ Int32.toInt ru_drafted ≤ 40) (h_ru_waits : 0 ≤ Int32.toInt ru_waits ∧ Int32.toInt ru_waits ≤ 40) (h_ru_open : 0 ≤ Int32.toInt ru_open ∧ Int32.toInt ru_open ≤ 4) (h_ru_compared : 0 ≤ Int32.toInt ru_compared ∧ Int32.toInt ru_compared ≤ 31) (h_ru_wantsThing : 0 ≤ Int32.toInt ru_wantsThing ∧ Int32.toInt ru_wantsThing ≤ 1) (h_ru_waiting : ∀ k : Nat, 0 ≤ Int32.toInt (ru_waiting k) ∧ Int32.toInt (ru_waiting k) ≤ 256) : ws_X9_rule_59 post tx_signs x1 tx_length tx_place tx_stop ru_length ru_drafted ru_waits ru_open ru_compared ru_wantsThing ru_waiting ru_program ru_draft := by
  have l0 : Int32.toInt (0 : Int32) = 0 := (by decide)
  exact hpost _ _ _ _ _ _ _ _ _ _ _ _ _ (by omega) (by omega) (by omega) (by omega) (by omega) (by omega) (by omega) (by omega) (by omega) (by omega) (fun k => by have q9 := h_ru_waiting k; omega)
set_option maxHeartbeats 8000000 in
set_option maxRecDepth 200000 in
theorem t_X9_rule {post : Int32 → Int32 → Int32 → Int32 → Int32 → Int32 → Int32 → Int32 → Int32 → Int32 → (Nat → Int32) → (Nat → Int32) → (Nat → Int32) → Prop} {tx_length : Int32} {tx_place : Int32} {tx_stop : Int32} {tx_signs : Nat → Int32} {ru_length : Int32} {ru_drafted : Int32} {ru_waits : Int32} {ru_open : Int32} {ru_compared : Int32} {ru_wantsThing : Int32} {ru_waiting : Nat → Int32} {ru_program : Nat → Int32} {ru_draft : Nat → Int32} (h_tx_length : 0 ≤ Int32.toInt tx_length ∧ Int32.toInt tx_length ≤ 80) (h_tx_place : 0 ≤ Int32.toInt tx_place ∧ Int32.toInt tx_place ≤ 80) (h_tx_stop : 0 ≤ Int32.toInt tx_stop ∧ Int32.toInt tx_stop ≤ 80) (h_tx_signs : ∀ k : Nat, 0 ≤ Int32.toInt (tx_signs k) ∧ Int32.toInt (tx_signs k) ≤ 65535) (h_ru_length : 0 ≤ Int32.toInt ru_length ∧ Int32.toInt ru_length ≤ 40) (h_ru_drafted : 0 ≤ Int32.toInt ru_drafted ∧ Int32.toInt ru_drafted ≤ 40) (h_ru_waits : 0 ≤ Int32.toInt ru_waits ∧ Int32.toInt ru_waits ≤ 40) (h_ru_open : 0 ≤ Int32.toInt ru_open ∧ Int32.toInt ru_open ≤ 4) (h_ru_compared : 0 ≤ Int32.toInt ru_compared ∧ Int32.toInt ru_compared ≤ 31) (h_ru_wantsThing : 0 ≤ Int32.toInt ru_wantsThing ∧ Int32.toInt ru_wantsThing ≤ 1) (h_ru_waiting : ∀ k : Nat, 0 ≤ Int32.toInt (ru_waiting k) ∧ Int32.toInt (ru_waiting k) ≤ 256) (hpost : ∀ (r : Int32) (tx_length' : Int32) (tx_place' : Int32) (tx_stop' : Int32) (ru_length' : Int32) (ru_drafted' : Int32) (ru_waits' : Int32) (ru_open' : Int32) (ru_compared' : Int32) (ru_wantsThing' : Int32) (ru_waiting' : Nat → Int32) (ru_program' : Nat → Int32) (ru_draft' : Nat → Int32), (-100 ≤ Int32.toInt r ∧ Int32.toInt r ≤ 0) → (0 ≤ Int32.toInt tx_length' ∧ Int32.toInt tx_length' ≤ 0) → (0 ≤ Int32.toInt tx_place' ∧ Int32.toInt tx_place' ≤ 80) → (0 ≤ Int32.toInt tx_stop' ∧ Int32.toInt tx_stop' ≤ 40) → (0 ≤ Int32.toInt ru_length' ∧ Int32.toInt ru_length' ≤ 40) → (0 ≤ Int32.toInt ru_drafted' ∧ Int32.toInt ru_drafted' ≤ 40) → (0 ≤ Int32.toInt ru_waits' ∧ Int32.toInt ru_waits' ≤ 40) → (0 ≤ Int32.toInt ru_open' ∧ Int32.toInt ru_open' ≤ 4) → (0 ≤ Int32.toInt ru_compared' ∧ Int32.toInt ru_compared' ≤ 31) → (0 ≤ Int32.toInt ru_wantsThing' ∧ Int32.toInt ru_wantsThing' ≤ 1) → (∀ k : Nat, 0 ≤ Int32.toInt (ru_waiting' k) ∧ Int32.toInt (ru_waiting' k) ≤ 256) → post r tx_length' tx_place' tx_stop' ru_length' ru_drafted' ru_waits' ru_open' ru_compared' ru_wantsThing' ru_waiting' ru_program' ru_draft') : wp_X9_rule post tx_length tx_place tx_stop tx_signs ru_length ru_drafted ru_waits ru_open ru_compared ru_wantsThing ru_waiting ru_program ru_draft := by
  have l0 : Int32.toInt ((-1) : Int32) = -1 := (by decide)
  have l1 : Int32.toInt (0 : Int32) = 0 := (by decide)
  have l2 : Int32.toInt (40 : Int32) = 40 := (by decide)
  intro v1 ev1
  have f2 := ti_min tx_length (40 : Int32)
  have hv1 := congrArg Int32.toInt ev1
  refine And.intro (fun c3 => ?_) (fun c3 => ?_)
  · skip
    have c3 := mt (fa_eq _ _).mpr c3
    refine t_X7_read (by omega) (by omega) (by omega) (fun k => by have q9 := h_tx_signs k; omega) (by omega) (by omega) (by omega) (by omega) (by omega) (by omega) (fun k => by have q9 := h_ru_waiting k; omega) (fun r14 tx_place_4 ru_length_5 ru_drafted_6 ru_waits_7 ru_open_8 ru_compared_9 ru_wantsThing_10 ru_waiting_11 ru_program_12 ru_draft_13 h_r14 h_tx_place_4 h_ru_length_5 h_ru_drafted_6 h_ru_waits_7 h_ru_open_8 h_ru_compared_9 h_ru_wantsThing_10 h_ru_waiting_11 => ?_)
    refine And.intro (fun c15 => ?_) (fun c15 => ?_)
    · skip
      have c15 := mt (fa_eq _ _).mpr c15
      exact ts_X9_rule_59 tx_signs h_tx_signs hpost 0 tx_length tx_place_4 v1 ru_length_5 ru_drafted_6 ru_waits_7 ru_open_8 ru_compared_9 ru_wantsThing_10 ru_waiting_11 ru_program_12 ru_draft_13 (by omega) (by omega) (by omega) (by omega) (by omega) (by omega) (by omega) (by omega) (by omega) (by omega) (fun k => by have q9 := h_ru_waiting_11 k; omega)
    · skip
      have c15 := (fa_eq _ _).mp c15
      have f16 : Int32.toInt ((-1) - tx_place_4) = Int32.toInt ((-1) : Int32) - Int32.toInt tx_place_4 := ta_sub _ _ (by omega)
      obtain ⟨w17, ew17⟩ : ∃ w9 : Int32, w9 = (-1) - tx_place_4 := ⟨_, rfl⟩
      rw [← ew17] at f16
      have key9 := ts_X9_rule_59 tx_signs h_tx_signs hpost w17 tx_length tx_place_4 v1 ru_length_5 ru_drafted_6 ru_waits_7 ru_open_8 ru_compared_9 ru_wantsThing_10 ru_waiting_11 ru_program_12 ru_draft_13 (by omega) (by omega) (by omega) (by omega) (by omega) (by omega) (by omega) (by omega) (by omega) (by omega) (fun k => by have q9 := h_ru_waiting_11 k; omega)
      subst ew17
      exact key9
  · skip
    have c3 := (fa_eq _ _).mp c3
    exact ts_X9_rule_59 tx_signs h_tx_signs hpost 0 tx_length 0 v1 0 ru_drafted ru_waits ru_open ru_compared ru_wantsThing ru_waiting ru_program ru_draft (by omega) (by omega) (by omega) (by omega) (by omega) (by omega) (by omega) (by omega) (by omega) (by omega) (fun k => by have q9 := h_ru_waiting k; omega)
set_option maxHeartbeats 8000000 in
set_option maxRecDepth 200000 in
theorem ts_X3_lowerThan_89 {post : Int32 → Prop} {K15 : Int32 → Int32 → Int32 → Int32 → Prop} {n15 : Int} (tr_fruits : Int32) (tr_x : Nat → Int32) (tr_height : Nat → Int32) (h_tr_fruits : 1 ≤ Int32.toInt tr_fruits ∧ Int32.toInt tr_fruits ≤ 16) (hpost : ∀ (r : Int32) , (0 ≤ Int32.toInt r ∧ Int32.toInt r ≤ 65535) → post r) (hK15 : ∀ (x1 : Int32) (x2 : Int32) (x3 : Int32) (x4 : Int32), (0 ≤ Int32.toInt x1 ∧ Int32.toInt x1 ≤ 15) → (0 ≤ Int32.toInt x2 ∧ Int32.toInt x2 ≤ 65535) → (0 ≤ Int32.toInt x3 ∧ Int32.toInt x3 ≤ 65535) → (0 ≤ Int32.toInt x4 ∧ Int32.toInt x4 ≤ 16) → (16 - Int32.toInt x4 < n15) → K15 x1 x2 x3 x4) (x1 : Int32) (x2 : Int32) (x3 : Int32) (x4 : Int32) (h_x1 : 0 ≤ Int32.toInt x1 ∧ Int32.toInt x1 ≤ 15) (h_x2 : 0 ≤ Int32.toInt x2 ∧ Int32.toInt x2 ≤ 65535) (h_x3 : 0 ≤ Int32.toInt x3 ∧ Int32.toInt x3 ≤ 65535) (h_x4 : 0 ≤ Int32.toInt x4 ∧ Int32.toInt x4 ≤ 15) (hn15 : 16 - Int32.toInt x4 ≤ n15) : ws_X3_lowerThan_89 post K15 tr_fruits tr_x tr_height x1 x2 x3 x4 := by
  have l0 : Int32.toInt (1 : Int32) = 1 := (by decide)
  intro v1 ev1
  have f2 : Int32.toInt (x4 + 1) = Int32.toInt x4 + Int32.toInt (1 : Int32) := ta_add _ _ (by omega)
  rw [← ev1] at f2
  exact hK15 x1 x2 x3 v1 (by omega) (by omega) (by omega) (by omega) (by omega)
set_option maxHeartbeats 8000000 in
set_option maxRecDepth 200000 in
theorem ts_X3_lowerThan_66 {post : Int32 → Prop} {K15 : Int32 → Int32 → Int32 → Int32 → Prop} {n15 : Int} (tr_fruits : Int32) (tr_x : Nat → Int32) (tr_height : Nat → Int32) (h_tr_fruits : 1 ≤ Int32.toInt tr_fruits ∧ Int32.toInt tr_fruits ≤ 16) (hpost : ∀ (r : Int32) , (0 ≤ Int32.toInt r ∧ Int32.toInt r ≤ 65535) → post r) (hK15 : ∀ (x1 : Int32) (x2 : Int32) (x3 : Int32) (x4 : Int32), (0 ≤ Int32.toInt x1 ∧ Int32.toInt x1 ≤ 15) → (0 ≤ Int32.toInt x2 ∧ Int32.toInt x2 ≤ 65535) → (0 ≤ Int32.toInt x3 ∧ Int32.toInt x3 ≤ 65535) → (0 ≤ Int32.toInt x4 ∧ Int32.toInt x4 ≤ 16) → (16 - Int32.toInt x4 < n15) → K15 x1 x2 x3 x4) (x1 : Int32) (x2 : Int32) (x3 : Int32) (x4 : Int32) (k0 : Int32) (h_x1 : 0 ≤ Int32.toInt x1 ∧ Int32.toInt x1 ≤ 15) (h_x2 : 0 ≤ Int32.toInt x2 ∧ Int32.toInt x2 ≤ 65535) (h_x3 : 0 ≤ Int32.toInt x3 ∧ Int32.toInt x3 ≤ 65535) (h_x4 : 0 ≤ Int32.toInt x4 ∧ Int32.toInt x4 ≤ 15) (h_k0 : 0 ≤ Int32.toInt k0 ∧ Int32.toInt k0 ≤ 1) (hn15 : 16 - Int32.toInt x4 ≤ n15) : ws_X3_lowerThan_66 post K15 tr_fruits tr_x tr_height x1 x2 x3 x4 k0 := by
  have l0 : Int32.toInt (0 : Int32) = 0 := (by decide)
  have l1 : Int32.toInt (1 : Int32) = 1 := (by decide)
  refine And.intro (fun c3 => ?_) (fun c3 => ?_)
  · skip
    have c3 := (fa_eq _ _).mp c3
    exact ts_X3_lowerThan_89 tr_fruits tr_x tr_height h_tr_fruits hpost hK15 x1 x2 x3 x4 (by omega) (by omega) (by omega) (by omega) (by omega)
  · skip
    have c3 := mt (fa_eq _ _).mpr c3
    intro v4 ev4
    have f5 := ti_shr x2 x4 (by omega)
    have hv4 := congrArg Int32.toInt ev4
    have f7 := ti_andr v4 1 (by omega)
    have f8 := ti_andl v4 1 (by omega)
    refine And.intro (fun c6 => ?_) (fun c6 => ?_)
    · skip
      have c6 := (fa_eq _ _).mp c6
      exact ts_X3_lowerThan_89 tr_fruits tr_x tr_height h_tr_fruits hpost hK15 x1 x2 x3 x4 (by omega) (by omega) (by omega) (by omega) (by omega)
    · skip
      have c6 := mt (fa_eq _ _).mpr c6
      intro v9 ev9
      have f11 := ti_shl1 15 32768 x4 (by decide) (by omega)
      have f10 := ti_or 16 65536 x3 (1 <<< (x4 &&& 31)) (by decide) (by omega) (by omega)
      have hv9 := congrArg Int32.toInt ev9
      exact ts_X3_lowerThan_89 tr_fruits tr_x tr_height h_tr_fruits hpost hK15 x1 x2 v9 x4 (by omega) (by omega) (by omega) (by omega) (by omega)
set_option maxHeartbeats 8000000 in
set_option maxRecDepth 200000 in
theorem ts_X3_lowerThan_65 {post : Int32 → Prop} {K15 : Int32 → Int32 → Int32 → Int32 → Prop} {n15 : Int} (tr_fruits : Int32) (tr_x : Nat → Int32) (tr_height : Nat → Int32) (h_tr_fruits : 1 ≤ Int32.toInt tr_fruits ∧ Int32.toInt tr_fruits ≤ 16) (hpost : ∀ (r : Int32) , (0 ≤ Int32.toInt r ∧ Int32.toInt r ≤ 65535) → post r) (hK15 : ∀ (x1 : Int32) (x2 : Int32) (x3 : Int32) (x4 : Int32), (0 ≤ Int32.toInt x1 ∧ Int32.toInt x1 ≤ 15) → (0 ≤ Int32.toInt x2 ∧ Int32.toInt x2 ≤ 65535) → (0 ≤ Int32.toInt x3 ∧ Int32.toInt x3 ≤ 65535) → (0 ≤ Int32.toInt x4 ∧ Int32.toInt x4 ≤ 16) → (16 - Int32.toInt x4 < n15) → K15 x1 x2 x3 x4) (x1 : Int32) (x2 : Int32) (x3 : Int32) (x4 : Int32) (h_x1 : 0 ≤ Int32.toInt x1 ∧ Int32.toInt x1 ≤ 15) (h_x2 : 0 ≤ Int32.toInt x2 ∧ Int32.toInt x2 ≤ 65535) (h_x3 : 0 ≤ Int32.toInt x3 ∧ Int32.toInt x3 ≤ 65535) (h_x4 : 0 ≤ Int32.toInt x4 ∧ Int32.toInt x4 ≤ 15) (hn15 : 16 - Int32.toInt x4 ≤ n15) : ws_X3_lowerThan_65 post K15 tr_fruits tr_x tr_height x1 x2 x3 x4 := by
  have l0 : Int32.toInt (0 : Int32) = 0 := (by decide)
  exact ts_X3_lowerThan_66 tr_fruits tr_x tr_height h_tr_fruits hpost hK15 x1 x2 x3 x4 0 (by omega) (by omega) (by omega) (by omega) (by omega) (by omega)
set_option maxHeartbeats 8000000 in
set_option maxRecDepth 200000 in
theorem ts_X3_lowerThan_15 {post : Int32 → Prop} {next : Int32 → Int32 → Int32 → Int32 → Prop} {n15 : Int} (tr_fruits : Int32) (tr_x : Nat → Int32) (tr_height : Nat → Int32) (h_tr_fruits : 1 ≤ Int32.toInt tr_fruits ∧ Int32.toInt tr_fruits ≤ 16) (hpost : ∀ (r : Int32) , (0 ≤ Int32.toInt r ∧ Int32.toInt r ≤ 65535) → post r) (hKn : ∀ (x1 : Int32) (x2 : Int32) (x3 : Int32) (x4 : Int32), (0 ≤ Int32.toInt x1 ∧ Int32.toInt x1 ≤ 15) → (0 ≤ Int32.toInt x2 ∧ Int32.toInt x2 ≤ 65535) → (0 ≤ Int32.toInt x3 ∧ Int32.toInt x3 ≤ 65535) → (0 ≤ Int32.toInt x4 ∧ Int32.toInt x4 ≤ 16) → (16 - Int32.toInt x4 < n15) → next x1 x2 x3 x4) (x1 : Int32) (x2 : Int32) (x3 : Int32) (x4 : Int32) (h_x1 : 0 ≤ Int32.toInt x1 ∧ Int32.toInt x1 ≤ 15) (h_x2 : 0 ≤ Int32.toInt x2 ∧ Int32.toInt x2 ≤ 65535) (h_x3 : 0 ≤ Int32.toInt x3 ∧ Int32.toInt x3 ≤ 65535) (h_x4 : 0 ≤ Int32.toInt x4 ∧ Int32.toInt x4 ≤ 16) (hn15 : 16 - Int32.toInt x4 ≤ n15) : ws_X3_lowerThan_15 post next tr_fruits tr_x tr_height x1 x2 x3 x4 := by
  have l0 : Int32.toInt (1 : Int32) = 1 := (by decide)
  refine And.intro (fun c12 => ?_) (fun c12 => ?_)
  · skip
    have c12 := (fa_le _ _).mp c12
    exact hpost _ (by omega)
  · skip
    have c12 := mt (fa_le _ _).mpr c12
    refine And.intro (t_in (by omega)) ?_
    intro v13 ev13
    have hv13 := congrArg Int32.toInt ev13
    refine And.intro (t_in (by omega)) ?_
    intro v15 ev15
    have hv15 := congrArg Int32.toInt ev15
    intro v17 ev17
    have hv17 := congrArg Int32.toInt ev17
    have f20 := tp_r v17
    refine And.intro (fun c19 => ?_) (fun c19 => ?_)
    · skip
      have c19 := (fa_lt _ _).mp c19
      exact ts_X3_lowerThan_65 tr_fruits tr_x tr_height h_tr_fruits hpost hKn x1 x2 x3 x4 (by omega) (by omega) (by omega) (by omega) (by omega)
    · skip
      have c19 := mt (fa_lt _ _).mpr c19
      refine And.intro (t_in (by omega)) ?_
      intro v21 ev21
      have hv21 := congrArg Int32.toInt ev21
      refine And.intro (t_in (by omega)) ?_
      have f24 := tp_r v21
      refine And.intro (fun c23 => ?_) (fun c23 => ?_)
      · skip
        have c23 := (fa_le _ _).mp c23
        exact ts_X3_lowerThan_65 tr_fruits tr_x tr_height h_tr_fruits hpost hKn x1 x2 x3 x4 (by omega) (by omega) (by omega) (by omega) (by omega)
      · skip
        have c23 := mt (fa_le _ _).mpr c23
        exact ts_X3_lowerThan_66 tr_fruits tr_x tr_height h_tr_fruits hpost hKn x1 x2 x3 x4 1 (by omega) (by omega) (by omega) (by omega) (by omega) (by omega)
set_option maxHeartbeats 8000000 in
set_option maxRecDepth 200000 in
theorem tb_X3_lowerThan_15 {post : Int32 → Prop} (tr_fruits : Int32) (tr_x : Nat → Int32) (tr_height : Nat → Int32) (h_tr_fruits : 1 ≤ Int32.toInt tr_fruits ∧ Int32.toInt tr_fruits ≤ 16) (hpost : ∀ (r : Int32) , (0 ≤ Int32.toInt r ∧ Int32.toInt r ≤ 65535) → post r) : ∀ (n : Nat) (x1 : Int32) (x2 : Int32) (x3 : Int32) (x4 : Int32), (0 ≤ Int32.toInt x1 ∧ Int32.toInt x1 ≤ 15) → (0 ≤ Int32.toInt x2 ∧ Int32.toInt x2 ≤ 65535) → (0 ≤ Int32.toInt x3 ∧ Int32.toInt x3 ≤ 65535) → (0 ≤ Int32.toInt x4 ∧ Int32.toInt x4 ≤ 16) → (16 - Int32.toInt x4 < (n : Int)) → wb_X3_lowerThan_15 post tr_fruits tr_x tr_height n x1 x2 x3 x4 := by
  intro n
  induction n with
  | zero =>
    intro x1 x2 x3 x4 h_x1 h_x2 h_x3 h_x4 hm
    exfalso; omega
  | succ n ih =>
    intro x1 x2 x3 x4 h_x1 h_x2 h_x3 h_x4 hm
    exact ts_X3_lowerThan_15 tr_fruits tr_x tr_height h_tr_fruits hpost ih x1 x2 x3 x4 h_x1 h_x2 h_x3 h_x4 (by omega)
set_option maxHeartbeats 8000000 in
set_option maxRecDepth 200000 in
theorem t_X3_lowerThan {post : Int32 → Prop} {p0 : Int32} {p1 : Int32} {tr_fruits : Int32} {tr_x : Nat → Int32} {tr_height : Nat → Int32} (h_p0 : 0 ≤ Int32.toInt p0 ∧ Int32.toInt p0 ≤ 15) (h_p1 : 0 ≤ Int32.toInt p1 ∧ Int32.toInt p1 ≤ 65535) (h_tr_fruits : 1 ≤ Int32.toInt tr_fruits ∧ Int32.toInt tr_fruits ≤ 16) (hpost : ∀ (r : Int32) , (0 ≤ Int32.toInt r ∧ Int32.toInt r ≤ 65535) → post r) : wp_X3_lowerThan post p0 p1 tr_fruits tr_x tr_height := by
  have l0 : Int32.toInt (0 : Int32) = 0 := (by decide)
  have l1 : Int32.toInt (1 : Int32) = 1 := (by decide)
  intro v26 ev26
  have f27 := ti_shr p1 p0 (by omega)
  have hv26 := congrArg Int32.toInt ev26
  have f29 := ti_andr v26 1 (by omega)
  have f30 := ti_andl v26 1 (by omega)
  refine And.intro (fun c28 => ?_) (fun c28 => ?_)
  · skip
    have c28 := mt (fa_eq _ _).mpr c28
    exact ⟨18, tb_X3_lowerThan_15 tr_fruits tr_x tr_height h_tr_fruits hpost _ p0 p1 0 0 (by omega) (by omega) (by omega) (by omega) (by omega)⟩
  · skip
    have c28 := (fa_eq _ _).mp c28
    exact hpost _ (by omega)
set_option maxHeartbeats 8000000 in
set_option maxRecDepth 200000 in
theorem t_X9_fruit {post : Int32 → Prop} {postx : Prop} {p0 : Int32} {p1 : Int32} {tr_fruits : Int32} {tr_x : Nat → Int32} {tr_height : Nat → Int32} {tr_worth : Nat → Int32} {tr_ripe : Nat → Int32} {no_apron : Int32} {no_basket : Int32} {no_ground : Int32} {no_bruised : Int32} (h_tr_fruits : 0 ≤ Int32.toInt tr_fruits ∧ Int32.toInt tr_fruits ≤ 16) (hpost : ∀ (r : Int32) , post r) (hpx : postx) : wp_X9_fruit post postx p0 p1 tr_fruits tr_x tr_height tr_worth tr_ripe no_apron no_basket no_ground no_bruised := by
  have l0 : Int32.toInt (0 : Int32) = 0 := (by decide)
  have l1 : Int32.toInt (1 : Int32) = 1 := (by decide)
  have l2 : Int32.toInt (2 : Int32) = 2 := (by decide)
  have l3 : Int32.toInt (3 : Int32) = 3 := (by decide)
  have l4 : Int32.toInt (4 : Int32) = 4 := (by decide)
  have l5 : Int32.toInt (5 : Int32) = 5 := (by decide)
  have l6 : Int32.toInt (6 : Int32) = 6 := (by decide)
  have f2 := tp_r p0
  refine And.intro (fun c1 => ?_) (fun c1 => ?_)
  · skip
    have c1 := (fa_lt _ _).mp c1
    refine And.intro (fun h9 => absurd h9 (by decide)) (fun _ => ?_)
    exact hpx
  · skip
    have c1 := mt (fa_lt _ _).mpr c1
    refine And.intro (fun c3 => ?_) (fun c3 => ?_)
    · skip
      have c3 := (fa_le _ _).mp c3
      refine And.intro (fun h9 => absurd h9 (by decide)) (fun _ => ?_)
      exact hpx
    · skip
      have c3 := mt (fa_le _ _).mpr c3
      refine And.intro (fun _ => ?_) (fun h9 => absurd h9 (by decide))
      have f4 := tp_r p1
      refine And.intro (fun c5 => ?_) ?_
      · skip
        have c5 := (fa_eq _ _).mp c5
        refine And.intro (t_in (by omega)) ?_
        exact hpost _ 
      refine And.intro (fun c6 => ?_) ?_
      · skip
        have c6 := (fa_eq _ _).mp c6
        refine And.intro (t_in (by omega)) ?_
        exact hpost _ 
      refine And.intro (fun c7 => ?_) ?_
      · skip
        have c7 := (fa_eq _ _).mp c7
        refine And.intro (t_in (by omega)) ?_
        exact hpost _ 
      refine And.intro (fun c8 => ?_) ?_
      · skip
        have c8 := (fa_eq _ _).mp c8
        refine And.intro (t_in (by omega)) ?_
        exact hpost _ 
      refine And.intro (fun c9 => ?_) ?_
      · skip
        have c9 := (fa_eq _ _).mp c9
        intro v10 ev10
        intro v11 ev11
        have f12 := ti_andr v10 1 (by omega)
        have hv11 := congrArg Int32.toInt ev11
        intro v13 ev13
        intro v14 ev14
        have f17 := ti_andr v13 1 (by omega)
        have f16 : Int32.toInt (2 * (v13 &&& 1)) = Int32.toInt (v13 &&& 1) * 2 := ta_cmul _ _ (by decide) (by omega)
        have f15 : Int32.toInt (v11 + (2 * (v13 &&& 1))) = Int32.toInt v11 + Int32.toInt (2 * (v13 &&& 1)) := ta_add _ _ (by omega)
        rw [← ev14] at f15
        intro v18 ev18
        exact hpost _ 
      refine And.intro (fun c19 => ?_) ?_
      · skip
        have c19 := (fa_eq _ _).mp c19
        intro v20 ev20
        exact hpost _ 
      refine And.intro (fun c21 => ?_) ?_
      · skip
        have c21 := (fa_eq _ _).mp c21
        intro v22 ev22
        have f23 := ti_shl1 16 65536 tr_fruits (by decide) (by omega)
        have hv22 := congrArg Int32.toInt ev22
        intro v24 ev24
        intro v25 ev25
        have f28 : Int32.toInt (v22 - 1) = Int32.toInt v22 - Int32.toInt (1 : Int32) := ta_sub _ _ (by omega)
        have f29 := ti_andl (v22 - 1) (v25 ^^^ (-1)) (by omega)
        refine t_X3_lowerThan (by omega) (by omega) (by omega) (fun r26 h_r26 => ?_)
        exact hpost _ 
      intro c30 c31 c32 c33 c34 c35 c36
      have c30 := mt (fa_eq _ _).mpr c30
      have c31 := mt (fa_eq _ _).mpr c31
      have c32 := mt (fa_eq _ _).mpr c32
      have c33 := mt (fa_eq _ _).mpr c33
      have c34 := mt (fa_eq _ _).mpr c34
      have c35 := mt (fa_eq _ _).mpr c35
      have c36 := mt (fa_eq _ _).mpr c36
      exact hpx
set_option maxHeartbeats 8000000 in
set_option maxRecDepth 200000 in
theorem t_X9_standing {post : Int32 → Prop} {postx : Prop} {p0 : Int32} {p1 : Int32} {tr_standings : Int32} {tr_foot : Nat → Int32} {tr_fork : Nat → Int32} (h_tr_standings : 0 ≤ Int32.toInt tr_standings ∧ Int32.toInt tr_standings ≤ 8) (hpost : ∀ (r : Int32) , post r) (hpx : postx) : wp_X9_standing post postx p0 p1 tr_standings tr_foot tr_fork := by
  have l0 : Int32.toInt (0 : Int32) = 0 := (by decide)
  have l1 : Int32.toInt (1 : Int32) = 1 := (by decide)
  have l2 : Int32.toInt (2 : Int32) = 2 := (by decide)
  have f2 := tp_r p0
  refine And.intro (fun c1 => ?_) (fun c1 => ?_)
  · skip
    have c1 := (fa_lt _ _).mp c1
    refine And.intro (fun h9 => absurd h9 (by decide)) (fun _ => ?_)
    exact hpx
  · skip
    have c1 := mt (fa_lt _ _).mpr c1
    refine And.intro (fun c3 => ?_) (fun c3 => ?_)
    · skip
      have c3 := (fa_le _ _).mp c3
      refine And.intro (fun h9 => absurd h9 (by decide)) (fun _ => ?_)
      exact hpx
    · skip
      have c3 := mt (fa_le _ _).mpr c3
      refine And.intro (fun _ => ?_) (fun h9 => absurd h9 (by decide))
      have f4 := tp_r p1
      refine And.intro (fun c5 => ?_) ?_
      · skip
        have c5 := (fa_eq _ _).mp c5
        refine And.intro (t_in (by omega)) ?_
        exact hpost _ 
      refine And.intro (fun c6 => ?_) ?_
      · skip
        have c6 := (fa_eq _ _).mp c6
        refine And.intro (t_in (by omega)) ?_
        exact hpost _ 
      refine And.intro (fun c7 => ?_) ?_
      · skip
        have c7 := (fa_eq _ _).mp c7
        refine And.intro (t_in (by omega)) ?_
        intro v8 ev8
        have hv8 := congrArg Int32.toInt ev8
        intro v10 ev10
        have hv10 := congrArg Int32.toInt ev10
        exact hpost _ 
      intro c12 c13 c14
      have c12 := mt (fa_eq _ _).mpr c12
      have c13 := mt (fa_eq _ _).mpr c13
      have c14 := mt (fa_eq _ _).mpr c14
      exact hpx
set_option maxHeartbeats 8000000 in
set_option maxRecDepth 200000 in
theorem t_X9_set {post : Int32 → (Nat → Int32) → Prop} {p0 : Int32} {p1 : Int32} {tr_settings : Nat → Int32} (hpost : ∀ (r : Int32) (tr_settings' : Nat → Int32), post r tr_settings') : wp_X9_set post p0 p1 tr_settings := by
  have l0 : Int32.toInt (0 : Int32) = 0 := (by decide)
  have l1 : Int32.toInt (4 : Int32) = 4 := (by decide)
  have f2 := tp_r p0
  refine And.intro (fun c1 => ?_) (fun c1 => ?_)
  · skip
    have c1 := (fa_lt _ _).mp c1
    exact hpost _ _ 
  · skip
    have c1 := mt (fa_lt _ _).mpr c1
    refine And.intro (fun c3 => ?_) (fun c3 => ?_)
    · skip
      have c3 := (fa_lt _ _).mp c3
      exact hpost _ _ 
    · skip
      have c3 := mt (fa_lt _ _).mpr c3
      refine And.intro (t_in (by omega)) ?_
      have f5 := tp_r p1
      refine And.intro (fun c4 => ?_) (fun c4 => ?_)
      · skip
        have c4 := (fa_lt _ _).mp c4
        exact hpost _ _ 
      · skip
        have c4 := mt (fa_lt _ _).mpr c4
        refine And.intro (t_in (by omega)) ?_
        refine And.intro (fun c7 => ?_) (fun c7 => ?_)
        · skip
          have c7 := (fa_le _ _).mp c7
          refine And.intro (t_in (by omega)) ?_
          intro v9 ev9
          have hv9 := congrArg Int32.toInt ev9
          refine And.intro (t_in (by omega)) ?_
          exact hpost _ _ 
        · skip
          have c7 := mt (fa_le _ _).mpr c7
          exact hpost _ _ 
set_option maxHeartbeats 8000000 in
set_option maxRecDepth 200000 in
theorem ts_X3_fillWorths_70 {post : Int32 → (Nat → Int32) → Prop} {K9 : Int32 → Int32 → Int32 → Int32 → Int32 → Int32 → (Nat → Int32) → Prop} {n9 : Int} (tr_fruits : Int32) (h_tr_fruits : 0 ≤ Int32.toInt tr_fruits ∧ Int32.toInt tr_fruits ≤ 16) (hpost : ∀ (r : Int32) (tr_worth' : Nat → Int32), post r tr_worth') (hK9 : ∀ (x1 : Int32) (x2 : Int32) (x4 : Int32) (x5 : Int32) (x6 : Int32) (x7 : Int32) (tr_worth : Nat → Int32), (0 ≤ Int32.toInt x1 ∧ Int32.toInt x1 ≤ 2) → (0 ≤ Int32.toInt x2 ∧ Int32.toInt x2 ≤ 16) → (0 ≤ Int32.toInt x7 ∧ Int32.toInt x7 ≤ 16) → (16 - Int32.toInt x7 < n9) → K9 x1 x2 x4 x5 x6 x7 tr_worth) (x1 : Int32) (x2 : Int32) (x4 : Int32) (x5 : Int32) (x6 : Int32) (x7 : Int32) (k1 : Int32) (k2 : Int32) (tr_worth : Nat → Int32) (h_x1 : 0 ≤ Int32.toInt x1 ∧ Int32.toInt x1 ≤ 2) (h_x2 : 0 ≤ Int32.toInt x2 ∧ Int32.toInt x2 ≤ 16) (h_x7 : 0 ≤ Int32.toInt x7 ∧ Int32.toInt x7 ≤ 15) (h_k1 : 0 ≤ Int32.toInt k1 ∧ Int32.toInt k1 ≤ 15) (h_k2 : 0 ≤ Int32.toInt k2 ∧ Int32.toInt k2 ≤ 9) (hn9 : 16 - Int32.toInt x7 ≤ n9) : ws_X3_fillWorths_70 post K9 tr_fruits x1 x2 x4 x5 x6 x7 k1 k2 tr_worth := by
  have l0 : Int32.toInt (1 : Int32) = 1 := (by decide)
  refine And.intro (t_in (by omega)) ?_
  refine And.intro (t_in (by omega)) ?_
  intro v1 ev1
  have hv1 := congrArg Int32.toInt ev1
  intro v3 ev3
  have hv3 := congrArg Int32.toInt ev3
  intro v5 ev5
  have f6 : Int32.toInt (x7 + 1) = Int32.toInt x7 + Int32.toInt (1 : Int32) := ta_add _ _ (by omega)
  rw [← ev5] at f6
  have f7 := tp_r x4
  have f8 := tp_r v1
  have f9 := tp_r v3
  exact hK9 x1 x2 x4 v1 v3 v5 (upd tr_worth k1.toNatClampNeg k2) (by omega) (by omega) (by omega) (by omega)
set_option maxHeartbeats 8000000 in
set_option maxRecDepth 200000 in
theorem ts_X3_fillWorths_41 {post : Int32 → (Nat → Int32) → Prop} {K9 : Int32 → Int32 → Int32 → Int32 → Int32 → Int32 → (Nat → Int32) → Prop} {n9 : Int} (tr_fruits : Int32) (h_tr_fruits : 0 ≤ Int32.toInt tr_fruits ∧ Int32.toInt tr_fruits ≤ 16) (hpost : ∀ (r : Int32) (tr_worth' : Nat → Int32), post r tr_worth') (hK9 : ∀ (x1 : Int32) (x2 : Int32) (x4 : Int32) (x5 : Int32) (x6 : Int32) (x7 : Int32) (tr_worth : Nat → Int32), (0 ≤ Int32.toInt x1 ∧ Int32.toInt x1 ≤ 2) → (0 ≤ Int32.toInt x2 ∧ Int32.toInt x2 ≤ 16) → (0 ≤ Int32.toInt x7 ∧ Int32.toInt x7 ≤ 16) → (16 - Int32.toInt x7 < n9) → K9 x1 x2 x4 x5 x6 x7 tr_worth) (x1 : Int32) (x2 : Int32) (x4 : Int32) (x5 : Int32) (x6 : Int32) (x7 : Int32) (k0 : Int32) (tr_worth : Nat → Int32) (h_x1 : 0 ≤ Int32.toInt x1 ∧ Int32.toInt x1 ≤ 2) (h_x2 : 0 ≤ Int32.toInt x2 ∧ Int32.toInt x2 ≤ 16) (h_x7 : 0 ≤ Int32.toInt x7 ∧ Int32.toInt x7 ≤ 15) (hn9 : 16 - Int32.toInt x7 ≤ n9) : ws_X3_fillWorths_41 post K9 tr_fruits x1 x2 x4 x5 x6 x7 k0 tr_worth := by
  have l0 : Int32.toInt (0 : Int32) = 0 := (by decide)
  have l1 : Int32.toInt (9 : Int32) = 9 := (by decide)
  refine And.intro (fun c10 => ?_) (fun c10 => ?_)
  · skip
    have c10 := (fa_le _ _).mp c10
    have f11 := tp_r x4
    have f12 := tp_r x5
    have f13 := tp_r x6
    exact ts_X3_fillWorths_70 tr_fruits h_tr_fruits hpost hK9 x1 x2 x4 x5 x6 x7 x7 0 tr_worth (by omega) (by omega) (by omega) (by omega) (by omega) (by omega)
  · skip
    have c10 := mt (fa_le _ _).mpr c10
    intro v14 ev14
    have f15 := tp_r (if k0 < 9 then k0 else 9)
    have f17 := tp_r k0
    have f16 := ti_min (9 : Int32) k0
    have hv14 := congrArg Int32.toInt ev14
    intro v18 ev18
    have f20 := tp_r v14
    have f19 := ti_max (0 : Int32) v14
    have hv18 := congrArg Int32.toInt ev18
    have f21 := tp_r x4
    have f22 := tp_r x5
    have f23 := tp_r x6
    exact ts_X3_fillWorths_70 tr_fruits h_tr_fruits hpost hK9 x1 x2 x4 x5 x6 x7 x7 v18 tr_worth (by omega) (by omega) (by omega) (by omega) (by omega) (by omega)
set_option maxHeartbeats 8000000 in
set_option maxRecDepth 200000 in
theorem ts_X3_fillWorths_9 {post : Int32 → (Nat → Int32) → Prop} {next : Int32 → Int32 → Int32 → Int32 → Int32 → Int32 → (Nat → Int32) → Prop} {n9 : Int} (tr_fruits : Int32) (h_tr_fruits : 0 ≤ Int32.toInt tr_fruits ∧ Int32.toInt tr_fruits ≤ 16) (hpost : ∀ (r : Int32) (tr_worth' : Nat → Int32), post r tr_worth') (hKn : ∀ (x1 : Int32) (x2 : Int32) (x4 : Int32) (x5 : Int32) (x6 : Int32) (x7 : Int32) (tr_worth : Nat → Int32), (0 ≤ Int32.toInt x1 ∧ Int32.toInt x1 ≤ 2) → (0 ≤ Int32.toInt x2 ∧ Int32.toInt x2 ≤ 16) → (0 ≤ Int32.toInt x7 ∧ Int32.toInt x7 ≤ 16) → (16 - Int32.toInt x7 < n9) → next x1 x2 x4 x5 x6 x7 tr_worth) (x1 : Int32) (x2 : Int32) (x4 : Int32) (x5 : Int32) (x6 : Int32) (x7 : Int32) (tr_worth : Nat → Int32) (h_x1 : 0 ≤ Int32.toInt x1 ∧ Int32.toInt x1 ≤ 2) (h_x2 : 0 ≤ Int32.toInt x2 ∧ Int32.toInt x2 ≤ 16) (h_x7 : 0 ≤ Int32.toInt x7 ∧ Int32.toInt x7 ≤ 16) (hn9 : 16 - Int32.toInt x7 ≤ n9) : ws_X3_fillWorths_9 post next tr_fruits x1 x2 x4 x5 x6 x7 tr_worth := by
  have l0 : Int32.toInt (0 : Int32) = 0 := (by decide)
  have l1 : Int32.toInt (1 : Int32) = 1 := (by decide)
  refine And.intro (fun c24 => ?_) (fun c24 => ?_)
  · skip
    have c24 := (fa_le _ _).mp c24
    exact hpost _ _ 
  · skip
    have c24 := mt (fa_le _ _).mpr c24
    refine And.intro (fun c25 => ?_) (fun c25 => ?_)
    · skip
      have c25 := mt (fa_eq _ _).mpr c25
      refine And.intro (fun c26 => ?_) (fun c26 => ?_)
      · skip
        have c26 := mt (fa_eq _ _).mpr c26
        have f27 := tp_r x4
        have f28 := tp_r x5
        have f29 := tp_r x6
        exact ts_X3_fillWorths_41 tr_fruits h_tr_fruits hpost hKn x1 x2 x4 x5 x6 x7 x6 tr_worth (by omega) (by omega) (by omega) (by omega)
      · skip
        have c26 := (fa_eq _ _).mp c26
        intro v30 ev30
        have hv30 := ti_i2s x6
        rw [← ev30] at hv30
        have f31 := tp_r x4
        have f32 := tp_r x5
        have f33 := tp_r x6
        exact ts_X3_fillWorths_41 tr_fruits h_tr_fruits hpost hKn x1 x2 x4 x5 x6 x7 v30 tr_worth (by omega) (by omega) (by omega) (by omega)
    · skip
      have c25 := (fa_eq _ _).mp c25
      intro v34 ev34
      have hv34 := ti_i2b x6
      rw [← ev34] at hv34
      have f35 := tp_r x4
      have f36 := tp_r x5
      have f37 := tp_r x6
      exact ts_X3_fillWorths_41 tr_fruits h_tr_fruits hpost hKn x1 x2 x4 x5 x6 x7 v34 tr_worth (by omega) (by omega) (by omega) (by omega)
set_option maxHeartbeats 8000000 in
set_option maxRecDepth 200000 in
theorem tb_X3_fillWorths_9 {post : Int32 → (Nat → Int32) → Prop} (tr_fruits : Int32) (h_tr_fruits : 0 ≤ Int32.toInt tr_fruits ∧ Int32.toInt tr_fruits ≤ 16) (hpost : ∀ (r : Int32) (tr_worth' : Nat → Int32), post r tr_worth') : ∀ (n : Nat) (x1 : Int32) (x2 : Int32) (x4 : Int32) (x5 : Int32) (x6 : Int32) (x7 : Int32) (tr_worth : Nat → Int32), (0 ≤ Int32.toInt x1 ∧ Int32.toInt x1 ≤ 2) → (0 ≤ Int32.toInt x2 ∧ Int32.toInt x2 ≤ 16) → (0 ≤ Int32.toInt x7 ∧ Int32.toInt x7 ≤ 16) → (16 - Int32.toInt x7 < (n : Int)) → wb_X3_fillWorths_9 post tr_fruits n x1 x2 x4 x5 x6 x7 tr_worth := by
  intro n
  induction n with
  | zero =>
    intro x1 x2 x4 x5 x6 x7 tr_worth h_x1 h_x2 h_x7 hm
    exfalso; omega
  | succ n ih =>
    intro x1 x2 x4 x5 x6 x7 tr_worth h_x1 h_x2 h_x7 hm
    exact ts_X3_fillWorths_9 tr_fruits h_tr_fruits hpost ih x1 x2 x4 x5 x6 x7 tr_worth h_x1 h_x2 h_x7 (by omega)
set_option maxHeartbeats 8000000 in
set_option maxRecDepth 200000 in
theorem t_X3_fillWorths {post : Int32 → (Nat → Int32) → Prop} {p0 : Int32} {p1 : Int32} {p2 : Int32} {p3 : Int32} {tr_fruits : Int32} {tr_worth : Nat → Int32} (h_p0 : 0 ≤ Int32.toInt p0 ∧ Int32.toInt p0 ≤ 2) (h_p1 : 0 ≤ Int32.toInt p1 ∧ Int32.toInt p1 ≤ 16) (h_tr_fruits : 0 ≤ Int32.toInt tr_fruits ∧ Int32.toInt tr_fruits ≤ 16) (hpost : ∀ (r : Int32) (tr_worth' : Nat → Int32), post r tr_worth') : wp_X3_fillWorths post p0 p1 p2 p3 tr_fruits tr_worth := by
  have l0 : Int32.toInt (0 : Int32) = 0 := (by decide)
  have f38 := tp_r p3
  have f39 := tp_r p2
  exact ⟨18, tb_X3_fillWorths_9 tr_fruits h_tr_fruits hpost _ p0 p1 p3 0 p2 0 tr_worth (by omega) (by omega) (by omega) (by omega)⟩
set_option maxHeartbeats 8000000 in
set_option maxRecDepth 200000 in
theorem t_X9_sheet {post : Int32 → (Nat → Int32) → Prop} {p0 : Int32} {p1 : Int32} {p2 : Int32} {p3 : Int32} {tr_fruits : Int32} {tr_worth : Nat → Int32} (h_tr_fruits : 0 ≤ Int32.toInt tr_fruits ∧ Int32.toInt tr_fruits ≤ 16) (hpost : ∀ (r : Int32) (tr_worth' : Nat → Int32), post r tr_worth') : wp_X9_sheet post p0 p1 p2 p3 tr_fruits tr_worth := by
  have l0 : Int32.toInt (0 : Int32) = 0 := (by decide)
  have l1 : Int32.toInt (16 : Int32) = 16 := (by decide)
  have l2 : Int32.toInt (2 : Int32) = 2 := (by decide)
  have l3 : Int32.toInt (3 : Int32) = 3 := (by decide)
  have f2 := tp_r p0
  refine And.intro (fun c1 => ?_) (fun c1 => ?_)
  · skip
    have c1 := (fa_lt _ _).mp c1
    exact hpost _ _ 
  · skip
    have c1 := mt (fa_lt _ _).mpr c1
    refine And.intro (fun c3 => ?_) (fun c3 => ?_)
    · skip
      have c3 := (fa_lt _ _).mp c3
      exact hpost _ _ 
    · skip
      have c3 := mt (fa_lt _ _).mpr c3
      have f5 := tp_r p1
      refine And.intro (fun c4 => ?_) (fun c4 => ?_)
      · skip
        have c4 := (fa_le _ _).mp c4
        refine And.intro (fun c6 => ?_) (fun c6 => ?_)
        · skip
          have c6 := mt (fa_eq _ _).mpr c6
          refine And.intro (fun c7 => ?_) (fun c7 => ?_)
          · skip
            have c7 := (fa_le _ _).mp c7
            refine t_X3_fillWorths (by omega) (by omega) (by omega) (fun r9 tr_worth_8 => ?_)
            exact hpost _ _ 
          · skip
            have c7 := mt (fa_le _ _).mpr c7
            exact hpost _ _ 
        · skip
          have c6 := (fa_eq _ _).mp c6
          refine t_X3_fillWorths (by omega) (by omega) (by omega) (fun r11 tr_worth_10 => ?_)
          exact hpost _ _ 
      · skip
        have c4 := mt (fa_le _ _).mpr c4
        exact hpost _ _ 
set_option maxHeartbeats 8000000 in
set_option maxRecDepth 200000 in
theorem ts_X0_setLadder_81 {post : Int32 → Int32 → Int32 → Int32 → Int32 → Prop} (tr_standings : Int32) (tr_foot : Nat → Int32) (tr_fork : Nat → Int32) (tr_settings : Nat → Int32) (h_tr_standings : 0 ≤ Int32.toInt tr_standings ∧ Int32.toInt tr_standings ≤ 8) (hpost : ∀ (r : Int32) (no_apron' : Int32) (no_basket' : Int32) (no_ladder' : Int32) (no_clock' : Int32), (-1 ≤ Int32.toInt no_ladder' ∧ Int32.toInt no_ladder' ≤ 7) → post r no_apron' no_basket' no_ladder' no_clock') (x1 : Int32) (x2 : Int32) (no_apron : Int32) (no_basket : Int32) (no_ladder : Int32) (no_clock : Int32) (h_x1 : 0 ≤ Int32.toInt x1 ∧ Int32.toInt x1 ≤ 7) (h_no_ladder : -1 ≤ Int32.toInt no_ladder ∧ Int32.toInt no_ladder ≤ 7) : ws_X0_setLadder_81 post tr_standings tr_foot tr_fork tr_settings x1 x2 no_apron no_basket no_ladder no_clock := by
  have l0 : Int32.toInt (9999 : Int32) = 9999 := (by decide)
  intro v1 ev1
  intro v2 ev2
  have hv2 := congrArg Int32.toInt ev2
  intro v4 ev4
  have f5 := tp_r (if v2 < 9999 then v2 else 9999)
  have f7 := tp_r v2
  have f6 := ti_min (9999 : Int32) v2
  have hv4 := congrArg Int32.toInt ev4
  exact hpost _ _ _ _ _ (by omega)
set_option maxHeartbeats 8000000 in
set_option maxRecDepth 200000 in
theorem t_X0_setLadder {post : Int32 → Int32 → Int32 → Int32 → Int32 → Prop} {p0 : Int32} {tr_standings : Int32} {tr_foot : Nat → Int32} {tr_fork : Nat → Int32} {tr_settings : Nat → Int32} {no_apron : Int32} {no_basket : Int32} {no_ladder : Int32} {no_clock : Int32} (h_tr_standings : 0 ≤ Int32.toInt tr_standings ∧ Int32.toInt tr_standings ≤ 8) (h_no_ladder : -1 ≤ Int32.toInt no_ladder ∧ Int32.toInt no_ladder ≤ 7) (hpost : ∀ (r : Int32) (no_apron' : Int32) (no_basket' : Int32) (no_ladder' : Int32) (no_clock' : Int32), (-1 ≤ Int32.toInt no_ladder' ∧ Int32.toInt no_ladder' ≤ 7) → post r no_apron' no_basket' no_ladder' no_clock') : wp_X0_setLadder post p0 tr_standings tr_foot tr_fork tr_settings no_apron no_basket no_ladder no_clock := by
  have l0 : Int32.toInt ((-1) : Int32) = -1 := (by decide)
  have l1 : Int32.toInt (0 : Int32) = 0 := (by decide)
  have l2 : Int32.toInt (3 : Int32) = 3 := (by decide)
  have l3 : Int32.toInt (9 : Int32) = 9 := (by decide)
  have f9 := tp_r p0
  refine And.intro (fun c8 => ?_) (fun c8 => ?_)
  · skip
    have c8 := (fa_lt _ _).mp c8
    refine And.intro (fun h9 => absurd h9 (by decide)) (fun _ => ?_)
    exact hpost _ _ _ _ _ (by omega)
  · skip
    have c8 := mt (fa_lt _ _).mpr c8
    refine And.intro (fun c10 => ?_) (fun c10 => ?_)
    · skip
      have c10 := (fa_le _ _).mp c10
      refine And.intro (fun h9 => absurd h9 (by decide)) (fun _ => ?_)
      exact hpost _ _ _ _ _ (by omega)
    · skip
      have c10 := mt (fa_le _ _).mpr c10
      refine And.intro (fun _ => ?_) (fun h9 => absurd h9 (by decide))
      refine And.intro (fun c11 => ?_) (fun c11 => ?_)
      · skip
        have c11 := mt (fa_eq _ _).mpr c11
        refine And.intro (fun c12 => ?_) (fun c12 => ?_)
        · skip
          have c12 := mt (fa_eq _ _).mpr c12
          intro v13 ev13
          have hv13 := congrArg Int32.toInt ev13
          refine And.intro (t_in (by omega)) ?_
          intro v15 ev15
          have hv15 := congrArg Int32.toInt ev15
          refine And.intro (t_in (by omega)) ?_
          intro v17 ev17
          have hv17 := congrArg Int32.toInt ev17
          intro v19 ev19
          have hv19 := congrArg Int32.toInt ev19
          have f22 := tp_r no_apron
          refine And.intro (fun c21 => ?_) (fun c21 => ?_)
          · skip
            have c21 := (fa_eq _ _).mp c21
            have f24 := tp_r no_basket
            have f25 := tp_r no_clock
            exact ts_X0_setLadder_81 tr_standings tr_foot tr_fork tr_settings h_tr_standings hpost p0 (9 + (v13 * v19)) no_apron no_basket no_ladder no_clock (by omega) (by omega)
          · skip
            have c21 := mt (fa_eq _ _).mpr c21
            refine And.intro (fun c26 => ?_) (fun c26 => ?_)
            · skip
              have c26 := (fa_eq _ _).mp c26
              exfalso; omega
            · skip
              have c26 := mt (fa_eq _ _).mpr c26
              refine And.intro (t_in (by omega)) ?_
              intro v27 ev27
              have hv27 := congrArg Int32.toInt ev27
              intro v29 ev29
              have hv29 := congrArg Int32.toInt ev29
              intro v31 ev31
              have hv31 := congrArg Int32.toInt ev31
              have f33 := tp_r v31
              have f34 := tp_r no_basket
              have f35 := tp_r no_clock
              exact ts_X0_setLadder_81 tr_standings tr_foot tr_fork tr_settings h_tr_standings hpost p0 v31 no_apron no_basket no_ladder no_clock (by omega) (by omega)
        · skip
          have c12 := (fa_eq _ _).mp c12
          have f37 := tp_r no_apron
          refine And.intro (fun c36 => ?_) (fun c36 => ?_)
          · skip
            have c36 := (fa_eq _ _).mp c36
            have f38 := tp_r no_basket
            have f39 := tp_r no_clock
            exact ts_X0_setLadder_81 tr_standings tr_foot tr_fork tr_settings h_tr_standings hpost p0 9 no_apron no_basket no_ladder no_clock (by omega) (by omega)
          · skip
            have c36 := mt (fa_eq _ _).mpr c36
            refine And.intro (fun c40 => ?_) (fun c40 => ?_)
            · skip
              have c40 := (fa_eq _ _).mp c40
              have f41 := tp_r no_basket
              have f42 := tp_r no_clock
              exact ts_X0_setLadder_81 tr_standings tr_foot tr_fork tr_settings h_tr_standings hpost p0 9 no_apron no_basket no_ladder no_clock (by omega) (by omega)
            · skip
              have c40 := mt (fa_eq _ _).mpr c40
              exfalso; omega
      · skip
        have c11 := (fa_eq _ _).mp c11
        exact hpost _ _ _ _ _ (by omega)
set_option maxHeartbeats 8000000 in
set_option maxRecDepth 200000 in
theorem t_X9_move {post : Int32 → Int32 → Int32 → Int32 → Int32 → Int32 → Int32 → (Nat → Int32) → Prop} {p0 : Int32} {tr_standings : Int32} {tr_foot : Nat → Int32} {tr_fork : Nat → Int32} {tr_settings : Nat → Int32} {no_apron : Int32} {no_basket : Int32} {no_ground : Int32} {no_bruised : Int32} {no_ladder : Int32} {no_helper : Int32} {no_today : Int32} {no_clock : Int32} {pa_undoable : Int32} {pa_free : Int32} {pa_cells : Nat → Int32} (h_tr_standings : 0 ≤ Int32.toInt tr_standings ∧ Int32.toInt tr_standings ≤ 8) (h_no_ladder : -1 ≤ Int32.toInt no_ladder ∧ Int32.toInt no_ladder ≤ 7) (h_no_today : 0 ≤ Int32.toInt no_today ∧ Int32.toInt no_today ≤ 9) (h_pa_undoable : 0 ≤ Int32.toInt pa_undoable ∧ Int32.toInt pa_undoable ≤ 12) (h_pa_free : 0 ≤ Int32.toInt pa_free ∧ Int32.toInt pa_free ≤ 12) (e0_pa_cells : ∀ k : Nat, k % 8 = 4 → -1 ≤ Int32.toInt (pa_cells k) ∧ Int32.toInt (pa_cells k) ≤ 7) (e1_pa_cells : ∀ k : Nat, k % 8 = 6 → 0 ≤ Int32.toInt (pa_cells k) ∧ Int32.toInt (pa_cells k) ≤ 9) (hpost : ∀ (r : Int32) (no_apron' : Int32) (no_basket' : Int32) (no_ladder' : Int32) (no_clock' : Int32) (pa_undoable' : Int32) (pa_free' : Int32) (pa_cells' : Nat → Int32), (-1 ≤ Int32.toInt no_ladder' ∧ Int32.toInt no_ladder' ≤ 7) → (0 ≤ Int32.toInt pa_undoable' ∧ Int32.toInt pa_undoable' ≤ 12) → (0 ≤ Int32.toInt pa_free' ∧ Int32.toInt pa_free' ≤ 12) → (∀ k : Nat, k % 8 = 4 → -1 ≤ Int32.toInt (pa_cells' k) ∧ Int32.toInt (pa_cells' k) ≤ 7) → (∀ k : Nat, k % 8 = 6 → 0 ≤ Int32.toInt (pa_cells' k) ∧ Int32.toInt (pa_cells' k) ≤ 9) → post r no_apron' no_basket' no_ladder' no_clock' pa_undoable' pa_free' pa_cells') : wp_X9_move post p0 tr_standings tr_foot tr_fork tr_settings no_apron no_basket no_ground no_bruised no_ladder no_helper no_today no_clock pa_undoable pa_free pa_cells := by
  have l0 : Int32.toInt (0 : Int32) = 0 := (by decide)
  have l1 : Int32.toInt (1 : Int32) = 1 := (by decide)
  have l2 : Int32.toInt (104 : Int32) = 104 := (by decide)
  have l3 : Int32.toInt (12 : Int32) = 12 := (by decide)
  have l4 : Int32.toInt (13 : Int32) = 13 := (by decide)
  have l5 : Int32.toInt (2 : Int32) = 2 := (by decide)
  have l6 : Int32.toInt (3 : Int32) = 3 := (by decide)
  have l7 : Int32.toInt (4 : Int32) = 4 := (by decide)
  have l8 : Int32.toInt (5 : Int32) = 5 := (by decide)
  have l9 : Int32.toInt (6 : Int32) = 6 := (by decide)
  have l10 : Int32.toInt (7 : Int32) = 7 := (by decide)
  have l11 : Int32.toInt (8 : Int32) = 8 := (by decide)
  intro v1 ev1
  have f2 : Int32.toInt (pa_free * 8) = Int32.toInt pa_free * 8 := ta_mulc _ _ (by decide) (by omega)
  rw [← ev1] at f2
  refine And.intro (fun c3 => ?_) (fun c3 => ?_)
  · skip
    have c3 := (fa_lt _ _).mp c3
    exfalso; omega
  · skip
    have c3 := mt (fa_lt _ _).mpr c3
    have f5 : Int32.toInt (104 - 8) = Int32.toInt (104 : Int32) - Int32.toInt (8 : Int32) := ta_sub _ _ (by omega)
    refine And.intro (fun c4 => ?_) (fun c4 => ?_)
    · skip
      have c4 := (fa_le _ _).mp c4
      refine And.intro (t_in (by omega)) ?_
      have f7 := tp_r no_apron
      have e6 : ∀ k : Nat, k % 8 = 4 → -1 ≤ Int32.toInt ((upd pa_cells v1.toNatClampNeg no_apron) k) ∧ Int32.toInt ((upd pa_cells v1.toNatClampNeg no_apron) k) ≤ 7 := t_updc (C := fun k => k % 8 = 4) e0_pa_cells (fun hk => by have e9 : v1.toNatClampNeg = (Int32.toInt v1).toNat := rfl; have hk : v1.toNatClampNeg % 8 = 4 := hk; omega)
      have e8 : ∀ k : Nat, k % 8 = 6 → 0 ≤ Int32.toInt ((upd pa_cells v1.toNatClampNeg no_apron) k) ∧ Int32.toInt ((upd pa_cells v1.toNatClampNeg no_apron) k) ≤ 9 := t_updc (C := fun k => k % 8 = 6) e1_pa_cells (fun hk => by have e9 : v1.toNatClampNeg = (Int32.toInt v1).toNat := rfl; have hk : v1.toNatClampNeg % 8 = 6 := hk; omega)
      intro v9 ev9
      have f10 : Int32.toInt (v1 + 1) = Int32.toInt v1 + Int32.toInt (1 : Int32) := ta_add _ _ (by omega)
      rw [← ev9] at f10
      refine And.intro (t_in (by omega)) ?_
      have f12 := tp_r no_basket
      have e11 : ∀ k : Nat, k % 8 = 4 → -1 ≤ Int32.toInt ((upd (upd pa_cells v1.toNatClampNeg no_apron) v9.toNatClampNeg no_basket) k) ∧ Int32.toInt ((upd (upd pa_cells v1.toNatClampNeg no_apron) v9.toNatClampNeg no_basket) k) ≤ 7 := t_updc (C := fun k => k % 8 = 4) e6 (fun hk => by have e9 : v9.toNatClampNeg = (Int32.toInt v9).toNat := rfl; have hk : v9.toNatClampNeg % 8 = 4 := hk; omega)
      have e13 : ∀ k : Nat, k % 8 = 6 → 0 ≤ Int32.toInt ((upd (upd pa_cells v1.toNatClampNeg no_apron) v9.toNatClampNeg no_basket) k) ∧ Int32.toInt ((upd (upd pa_cells v1.toNatClampNeg no_apron) v9.toNatClampNeg no_basket) k) ≤ 9 := t_updc (C := fun k => k % 8 = 6) e8 (fun hk => by have e9 : v9.toNatClampNeg = (Int32.toInt v9).toNat := rfl; have hk : v9.toNatClampNeg % 8 = 6 := hk; omega)
      intro v14 ev14
      have f15 : Int32.toInt (v1 + 2) = Int32.toInt v1 + Int32.toInt (2 : Int32) := ta_add _ _ (by omega)
      rw [← ev14] at f15
      refine And.intro (t_in (by omega)) ?_
      have f17 := tp_r no_ground
      have e16 : ∀ k : Nat, k % 8 = 4 → -1 ≤ Int32.toInt ((upd (upd (upd pa_cells v1.toNatClampNeg no_apron) v9.toNatClampNeg no_basket) v14.toNatClampNeg no_ground) k) ∧ Int32.toInt ((upd (upd (upd pa_cells v1.toNatClampNeg no_apron) v9.toNatClampNeg no_basket) v14.toNatClampNeg no_ground) k) ≤ 7 := t_updc (C := fun k => k % 8 = 4) e11 (fun hk => by have e9 : v14.toNatClampNeg = (Int32.toInt v14).toNat := rfl; have hk : v14.toNatClampNeg % 8 = 4 := hk; omega)
      have e18 : ∀ k : Nat, k % 8 = 6 → 0 ≤ Int32.toInt ((upd (upd (upd pa_cells v1.toNatClampNeg no_apron) v9.toNatClampNeg no_basket) v14.toNatClampNeg no_ground) k) ∧ Int32.toInt ((upd (upd (upd pa_cells v1.toNatClampNeg no_apron) v9.toNatClampNeg no_basket) v14.toNatClampNeg no_ground) k) ≤ 9 := t_updc (C := fun k => k % 8 = 6) e13 (fun hk => by have e9 : v14.toNatClampNeg = (Int32.toInt v14).toNat := rfl; have hk : v14.toNatClampNeg % 8 = 6 := hk; omega)
      intro v19 ev19
      have f20 : Int32.toInt (v1 + 3) = Int32.toInt v1 + Int32.toInt (3 : Int32) := ta_add _ _ (by omega)
      rw [← ev19] at f20
      refine And.intro (t_in (by omega)) ?_
      have f22 := tp_r no_bruised
      have e21 : ∀ k : Nat, k % 8 = 4 → -1 ≤ Int32.toInt ((upd (upd (upd (upd pa_cells v1.toNatClampNeg no_apron) v9.toNatClampNeg no_basket) v14.toNatClampNeg no_ground) v19.toNatClampNeg no_bruised) k) ∧ Int32.toInt ((upd (upd (upd (upd pa_cells v1.toNatClampNeg no_apron) v9.toNatClampNeg no_basket) v14.toNatClampNeg no_ground) v19.toNatClampNeg no_bruised) k) ≤ 7 := t_updc (C := fun k => k % 8 = 4) e16 (fun hk => by have e9 : v19.toNatClampNeg = (Int32.toInt v19).toNat := rfl; have hk : v19.toNatClampNeg % 8 = 4 := hk; omega)
      have e23 : ∀ k : Nat, k % 8 = 6 → 0 ≤ Int32.toInt ((upd (upd (upd (upd pa_cells v1.toNatClampNeg no_apron) v9.toNatClampNeg no_basket) v14.toNatClampNeg no_ground) v19.toNatClampNeg no_bruised) k) ∧ Int32.toInt ((upd (upd (upd (upd pa_cells v1.toNatClampNeg no_apron) v9.toNatClampNeg no_basket) v14.toNatClampNeg no_ground) v19.toNatClampNeg no_bruised) k) ≤ 9 := t_updc (C := fun k => k % 8 = 6) e18 (fun hk => by have e9 : v19.toNatClampNeg = (Int32.toInt v19).toNat := rfl; have hk : v19.toNatClampNeg % 8 = 6 := hk; omega)
      intro v24 ev24
      have f25 : Int32.toInt (v1 + 4) = Int32.toInt v1 + Int32.toInt (4 : Int32) := ta_add _ _ (by omega)
      rw [← ev24] at f25
      refine And.intro (t_in (by omega)) ?_
      have e26 : ∀ k : Nat, k % 8 = 4 → -1 ≤ Int32.toInt ((upd (upd (upd (upd (upd pa_cells v1.toNatClampNeg no_apron) v9.toNatClampNeg no_basket) v14.toNatClampNeg no_ground) v19.toNatClampNeg no_bruised) v24.toNatClampNeg no_ladder) k) ∧ Int32.toInt ((upd (upd (upd (upd (upd pa_cells v1.toNatClampNeg no_apron) v9.toNatClampNeg no_basket) v14.toNatClampNeg no_ground) v19.toNatClampNeg no_bruised) v24.toNatClampNeg no_ladder) k) ≤ 7 := t_updc (C := fun k => k % 8 = 4) e21 (fun hk => by have e9 : v24.toNatClampNeg = (Int32.toInt v24).toNat := rfl; have hk : v24.toNatClampNeg % 8 = 4 := hk; omega)
      have e27 : ∀ k : Nat, k % 8 = 6 → 0 ≤ Int32.toInt ((upd (upd (upd (upd (upd pa_cells v1.toNatClampNeg no_apron) v9.toNatClampNeg no_basket) v14.toNatClampNeg no_ground) v19.toNatClampNeg no_bruised) v24.toNatClampNeg no_ladder) k) ∧ Int32.toInt ((upd (upd (upd (upd (upd pa_cells v1.toNatClampNeg no_apron) v9.toNatClampNeg no_basket) v14.toNatClampNeg no_ground) v19.toNatClampNeg no_bruised) v24.toNatClampNeg no_ladder) k) ≤ 9 := t_updc (C := fun k => k % 8 = 6) e23 (fun hk => by have e9 : v24.toNatClampNeg = (Int32.toInt v24).toNat := rfl; have hk : v24.toNatClampNeg % 8 = 6 := hk; omega)
      intro v28 ev28
      have f29 : Int32.toInt (v1 + 5) = Int32.toInt v1 + Int32.toInt (5 : Int32) := ta_add _ _ (by omega)
      rw [← ev28] at f29
      refine And.intro (t_in (by omega)) ?_
      have f31 := tp_r no_helper
      have e30 : ∀ k : Nat, k % 8 = 4 → -1 ≤ Int32.toInt ((upd (upd (upd (upd (upd (upd pa_cells v1.toNatClampNeg no_apron) v9.toNatClampNeg no_basket) v14.toNatClampNeg no_ground) v19.toNatClampNeg no_bruised) v24.toNatClampNeg no_ladder) v28.toNatClampNeg no_helper) k) ∧ Int32.toInt ((upd (upd (upd (upd (upd (upd pa_cells v1.toNatClampNeg no_apron) v9.toNatClampNeg no_basket) v14.toNatClampNeg no_ground) v19.toNatClampNeg no_bruised) v24.toNatClampNeg no_ladder) v28.toNatClampNeg no_helper) k) ≤ 7 := t_updc (C := fun k => k % 8 = 4) e26 (fun hk => by have e9 : v28.toNatClampNeg = (Int32.toInt v28).toNat := rfl; have hk : v28.toNatClampNeg % 8 = 4 := hk; omega)
      have e32 : ∀ k : Nat, k % 8 = 6 → 0 ≤ Int32.toInt ((upd (upd (upd (upd (upd (upd pa_cells v1.toNatClampNeg no_apron) v9.toNatClampNeg no_basket) v14.toNatClampNeg no_ground) v19.toNatClampNeg no_bruised) v24.toNatClampNeg no_ladder) v28.toNatClampNeg no_helper) k) ∧ Int32.toInt ((upd (upd (upd (upd (upd (upd pa_cells v1.toNatClampNeg no_apron) v9.toNatClampNeg no_basket) v14.toNatClampNeg no_ground) v19.toNatClampNeg no_bruised) v24.toNatClampNeg no_ladder) v28.toNatClampNeg no_helper) k) ≤ 9 := t_updc (C := fun k => k % 8 = 6) e27 (fun hk => by have e9 : v28.toNatClampNeg = (Int32.toInt v28).toNat := rfl; have hk : v28.toNatClampNeg % 8 = 6 := hk; omega)
      intro v33 ev33
      have f34 : Int32.toInt (v1 + 6) = Int32.toInt v1 + Int32.toInt (6 : Int32) := ta_add _ _ (by omega)
      rw [← ev33] at f34
      refine And.intro (t_in (by omega)) ?_
      have e35 : ∀ k : Nat, k % 8 = 4 → -1 ≤ Int32.toInt ((upd (upd (upd (upd (upd (upd (upd pa_cells v1.toNatClampNeg no_apron) v9.toNatClampNeg no_basket) v14.toNatClampNeg no_ground) v19.toNatClampNeg no_bruised) v24.toNatClampNeg no_ladder) v28.toNatClampNeg no_helper) v33.toNatClampNeg no_today) k) ∧ Int32.toInt ((upd (upd (upd (upd (upd (upd (upd pa_cells v1.toNatClampNeg no_apron) v9.toNatClampNeg no_basket) v14.toNatClampNeg no_ground) v19.toNatClampNeg no_bruised) v24.toNatClampNeg no_ladder) v28.toNatClampNeg no_helper) v33.toNatClampNeg no_today) k) ≤ 7 := t_updc (C := fun k => k % 8 = 4) e30 (fun hk => by have e9 : v33.toNatClampNeg = (Int32.toInt v33).toNat := rfl; have hk : v33.toNatClampNeg % 8 = 4 := hk; omega)
      have e36 : ∀ k : Nat, k % 8 = 6 → 0 ≤ Int32.toInt ((upd (upd (upd (upd (upd (upd (upd pa_cells v1.toNatClampNeg no_apron) v9.toNatClampNeg no_basket) v14.toNatClampNeg no_ground) v19.toNatClampNeg no_bruised) v24.toNatClampNeg no_ladder) v28.toNatClampNeg no_helper) v33.toNatClampNeg no_today) k) ∧ Int32.toInt ((upd (upd (upd (upd (upd (upd (upd pa_cells v1.toNatClampNeg no_apron) v9.toNatClampNeg no_basket) v14.toNatClampNeg no_ground) v19.toNatClampNeg no_bruised) v24.toNatClampNeg no_ladder) v28.toNatClampNeg no_helper) v33.toNatClampNeg no_today) k) ≤ 9 := t_updc (C := fun k => k % 8 = 6) e32 (fun hk => by have e9 : v33.toNatClampNeg = (Int32.toInt v33).toNat := rfl; have hk : v33.toNatClampNeg % 8 = 6 := hk; omega)
      intro v37 ev37
      have f38 : Int32.toInt (v1 + 7) = Int32.toInt v1 + Int32.toInt (7 : Int32) := ta_add _ _ (by omega)
      rw [← ev37] at f38
      refine And.intro (t_in (by omega)) ?_
      have f40 := tp_r no_clock
      have e39 : ∀ k : Nat, k % 8 = 4 → -1 ≤ Int32.toInt ((upd (upd (upd (upd (upd (upd (upd (upd pa_cells v1.toNatClampNeg no_apron) v9.toNatClampNeg no_basket) v14.toNatClampNeg no_ground) v19.toNatClampNeg no_bruised) v24.toNatClampNeg no_ladder) v28.toNatClampNeg no_helper) v33.toNatClampNeg no_today) v37.toNatClampNeg no_clock) k) ∧ Int32.toInt ((upd (upd (upd (upd (upd (upd (upd (upd pa_cells v1.toNatClampNeg no_apron) v9.toNatClampNeg no_basket) v14.toNatClampNeg no_ground) v19.toNatClampNeg no_bruised) v24.toNatClampNeg no_ladder) v28.toNatClampNeg no_helper) v33.toNatClampNeg no_today) v37.toNatClampNeg no_clock) k) ≤ 7 := t_updc (C := fun k => k % 8 = 4) e35 (fun hk => by have e9 : v37.toNatClampNeg = (Int32.toInt v37).toNat := rfl; have hk : v37.toNatClampNeg % 8 = 4 := hk; omega)
      have e41 : ∀ k : Nat, k % 8 = 6 → 0 ≤ Int32.toInt ((upd (upd (upd (upd (upd (upd (upd (upd pa_cells v1.toNatClampNeg no_apron) v9.toNatClampNeg no_basket) v14.toNatClampNeg no_ground) v19.toNatClampNeg no_bruised) v24.toNatClampNeg no_ladder) v28.toNatClampNeg no_helper) v33.toNatClampNeg no_today) v37.toNatClampNeg no_clock) k) ∧ Int32.toInt ((upd (upd (upd (upd (upd (upd (upd (upd pa_cells v1.toNatClampNeg no_apron) v9.toNatClampNeg no_basket) v14.toNatClampNeg no_ground) v19.toNatClampNeg no_bruised) v24.toNatClampNeg no_ladder) v28.toNatClampNeg no_helper) v33.toNatClampNeg no_today) v37.toNatClampNeg no_clock) k) ≤ 9 := t_updc (C := fun k => k % 8 = 6) e36 (fun hk => by have e9 : v37.toNatClampNeg = (Int32.toInt v37).toNat := rfl; have hk : v37.toNatClampNeg % 8 = 6 := hk; omega)
      refine t_X0_setLadder (by omega) (by omega) (fun r46 no_apron_42 no_basket_43 no_ladder_44 no_clock_45 h_no_ladder_44 => ?_)
      have f48 := tp_r r46
      refine And.intro (fun c47 => ?_) (fun c47 => ?_)
      · skip
        have c47 := (fa_lt _ _).mp c47
        exact hpost _ _ _ _ _ _ _ _ (by omega) (by omega) (by omega) e39 e41
      · skip
        have c47 := mt (fa_lt _ _).mpr c47
        intro v49 ev49
        have f50 : Int32.toInt (pa_free + 1) = Int32.toInt pa_free + Int32.toInt (1 : Int32) := ta_add _ _ (by omega)
        rw [← ev49] at f50
        intro v51 ev51
        have f52 : Int32.toInt (v49 - v49 / 13 * 13) = Int32.toInt v49 % 13 := ti_rem _ _ (by decide) (by omega) (by decide)
        rw [← ev51] at f52
        intro v53 ev53
        have f54 : Int32.toInt (pa_undoable + 1) = Int32.toInt pa_undoable + Int32.toInt (1 : Int32) := ta_add _ _ (by omega)
        rw [← ev53] at f54
        intro v55 ev55
        have f56 := ti_min (12 : Int32) v53
        have hv55 := congrArg Int32.toInt ev55
        exact hpost _ _ _ _ _ _ _ _ (by omega) (by omega) (by omega) e39 e41
    · skip
      have c4 := mt (fa_le _ _).mpr c4
      exfalso; omega
set_option maxHeartbeats 8000000 in
set_option maxRecDepth 200000 in
theorem ts_X9_isYesOrNo_9 {post : Int32 → Prop} (hpost : ∀ (r : Int32) , (0 ≤ Int32.toInt r ∧ Int32.toInt r ≤ 1) → post r) : ws_X9_isYesOrNo_9 post := by
  have l0 : Int32.toInt (1 : Int32) = 1 := (by decide)
  exact hpost _ (by omega)
set_option maxHeartbeats 8000000 in
set_option maxRecDepth 200000 in
theorem t_X9_isYesOrNo {post : Int32 → Prop} {p0 : Int32} (hpost : ∀ (r : Int32) , (0 ≤ Int32.toInt r ∧ Int32.toInt r ≤ 1) → post r) : wp_X9_isYesOrNo post p0 := by
  have l0 : Int32.toInt (0 : Int32) = 0 := (by decide)
  have l1 : Int32.toInt (1 : Int32) = 1 := (by decide)
  have f2 := tp_r p0
  refine And.intro (fun c1 => ?_) (fun c1 => ?_)
  · skip
    have c1 := (fa_eq _ _).mp c1
    exact ts_X9_isYesOrNo_9 hpost 
  · skip
    have c1 := mt (fa_eq _ _).mpr c1
    refine And.intro (fun c3 => ?_) (fun c3 => ?_)
    · skip
      have c3 := mt (fa_eq _ _).mpr c3
      exact hpost _ (by omega)
    · skip
      have c3 := (fa_eq _ _).mp c3
      exact ts_X9_isYesOrNo_9 hpost 
set_option maxHeartbeats 8000000 in
set_option maxRecDepth 200000 in
theorem t_X9_foot {post : Int32 → Int32 → Int32 → Int32 → (Nat → Int32) → Prop} {p0 : Int32} {no_apron : Int32} {no_basket : Int32} {no_ground : Int32} {no_bruised : Int32} {no_ladder : Int32} {no_helper : Int32} {no_today : Int32} {no_clock : Int32} {pa_undoable : Int32} {pa_free : Int32} {pa_cells : Nat → Int32} (h_no_ladder : -1 ≤ Int32.toInt no_ladder ∧ Int32.toInt no_ladder ≤ 7) (h_no_today : 0 ≤ Int32.toInt no_today ∧ Int32.toInt no_today ≤ 9) (h_pa_undoable : 0 ≤ Int32.toInt pa_undoable ∧ Int32.toInt pa_undoable ≤ 12) (h_pa_free : 0 ≤ Int32.toInt pa_free ∧ Int32.toInt pa_free ≤ 12) (e0_pa_cells : ∀ k : Nat, k % 8 = 4 → -1 ≤ Int32.toInt (pa_cells k) ∧ Int32.toInt (pa_cells k) ≤ 7) (e1_pa_cells : ∀ k : Nat, k % 8 = 6 → 0 ≤ Int32.toInt (pa_cells k) ∧ Int32.toInt (pa_cells k) ≤ 9) (hpost : ∀ (r : Int32) (no_helper' : Int32) (pa_undoable' : Int32) (pa_free' : Int32) (pa_cells' : Nat → Int32), (0 ≤ Int32.toInt pa_undoable' ∧ Int32.toInt pa_undoable' ≤ 12) → (0 ≤ Int32.toInt pa_free' ∧ Int32.toInt pa_free' ≤ 12) → (∀ k : Nat, k % 8 = 4 → -1 ≤ Int32.toInt (pa_cells' k) ∧ Int32.toInt (pa_cells' k) ≤ 7) → (∀ k : Nat, k % 8 = 6 → 0 ≤ Int32.toInt (pa_cells' k) ∧ Int32.toInt (pa_cells' k) ≤ 9) → post r no_helper' pa_undoable' pa_free' pa_cells') : wp_X9_foot post p0 no_apron no_basket no_ground no_bruised no_ladder no_helper no_today no_clock pa_undoable pa_free pa_cells := by
  have l0 : Int32.toInt (0 : Int32) = 0 := (by decide)
  have l1 : Int32.toInt (1 : Int32) = 1 := (by decide)
  have l2 : Int32.toInt (104 : Int32) = 104 := (by decide)
  have l3 : Int32.toInt (12 : Int32) = 12 := (by decide)
  have l4 : Int32.toInt (13 : Int32) = 13 := (by decide)
  have l5 : Int32.toInt (2 : Int32) = 2 := (by decide)
  have l6 : Int32.toInt (3 : Int32) = 3 := (by decide)
  have l7 : Int32.toInt (4 : Int32) = 4 := (by decide)
  have l8 : Int32.toInt (5 : Int32) = 5 := (by decide)
  have l9 : Int32.toInt (6 : Int32) = 6 := (by decide)
  have l10 : Int32.toInt (7 : Int32) = 7 := (by decide)
  have l11 : Int32.toInt (8 : Int32) = 8 := (by decide)
  intro v1 ev1
  have f2 : Int32.toInt (pa_free * 8) = Int32.toInt pa_free * 8 := ta_mulc _ _ (by decide) (by omega)
  rw [← ev1] at f2
  refine And.intro (fun c3 => ?_) (fun c3 => ?_)
  · skip
    have c3 := (fa_lt _ _).mp c3
    exfalso; omega
  · skip
    have c3 := mt (fa_lt _ _).mpr c3
    have f5 : Int32.toInt (104 - 8) = Int32.toInt (104 : Int32) - Int32.toInt (8 : Int32) := ta_sub _ _ (by omega)
    refine And.intro (fun c4 => ?_) (fun c4 => ?_)
    · skip
      have c4 := (fa_le _ _).mp c4
      refine And.intro (t_in (by omega)) ?_
      have f7 := tp_r no_apron
      have e6 : ∀ k : Nat, k % 8 = 4 → -1 ≤ Int32.toInt ((upd pa_cells v1.toNatClampNeg no_apron) k) ∧ Int32.toInt ((upd pa_cells v1.toNatClampNeg no_apron) k) ≤ 7 := t_updc (C := fun k => k % 8 = 4) e0_pa_cells (fun hk => by have e9 : v1.toNatClampNeg = (Int32.toInt v1).toNat := rfl; have hk : v1.toNatClampNeg % 8 = 4 := hk; omega)
      have e8 : ∀ k : Nat, k % 8 = 6 → 0 ≤ Int32.toInt ((upd pa_cells v1.toNatClampNeg no_apron) k) ∧ Int32.toInt ((upd pa_cells v1.toNatClampNeg no_apron) k) ≤ 9 := t_updc (C := fun k => k % 8 = 6) e1_pa_cells (fun hk => by have e9 : v1.toNatClampNeg = (Int32.toInt v1).toNat := rfl; have hk : v1.toNatClampNeg % 8 = 6 := hk; omega)
      intro v9 ev9
      have f10 : Int32.toInt (v1 + 1) = Int32.toInt v1 + Int32.toInt (1 : Int32) := ta_add _ _ (by omega)
      rw [← ev9] at f10
      refine And.intro (t_in (by omega)) ?_
      have f12 := tp_r no_basket
      have e11 : ∀ k : Nat, k % 8 = 4 → -1 ≤ Int32.toInt ((upd (upd pa_cells v1.toNatClampNeg no_apron) v9.toNatClampNeg no_basket) k) ∧ Int32.toInt ((upd (upd pa_cells v1.toNatClampNeg no_apron) v9.toNatClampNeg no_basket) k) ≤ 7 := t_updc (C := fun k => k % 8 = 4) e6 (fun hk => by have e9 : v9.toNatClampNeg = (Int32.toInt v9).toNat := rfl; have hk : v9.toNatClampNeg % 8 = 4 := hk; omega)
      have e13 : ∀ k : Nat, k % 8 = 6 → 0 ≤ Int32.toInt ((upd (upd pa_cells v1.toNatClampNeg no_apron) v9.toNatClampNeg no_basket) k) ∧ Int32.toInt ((upd (upd pa_cells v1.toNatClampNeg no_apron) v9.toNatClampNeg no_basket) k) ≤ 9 := t_updc (C := fun k => k % 8 = 6) e8 (fun hk => by have e9 : v9.toNatClampNeg = (Int32.toInt v9).toNat := rfl; have hk : v9.toNatClampNeg % 8 = 6 := hk; omega)
      intro v14 ev14
      have f15 : Int32.toInt (v1 + 2) = Int32.toInt v1 + Int32.toInt (2 : Int32) := ta_add _ _ (by omega)
      rw [← ev14] at f15
      refine And.intro (t_in (by omega)) ?_
      have f17 := tp_r no_ground
      have e16 : ∀ k : Nat, k % 8 = 4 → -1 ≤ Int32.toInt ((upd (upd (upd pa_cells v1.toNatClampNeg no_apron) v9.toNatClampNeg no_basket) v14.toNatClampNeg no_ground) k) ∧ Int32.toInt ((upd (upd (upd pa_cells v1.toNatClampNeg no_apron) v9.toNatClampNeg no_basket) v14.toNatClampNeg no_ground) k) ≤ 7 := t_updc (C := fun k => k % 8 = 4) e11 (fun hk => by have e9 : v14.toNatClampNeg = (Int32.toInt v14).toNat := rfl; have hk : v14.toNatClampNeg % 8 = 4 := hk; omega)
      have e18 : ∀ k : Nat, k % 8 = 6 → 0 ≤ Int32.toInt ((upd (upd (upd pa_cells v1.toNatClampNeg no_apron) v9.toNatClampNeg no_basket) v14.toNatClampNeg no_ground) k) ∧ Int32.toInt ((upd (upd (upd pa_cells v1.toNatClampNeg no_apron) v9.toNatClampNeg no_basket) v14.toNatClampNeg no_ground) k) ≤ 9 := t_updc (C := fun k => k % 8 = 6) e13 (fun hk => by have e9 : v14.toNatClampNeg = (Int32.toInt v14).toNat := rfl; have hk : v14.toNatClampNeg % 8 = 6 := hk; omega)
      intro v19 ev19
      have f20 : Int32.toInt (v1 + 3) = Int32.toInt v1 + Int32.toInt (3 : Int32) := ta_add _ _ (by omega)
      rw [← ev19] at f20
      refine And.intro (t_in (by omega)) ?_
      have f22 := tp_r no_bruised
      have e21 : ∀ k : Nat, k % 8 = 4 → -1 ≤ Int32.toInt ((upd (upd (upd (upd pa_cells v1.toNatClampNeg no_apron) v9.toNatClampNeg no_basket) v14.toNatClampNeg no_ground) v19.toNatClampNeg no_bruised) k) ∧ Int32.toInt ((upd (upd (upd (upd pa_cells v1.toNatClampNeg no_apron) v9.toNatClampNeg no_basket) v14.toNatClampNeg no_ground) v19.toNatClampNeg no_bruised) k) ≤ 7 := t_updc (C := fun k => k % 8 = 4) e16 (fun hk => by have e9 : v19.toNatClampNeg = (Int32.toInt v19).toNat := rfl; have hk : v19.toNatClampNeg % 8 = 4 := hk; omega)
      have e23 : ∀ k : Nat, k % 8 = 6 → 0 ≤ Int32.toInt ((upd (upd (upd (upd pa_cells v1.toNatClampNeg no_apron) v9.toNatClampNeg no_basket) v14.toNatClampNeg no_ground) v19.toNatClampNeg no_bruised) k) ∧ Int32.toInt ((upd (upd (upd (upd pa_cells v1.toNatClampNeg no_apron) v9.toNatClampNeg no_basket) v14.toNatClampNeg no_ground) v19.toNatClampNeg no_bruised) k) ≤ 9 := t_updc (C := fun k => k % 8 = 6) e18 (fun hk => by have e9 : v19.toNatClampNeg = (Int32.toInt v19).toNat := rfl; have hk : v19.toNatClampNeg % 8 = 6 := hk; omega)
      intro v24 ev24
      have f25 : Int32.toInt (v1 + 4) = Int32.toInt v1 + Int32.toInt (4 : Int32) := ta_add _ _ (by omega)
      rw [← ev24] at f25
      refine And.intro (t_in (by omega)) ?_
      have e26 : ∀ k : Nat, k % 8 = 4 → -1 ≤ Int32.toInt ((upd (upd (upd (upd (upd pa_cells v1.toNatClampNeg no_apron) v9.toNatClampNeg no_basket) v14.toNatClampNeg no_ground) v19.toNatClampNeg no_bruised) v24.toNatClampNeg no_ladder) k) ∧ Int32.toInt ((upd (upd (upd (upd (upd pa_cells v1.toNatClampNeg no_apron) v9.toNatClampNeg no_basket) v14.toNatClampNeg no_ground) v19.toNatClampNeg no_bruised) v24.toNatClampNeg no_ladder) k) ≤ 7 := t_updc (C := fun k => k % 8 = 4) e21 (fun hk => by have e9 : v24.toNatClampNeg = (Int32.toInt v24).toNat := rfl; have hk : v24.toNatClampNeg % 8 = 4 := hk; omega)
      have e27 : ∀ k : Nat, k % 8 = 6 → 0 ≤ Int32.toInt ((upd (upd (upd (upd (upd pa_cells v1.toNatClampNeg no_apron) v9.toNatClampNeg no_basket) v14.toNatClampNeg no_ground) v19.toNatClampNeg no_bruised) v24.toNatClampNeg no_ladder) k) ∧ Int32.toInt ((upd (upd (upd (upd (upd pa_cells v1.toNatClampNeg no_apron) v9.toNatClampNeg no_basket) v14.toNatClampNeg no_ground) v19.toNatClampNeg no_bruised) v24.toNatClampNeg no_ladder) k) ≤ 9 := t_updc (C := fun k => k % 8 = 6) e23 (fun hk => by have e9 : v24.toNatClampNeg = (Int32.toInt v24).toNat := rfl; have hk : v24.toNatClampNeg % 8 = 6 := hk; omega)
      intro v28 ev28
      have f29 : Int32.toInt (v1 + 5) = Int32.toInt v1 + Int32.toInt (5 : Int32) := ta_add _ _ (by omega)
      rw [← ev28] at f29
      refine And.intro (t_in (by omega)) ?_
      have f31 := tp_r no_helper
      have e30 : ∀ k : Nat, k % 8 = 4 → -1 ≤ Int32.toInt ((upd (upd (upd (upd (upd (upd pa_cells v1.toNatClampNeg no_apron) v9.toNatClampNeg no_basket) v14.toNatClampNeg no_ground) v19.toNatClampNeg no_bruised) v24.toNatClampNeg no_ladder) v28.toNatClampNeg no_helper) k) ∧ Int32.toInt ((upd (upd (upd (upd (upd (upd pa_cells v1.toNatClampNeg no_apron) v9.toNatClampNeg no_basket) v14.toNatClampNeg no_ground) v19.toNatClampNeg no_bruised) v24.toNatClampNeg no_ladder) v28.toNatClampNeg no_helper) k) ≤ 7 := t_updc (C := fun k => k % 8 = 4) e26 (fun hk => by have e9 : v28.toNatClampNeg = (Int32.toInt v28).toNat := rfl; have hk : v28.toNatClampNeg % 8 = 4 := hk; omega)
      have e32 : ∀ k : Nat, k % 8 = 6 → 0 ≤ Int32.toInt ((upd (upd (upd (upd (upd (upd pa_cells v1.toNatClampNeg no_apron) v9.toNatClampNeg no_basket) v14.toNatClampNeg no_ground) v19.toNatClampNeg no_bruised) v24.toNatClampNeg no_ladder) v28.toNatClampNeg no_helper) k) ∧ Int32.toInt ((upd (upd (upd (upd (upd (upd pa_cells v1.toNatClampNeg no_apron) v9.toNatClampNeg no_basket) v14.toNatClampNeg no_ground) v19.toNatClampNeg no_bruised) v24.toNatClampNeg no_ladder) v28.toNatClampNeg no_helper) k) ≤ 9 := t_updc (C := fun k => k % 8 = 6) e27 (fun hk => by have e9 : v28.toNatClampNeg = (Int32.toInt v28).toNat := rfl; have hk : v28.toNatClampNeg % 8 = 6 := hk; omega)
      intro v33 ev33
      have f34 : Int32.toInt (v1 + 6) = Int32.toInt v1 + Int32.toInt (6 : Int32) := ta_add _ _ (by omega)
      rw [← ev33] at f34
      refine And.intro (t_in (by omega)) ?_
      have e35 : ∀ k : Nat, k % 8 = 4 → -1 ≤ Int32.toInt ((upd (upd (upd (upd (upd (upd (upd pa_cells v1.toNatClampNeg no_apron) v9.toNatClampNeg no_basket) v14.toNatClampNeg no_ground) v19.toNatClampNeg no_bruised) v24.toNatClampNeg no_ladder) v28.toNatClampNeg no_helper) v33.toNatClampNeg no_today) k) ∧ Int32.toInt ((upd (upd (upd (upd (upd (upd (upd pa_cells v1.toNatClampNeg no_apron) v9.toNatClampNeg no_basket) v14.toNatClampNeg no_ground) v19.toNatClampNeg no_bruised) v24.toNatClampNeg no_ladder) v28.toNatClampNeg no_helper) v33.toNatClampNeg no_today) k) ≤ 7 := t_updc (C := fun k => k % 8 = 4) e30 (fun hk => by have e9 : v33.toNatClampNeg = (Int32.toInt v33).toNat := rfl; have hk : v33.toNatClampNeg % 8 = 4 := hk; omega)
      have e36 : ∀ k : Nat, k % 8 = 6 → 0 ≤ Int32.toInt ((upd (upd (upd (upd (upd (upd (upd pa_cells v1.toNatClampNeg no_apron) v9.toNatClampNeg no_basket) v14.toNatClampNeg no_ground) v19.toNatClampNeg no_bruised) v24.toNatClampNeg no_ladder) v28.toNatClampNeg no_helper) v33.toNatClampNeg no_today) k) ∧ Int32.toInt ((upd (upd (upd (upd (upd (upd (upd pa_cells v1.toNatClampNeg no_apron) v9.toNatClampNeg no_basket) v14.toNatClampNeg no_ground) v19.toNatClampNeg no_bruised) v24.toNatClampNeg no_ladder) v28.toNatClampNeg no_helper) v33.toNatClampNeg no_today) k) ≤ 9 := t_updc (C := fun k => k % 8 = 6) e32 (fun hk => by have e9 : v33.toNatClampNeg = (Int32.toInt v33).toNat := rfl; have hk : v33.toNatClampNeg % 8 = 6 := hk; omega)
      intro v37 ev37
      have f38 : Int32.toInt (v1 + 7) = Int32.toInt v1 + Int32.toInt (7 : Int32) := ta_add _ _ (by omega)
      rw [← ev37] at f38
      refine And.intro (t_in (by omega)) ?_
      have f40 := tp_r no_clock
      have e39 : ∀ k : Nat, k % 8 = 4 → -1 ≤ Int32.toInt ((upd (upd (upd (upd (upd (upd (upd (upd pa_cells v1.toNatClampNeg no_apron) v9.toNatClampNeg no_basket) v14.toNatClampNeg no_ground) v19.toNatClampNeg no_bruised) v24.toNatClampNeg no_ladder) v28.toNatClampNeg no_helper) v33.toNatClampNeg no_today) v37.toNatClampNeg no_clock) k) ∧ Int32.toInt ((upd (upd (upd (upd (upd (upd (upd (upd pa_cells v1.toNatClampNeg no_apron) v9.toNatClampNeg no_basket) v14.toNatClampNeg no_ground) v19.toNatClampNeg no_bruised) v24.toNatClampNeg no_ladder) v28.toNatClampNeg no_helper) v33.toNatClampNeg no_today) v37.toNatClampNeg no_clock) k) ≤ 7 := t_updc (C := fun k => k % 8 = 4) e35 (fun hk => by have e9 : v37.toNatClampNeg = (Int32.toInt v37).toNat := rfl; have hk : v37.toNatClampNeg % 8 = 4 := hk; omega)
      have e41 : ∀ k : Nat, k % 8 = 6 → 0 ≤ Int32.toInt ((upd (upd (upd (upd (upd (upd (upd (upd pa_cells v1.toNatClampNeg no_apron) v9.toNatClampNeg no_basket) v14.toNatClampNeg no_ground) v19.toNatClampNeg no_bruised) v24.toNatClampNeg no_ladder) v28.toNatClampNeg no_helper) v33.toNatClampNeg no_today) v37.toNatClampNeg no_clock) k) ∧ Int32.toInt ((upd (upd (upd (upd (upd (upd (upd (upd pa_cells v1.toNatClampNeg no_apron) v9.toNatClampNeg no_basket) v14.toNatClampNeg no_ground) v19.toNatClampNeg no_bruised) v24.toNatClampNeg no_ladder) v28.toNatClampNeg no_helper) v33.toNatClampNeg no_today) v37.toNatClampNeg no_clock) k) ≤ 9 := t_updc (C := fun k => k % 8 = 6) e36 (fun hk => by have e9 : v37.toNatClampNeg = (Int32.toInt v37).toNat := rfl; have hk : v37.toNatClampNeg % 8 = 6 := hk; omega)
      refine t_X9_isYesOrNo  (fun r42 h_r42 => ?_)
      refine And.intro (fun c43 => ?_) (fun c43 => ?_)
      · skip
        have c43 := mt (fa_eq _ _).mpr c43
        refine And.intro (fun c44 => ?_) (fun c44 => ?_)
        · skip
          have c44 := (fa_lt _ _).mp c44
          exact hpost _ _ _ _ _ (by omega) (by omega) e39 e41
        · skip
          have c44 := mt (fa_lt _ _).mpr c44
          intro v45 ev45
          have f46 : Int32.toInt (pa_free + 1) = Int32.toInt pa_free + Int32.toInt (1 : Int32) := ta_add _ _ (by omega)
          rw [← ev45] at f46
          intro v47 ev47
          have f48 : Int32.toInt (v45 - v45 / 13 * 13) = Int32.toInt v45 % 13 := ti_rem _ _ (by decide) (by omega) (by decide)
          rw [← ev47] at f48
          intro v49 ev49
          have f50 : Int32.toInt (pa_undoable + 1) = Int32.toInt pa_undoable + Int32.toInt (1 : Int32) := ta_add _ _ (by omega)
          rw [← ev49] at f50
          intro v51 ev51
          have f52 := ti_min (12 : Int32) v49
          have hv51 := congrArg Int32.toInt ev51
          exact hpost _ _ _ _ _ (by omega) (by omega) e39 e41
      · skip
        have c43 := (fa_eq _ _).mp c43
        refine And.intro (fun _ => ?_) (fun h9 => absurd h9 (by decide))
        exact hpost _ _ _ _ _ (by omega) (by omega) e39 e41
    · skip
      have c4 := mt (fa_le _ _).mpr c4
      exfalso; omega
