set_option maxHeartbeats 8000000 in
set_option maxRecDepth 200000 in
theorem ts_X10_cover_67 {post : Int32 → Prop} {K4 : Int32 → Int32 → Int32 → Prop} {n4 : Int} (aG : Int32) (sH : Nat → Int32) (vZ : 0 ≤ Int32.toInt aG ∧ Int32.toInt aG ≤ 8) (zY : ∀ k : Nat, 0 ≤ Int32.toInt (sH k) ∧ Int32.toInt (sH k) ≤ 65535) (hpost : ∀ (r : Int32) , (-1 ≤ Int32.toInt r ∧ Int32.toInt r ≤ 255) → post r) (hK4 : ∀ (x1 : Int32) (x2 : Int32) (x3 : Int32), (0 ≤ Int32.toInt x1 ∧ Int32.toInt x1 ≤ 65535) → (-1 ≤ Int32.toInt x2 ∧ Int32.toInt x2 ≤ 255) → (0 ≤ Int32.toInt x3 ∧ Int32.toInt x3 ≤ 256) → (256 - Int32.toInt x3 < n4) → K4 x1 x2 x3) (x1 x2 x3 : Int32) (aBK : 0 ≤ Int32.toInt x1 ∧ Int32.toInt x1 ≤ 65535) (aBN : -1 ≤ Int32.toInt x2 ∧ Int32.toInt x2 ≤ 255) (aCH : 0 ≤ Int32.toInt x3 ∧ Int32.toInt x3 ≤ 255) (hn4 : 256 - Int32.toInt x3 ≤ n4) : ws_X10_cover_67 post K4 aG sH x1 x2 x3 := by
  have l0 := aEc
  intro v1 ev1
  have f2 : Int32.toInt (x3 + 1) = Int32.toInt x3 + Int32.toInt (1 : Int32) := aAD _ _ (by omega)
  rw [← ev1] at f2
  exact hK4 x1 x2 v1 aBK aBN (by omega) (by omega)
set_option maxHeartbeats 8000000 in
set_option maxRecDepth 200000 in
theorem ts_X10_cover_65 {post : Int32 → Prop} {K4 : Int32 → Int32 → Int32 → Prop} {n4 : Int} (aG : Int32) (sH : Nat → Int32) (vZ : 0 ≤ Int32.toInt aG ∧ Int32.toInt aG ≤ 8) (zY : ∀ k : Nat, 0 ≤ Int32.toInt (sH k) ∧ Int32.toInt (sH k) ≤ 65535) (hpost : ∀ (r : Int32) , (-1 ≤ Int32.toInt r ∧ Int32.toInt r ≤ 255) → post r) (hK4 : ∀ (x1 : Int32) (x2 : Int32) (x3 : Int32), (0 ≤ Int32.toInt x1 ∧ Int32.toInt x1 ≤ 65535) → (-1 ≤ Int32.toInt x2 ∧ Int32.toInt x2 ≤ 255) → (0 ≤ Int32.toInt x3 ∧ Int32.toInt x3 ≤ 256) → (256 - Int32.toInt x3 < n4) → K4 x1 x2 x3) (x1 x3 : Int32) (aBK : 0 ≤ Int32.toInt x1 ∧ Int32.toInt x1 ≤ 65535) (aCH : 0 ≤ Int32.toInt x3 ∧ Int32.toInt x3 ≤ 255) (hn4 : 256 - Int32.toInt x3 ≤ n4) : ws_X10_cover_65 post K4 aG sH x1 x3 := by
  exact ts_X10_cover_67 aG sH vZ zY hpost hK4 x1 x3 x3 aBK (by omega) aCH hn4
set_option maxHeartbeats 8000000 in
set_option maxRecDepth 200000 in
theorem ts_X10_cover_45 {post : Int32 → Prop} {K4 : Int32 → Int32 → Int32 → Prop} {n4 : Int} (aG : Int32) (sH : Nat → Int32) (vZ : 0 ≤ Int32.toInt aG ∧ Int32.toInt aG ≤ 8) (zY : ∀ k : Nat, 0 ≤ Int32.toInt (sH k) ∧ Int32.toInt (sH k) ≤ 65535) (hpost : ∀ (r : Int32) , (-1 ≤ Int32.toInt r ∧ Int32.toInt r ≤ 255) → post r) (hK4 : ∀ (x1 : Int32) (x2 : Int32) (x3 : Int32), (0 ≤ Int32.toInt x1 ∧ Int32.toInt x1 ≤ 65535) → (-1 ≤ Int32.toInt x2 ∧ Int32.toInt x2 ≤ 255) → (0 ≤ Int32.toInt x3 ∧ Int32.toInt x3 ≤ 256) → (256 - Int32.toInt x3 < n4) → K4 x1 x2 x3) (x1 x2 x3 k0 : Int32) (aBK : 0 ≤ Int32.toInt x1 ∧ Int32.toInt x1 ≤ 65535) (aBN : -1 ≤ Int32.toInt x2 ∧ Int32.toInt x2 ≤ 255) (aCH : 0 ≤ Int32.toInt x3 ∧ Int32.toInt x3 ≤ 255) (h_k0 : -63 ≤ Int32.toInt k0 ∧ Int32.toInt k0 ≤ 63) (hn4 : 256 - Int32.toInt x3 ≤ n4) : ws_X10_cover_45 post K4 aG sH x1 x2 x3 k0 := by
  have l0 := aE0
  have l1 := aEc
  refine And.intro (fun c3 => ?_) (fun c3 => ?_)
  · skip
    have c3 := (aAd _ _).mp c3
    exact ts_X10_cover_65 aG sH vZ zY hpost hK4 x1 x3 aBK aCH hn4
  · skip
    have c3 := mt (aAd _ _).mpr c3
    refine And.intro (fun c4 => ?_) (fun c4 => ?_)
    · skip
      have c4 := mt (zJ _ _).mpr c4
      exact ts_X10_cover_67 aG sH vZ zY hpost hK4 x1 x2 x3 aBK aBN aCH hn4
    · skip
      have c4 := (zJ _ _).mp c4
      intro v5 ev5
      refine t_J6_numberOfTrailingZeros_0f7a4  (fun r6 ox7 => ?_)
      intro v8 ev8
      have f9 := aRJ x3 r6 (by omega)
      have hv8 := congrArg Int32.toInt ev8
      intro v10 ev10
      have f11 := aAQ v8 1 (by omega)
      have f12 := aBx v8 1 (by omega)
      have hv10 := congrArg Int32.toInt ev10
      refine And.intro (fun c13 => ?_) (fun c13 => ?_)
      · skip
        have c13 := mt (zJ _ _).mpr c13
        refine And.intro (aHE (by omega)) ?_
        refine And.intro (fun _ => ?_) (fun h9 => absurd h9 (by decide))
        exact ts_X10_cover_67 aG sH vZ zY hpost hK4 x1 x2 x3 aBK aBN aCH hn4
      · skip
        have c13 := (zJ _ _).mp c13
        refine And.intro (aHE (by omega)) ?_
        refine And.intro (fun h9 => absurd h9 (by decide)) (fun _ => ?_)
        exact ts_X10_cover_65 aG sH vZ zY hpost hK4 x1 x3 aBK aCH hn4
set_option maxHeartbeats 8000000 in
set_option maxRecDepth 200000 in
theorem ts_X10_cover_4 {post : Int32 → Prop} {next : Int32 → Int32 → Int32 → Prop} {n4 : Int} (aG : Int32) (sH : Nat → Int32) (vZ : 0 ≤ Int32.toInt aG ∧ Int32.toInt aG ≤ 8) (zY : ∀ k : Nat, 0 ≤ Int32.toInt (sH k) ∧ Int32.toInt (sH k) ≤ 65535) (hpost : ∀ (r : Int32) , (-1 ≤ Int32.toInt r ∧ Int32.toInt r ≤ 255) → post r) (hKn : ∀ (x1 : Int32) (x2 : Int32) (x3 : Int32), (0 ≤ Int32.toInt x1 ∧ Int32.toInt x1 ≤ 65535) → (-1 ≤ Int32.toInt x2 ∧ Int32.toInt x2 ≤ 255) → (0 ≤ Int32.toInt x3 ∧ Int32.toInt x3 ≤ 256) → (256 - Int32.toInt x3 < n4) → next x1 x2 x3) (x1 x2 x3 : Int32) (aBK : 0 ≤ Int32.toInt x1 ∧ Int32.toInt x1 ≤ 65535) (aBN : -1 ≤ Int32.toInt x2 ∧ Int32.toInt x2 ≤ 255) (aCH : 0 ≤ Int32.toInt x3 ∧ Int32.toInt x3 ≤ 256) (hn4 : 256 - Int32.toInt x3 ≤ n4) : ws_X10_cover_4 post next aG sH x1 x2 x3 := by
  have l0 := aI2
  have l1 := aE0
  have l2 := aEc
  have l3 := aKH
  have l4 := aJ8
  have l5 := li_63
  have l6 := aJ9
  intro v14 ev14
  have f15 := aDv 8 256 aG (by decide) (by omega)
  have hv14 := congrArg Int32.toInt ev14
  have f17 : Int32.toInt (v14 - 1) = Int32.toInt v14 - Int32.toInt (1 : Int32) := aCA _ _ (by omega)
  refine And.intro (fun c16 => ?_) (fun c16 => ?_)
  · skip
    have c16 := (aAd _ _).mp c16
    exact hpost _ aBN
  · skip
    have c16 := mt (aAd _ _).mpr c16
    refine aSL (by omega) vZ zY (fun r18 h_r18 => ?_)
    have f21 := aBx x1 (r18 ^^^ (-1)) (by omega)
    refine And.intro (fun c19 => ?_) (fun c19 => ?_)
    · skip
      have c19Z := c19
      have c19 := (zJ _ _).mp c19
      have s22 := ti_subset x1 r18 (c19Z) (by omega)
      refine And.intro (fun c23 => ?_) (fun c23 => ?_)
      · skip
        have c23 := mt (zJ _ _).mpr c23
        intro v24 ev24
        intro v25 ev25
        have f27 := aAQ v24 1431655765 (by omega)
        have f26 : Int32.toInt (x3 - (v24 &&& 1431655765)) = Int32.toInt x3 - Int32.toInt (v24 &&& 1431655765) := aCA _ _ (by omega)
        rw [← ev25] at f26
        intro v28 ev28
        have f29 := aAQ v25 858993459 (by omega)
        have hv28 := congrArg Int32.toInt ev28
        intro v30 ev30
        intro v31 ev31
        have f33 := aAQ v30 858993459 (by omega)
        have f32 : Int32.toInt (v28 + (v30 &&& 858993459)) = Int32.toInt v28 + Int32.toInt (v30 &&& 858993459) := aAD _ _ (by omega)
        rw [← ev31] at f32
        intro v34 ev34
        have hv34 := congrArg Int32.toInt ev34
        intro v36 ev36
        have f37 := aAQ v34 252645135 (by omega)
        have hv36 := congrArg Int32.toInt ev36
        intro v38 ev38
        have hv38 := congrArg Int32.toInt ev38
        intro v40 ev40
        have hv40 := congrArg Int32.toInt ev40
        intro v42 ev42
        intro v43 ev43
        have f45 := aAQ v42 1431655765 (by omega)
        have f44 : Int32.toInt (x2 - (v42 &&& 1431655765)) = Int32.toInt x2 - Int32.toInt (v42 &&& 1431655765) := aCA _ _ (by omega)
        rw [← ev43] at f44
        intro v46 ev46
        have f47 := aAQ v43 858993459 (by omega)
        have hv46 := congrArg Int32.toInt ev46
        intro v48 ev48
        intro v49 ev49
        have f51 := aAQ v48 858993459 (by omega)
        have f50 : Int32.toInt (v46 + (v48 &&& 858993459)) = Int32.toInt v46 + Int32.toInt (v48 &&& 858993459) := aAD _ _ (by omega)
        rw [← ev49] at f50
        intro v52 ev52
        have hv52 := congrArg Int32.toInt ev52
        intro v54 ev54
        have f55 := aAQ v52 252645135 (by omega)
        have hv54 := congrArg Int32.toInt ev54
        intro v56 ev56
        have hv56 := congrArg Int32.toInt ev56
        intro v58 ev58
        have hv58 := congrArg Int32.toInt ev58
        intro v60 ev60
        have f62 := aAQ v40 63 (by omega)
        have f63 := aAQ v58 63 (by omega)
        have f61 : Int32.toInt ((v40 &&& 63) - (v58 &&& 63)) = Int32.toInt (v40 &&& 63) - Int32.toInt (v58 &&& 63) := aCA _ _ (by omega)
        rw [← ev60] at f61
        exact ts_X10_cover_45 aG sH vZ zY hpost hKn x1 x2 x3 v60 aBK aBN (by omega) (by omega) hn4
      · skip
        have c23 := (zJ _ _).mp c23
        exact ts_X10_cover_45 aG sH vZ zY hpost hKn x1 x2 x3 (-1) aBK aBN (by omega) (by omega) hn4
    · skip
      have c19 := mt (zJ _ _).mpr c19
      exact ts_X10_cover_67 aG sH vZ zY hpost hKn x1 x2 x3 aBK aBN (by omega) hn4
set_option maxHeartbeats 8000000 in
set_option maxRecDepth 200000 in
theorem tb_X10_cover_4 {post : Int32 → Prop} (aG : Int32) (sH : Nat → Int32) (vZ : 0 ≤ Int32.toInt aG ∧ Int32.toInt aG ≤ 8) (zY : ∀ k : Nat, 0 ≤ Int32.toInt (sH k) ∧ Int32.toInt (sH k) ≤ 65535) (hpost : ∀ (r : Int32) , (-1 ≤ Int32.toInt r ∧ Int32.toInt r ≤ 255) → post r) : ∀ (n : Nat) (x1 x2 x3 : Int32), (0 ≤ Int32.toInt x1 ∧ Int32.toInt x1 ≤ 65535) → (-1 ≤ Int32.toInt x2 ∧ Int32.toInt x2 ≤ 255) → (0 ≤ Int32.toInt x3 ∧ Int32.toInt x3 ≤ 256) → (256 - Int32.toInt x3 < (n : Int)) → wb_X10_cover_4 post aG sH n x1 x2 x3 := by
  intro n
  induction n with
  | zero =>
    intro x1 x2 x3 aBK aBN aCH hm
    exfalso; omega
  | succ n ih =>
    intro x1 x2 x3 aBK aBN aCH hm
    exact ts_X10_cover_4 aG sH vZ zY hpost ih x1 x2 x3 aBK aBN aCH (by omega)
set_option maxHeartbeats 8000000 in
set_option maxRecDepth 200000 in
theorem t_X10_cover {post : Int32 → Prop} {p0 aG : Int32} {sH : Nat → Int32} (h_p0 : 0 ≤ Int32.toInt p0 ∧ Int32.toInt p0 ≤ 65535) (vZ : 0 ≤ Int32.toInt aG ∧ Int32.toInt aG ≤ 8) (zY : ∀ k : Nat, 0 ≤ Int32.toInt (sH k) ∧ Int32.toInt (sH k) ≤ 65535) (hpost : ∀ (r : Int32) , (-1 ≤ Int32.toInt r ∧ Int32.toInt r ≤ 255) → post r) : wp_X10_cover post p0 aG sH := by
  have l0 := aI2
  have l1 := aE0
  exact ⟨258, tb_X10_cover_4 aG sH vZ zY hpost _ p0 (-1) 0 h_p0 (by omega) (by omega) (by omega)⟩
set_option maxHeartbeats 8000000 in
set_option maxRecDepth 200000 in
theorem ts_X10_tellCover_34 {post : Int32 → Int32 → (Nat → Int32) → Prop} {K13 : Int32 → Int32 → Int32 → (Nat → Int32) → Prop} {n13 : Int} (aG : Int32) (sH : Nat → Int32) (vZ : 0 ≤ Int32.toInt aG ∧ Int32.toInt aG ≤ 8) (zY : ∀ k : Nat, 0 ≤ Int32.toInt (sH k) ∧ Int32.toInt (sH k) ≤ 65535) (hpost : ∀ (r : Int32) (xM : Int32) (aBX : Nat → Int32), (0 ≤ Int32.toInt r ∧ Int32.toInt r ≤ 63) → (0 ≤ Int32.toInt xM ∧ Int32.toInt xM ≤ 16) → post r xM aBX) (hK13 : ∀ (x2 : Int32) (x3 : Int32) (bL : Int32) (sW : Nat → Int32), (-1 ≤ Int32.toInt x2 ∧ Int32.toInt x2 ≤ 255) → (0 ≤ Int32.toInt x3 ∧ Int32.toInt x3 ≤ 8) → (0 ≤ Int32.toInt bL ∧ Int32.toInt bL ≤ 16) → (Int32.toInt bL ≤ Int32.toInt x3) → (8 - Int32.toInt x3 < n13) → K13 x2 x3 bL sW) (x2 x3 bL : Int32) (sW : Nat → Int32) (aBN : -1 ≤ Int32.toInt x2 ∧ Int32.toInt x2 ≤ 255) (aCH : 0 ≤ Int32.toInt x3 ∧ Int32.toInt x3 ≤ 7) (yJ : 0 ≤ Int32.toInt bL ∧ Int32.toInt bL ≤ 16) (hx0 : Int32.toInt bL ≤ Int32.toInt x3 + 1) (hn13 : 8 - Int32.toInt x3 ≤ n13) : ws_X10_tellCover_34 post K13 aG sH x2 x3 bL sW := by
  have l0 := aEc
  intro v1 ev1
  have f2 : Int32.toInt (x3 + 1) = Int32.toInt x3 + Int32.toInt (1 : Int32) := aAD _ _ (by omega)
  rw [← ev1] at f2
  exact hK13 x2 v1 bL sW aBN (by omega) yJ (by omega) (by omega)
set_option maxHeartbeats 8000000 in
set_option maxRecDepth 200000 in
theorem ts_X10_tellCover_13 {post : Int32 → Int32 → (Nat → Int32) → Prop} {next : Int32 → Int32 → Int32 → (Nat → Int32) → Prop} {n13 : Int} (aG : Int32) (sH : Nat → Int32) (vZ : 0 ≤ Int32.toInt aG ∧ Int32.toInt aG ≤ 8) (zY : ∀ k : Nat, 0 ≤ Int32.toInt (sH k) ∧ Int32.toInt (sH k) ≤ 65535) (hpost : ∀ (r : Int32) (xM : Int32) (aBX : Nat → Int32), (0 ≤ Int32.toInt r ∧ Int32.toInt r ≤ 63) → (0 ≤ Int32.toInt xM ∧ Int32.toInt xM ≤ 16) → post r xM aBX) (hKn : ∀ (x2 : Int32) (x3 : Int32) (bL : Int32) (sW : Nat → Int32), (-1 ≤ Int32.toInt x2 ∧ Int32.toInt x2 ≤ 255) → (0 ≤ Int32.toInt x3 ∧ Int32.toInt x3 ≤ 8) → (0 ≤ Int32.toInt bL ∧ Int32.toInt bL ≤ 16) → (Int32.toInt bL ≤ Int32.toInt x3) → (8 - Int32.toInt x3 < n13) → next x2 x3 bL sW) (x2 x3 bL : Int32) (sW : Nat → Int32) (aBN : -1 ≤ Int32.toInt x2 ∧ Int32.toInt x2 ≤ 255) (aCH : 0 ≤ Int32.toInt x3 ∧ Int32.toInt x3 ≤ 8) (yJ : 0 ≤ Int32.toInt bL ∧ Int32.toInt bL ≤ 16) (hx0 : Int32.toInt bL ≤ Int32.toInt x3) (hn13 : 8 - Int32.toInt x3 ≤ n13) : ws_X10_tellCover_13 post next aG sH x2 x3 bL sW := by
  have l0 := aEc
  have l1 := aKH
  have l2 := aJ8
  have l3 := li_63
  have l4 := aJ9
  refine And.intro (fun c3 => ?_) (fun c3 => ?_)
  · skip
    have c3 := (aAO _ _).mp c3
    intro v4 ev4
    intro v5 ev5
    have f7 := aAQ v4 1431655765 (by omega)
    have f6 : Int32.toInt (x2 - (v4 &&& 1431655765)) = Int32.toInt x2 - Int32.toInt (v4 &&& 1431655765) := aCA _ _ (by omega)
    rw [← ev5] at f6
    intro v8 ev8
    have f9 := aAQ v5 858993459 (by omega)
    have hv8 := congrArg Int32.toInt ev8
    intro v10 ev10
    intro v11 ev11
    have f13 := aAQ v10 858993459 (by omega)
    have f12 : Int32.toInt (v8 + (v10 &&& 858993459)) = Int32.toInt v8 + Int32.toInt (v10 &&& 858993459) := aAD _ _ (by omega)
    rw [← ev11] at f12
    intro v14 ev14
    have hv14 := congrArg Int32.toInt ev14
    intro v16 ev16
    have f17 := aAQ v14 252645135 (by omega)
    have hv16 := congrArg Int32.toInt ev16
    intro v18 ev18
    have hv18 := congrArg Int32.toInt ev18
    intro v20 ev20
    have hv20 := congrArg Int32.toInt ev20
    have f22 := aAQ v20 63 (by omega)
    exact hpost _ _ _ (by omega) yJ
  · skip
    have c3 := mt (aAO _ _).mpr c3
    intro v23 ev23
    intro v24 ev24
    have f25 := aAQ v23 1 (by omega)
    have hv24 := congrArg Int32.toInt ev24
    refine And.intro (fun c26 => ?_) (fun c26 => ?_)
    · skip
      have c26 := mt (zJ _ _).mpr c26
      refine And.intro (fun _ => ?_) (fun h9 => absurd h9 (by decide))
      exact ts_X10_tellCover_34 aG sH vZ zY hpost hKn x2 x3 bL sW aBN (by omega) yJ (by omega) hn13
    · skip
      have c26 := (zJ _ _).mp c26
      refine And.intro (fun h9 => absurd h9 (by decide)) (fun _ => ?_)
      refine And.intro (aBZ (by omega)) ?_
      intro v27 ev27
      have f28 : Int32.toInt (bL + 1) = Int32.toInt bL + Int32.toInt (1 : Int32) := aAD _ _ (by omega)
      rw [← ev27] at f28
      exact ts_X10_tellCover_34 aG sH vZ zY hpost hKn x2 x3 v27 (upd sW bL.toNatClampNeg x3) aBN (by omega) (by omega) (by omega) hn13
set_option maxHeartbeats 8000000 in
set_option maxRecDepth 200000 in
theorem tb_X10_tellCover_13 {post : Int32 → Int32 → (Nat → Int32) → Prop} (aG : Int32) (sH : Nat → Int32) (vZ : 0 ≤ Int32.toInt aG ∧ Int32.toInt aG ≤ 8) (zY : ∀ k : Nat, 0 ≤ Int32.toInt (sH k) ∧ Int32.toInt (sH k) ≤ 65535) (hpost : ∀ (r : Int32) (xM : Int32) (aBX : Nat → Int32), (0 ≤ Int32.toInt r ∧ Int32.toInt r ≤ 63) → (0 ≤ Int32.toInt xM ∧ Int32.toInt xM ≤ 16) → post r xM aBX) : ∀ (n : Nat) (x2 x3 bL : Int32) (sW : Nat → Int32), (-1 ≤ Int32.toInt x2 ∧ Int32.toInt x2 ≤ 255) → (0 ≤ Int32.toInt x3 ∧ Int32.toInt x3 ≤ 8) → (0 ≤ Int32.toInt bL ∧ Int32.toInt bL ≤ 16) → (Int32.toInt bL ≤ Int32.toInt x3) → (8 - Int32.toInt x3 < (n : Int)) → wb_X10_tellCover_13 post aG sH n x2 x3 bL sW := by
  intro n
  induction n with
  | zero =>
    intro x2 x3 bL sW aBN aCH yJ hx0 hm
    exfalso; omega
  | succ n ih =>
    intro x2 x3 bL sW aBN aCH yJ hx0 hm
    exact ts_X10_tellCover_13 aG sH vZ zY hpost ih x2 x3 bL sW aBN aCH yJ hx0 (by omega)
set_option maxHeartbeats 8000000 in
set_option maxRecDepth 200000 in
theorem t_X10_tellCover {post : Int32 → Int32 → (Nat → Int32) → Prop} {p0 aG bL : Int32} {sW sH : Nat → Int32} (h_p0 : 0 ≤ Int32.toInt p0 ∧ Int32.toInt p0 ≤ 65535) (vZ : 0 ≤ Int32.toInt aG ∧ Int32.toInt aG ≤ 8) (yJ : 0 ≤ Int32.toInt bL ∧ Int32.toInt bL ≤ 16) (zY : ∀ k : Nat, 0 ≤ Int32.toInt (sH k) ∧ Int32.toInt (sH k) ≤ 65535) (hpost : ∀ (r : Int32) (xM : Int32) (aBX : Nat → Int32), (0 ≤ Int32.toInt r ∧ Int32.toInt r ≤ 63) → (0 ≤ Int32.toInt xM ∧ Int32.toInt xM ≤ 16) → post r xM aBX) : wp_X10_tellCover post p0 aG bL sW sH := by
  have l0 := aE0
  refine t_X10_cover h_p0 vZ zY (fun r29 h_r29 => ?_)
  exact ⟨10, tb_X10_tellCover_13 aG sH vZ zY hpost _ r29 0 0 sW h_r29 (by omega) (by omega) (by omega) (by omega)⟩
set_option maxHeartbeats 8000000 in
set_option maxRecDepth 200000 in
theorem t_X10_fewest {post : Int32 → Int32 → Int32 → Int32 → (Nat → Int32) → (Nat → Int32) → Prop} {SB : Int} {bT aG bL bY dO : Int32} {qG m_x gR qR nG oO pJ sW sH : Nat → Int32} (xJ : 0 ≤ Int32.toInt bT ∧ Int32.toInt bT ≤ 16) (vZ : 0 ≤ Int32.toInt aG ∧ Int32.toInt aG ≤ 8) (yJ : 0 ≤ Int32.toInt bL ∧ Int32.toInt bL ≤ 16) (yG : 0 ≤ Int32.toInt bY ∧ Int32.toInt bY ≤ 1) (aAH : 0 ≤ Int32.toInt dO ∧ Int32.toInt dO ≤ 65535) (xU : ∀ k : Nat, k = 17 → -1 ≤ Int32.toInt (qG k) ∧ Int32.toInt (qG k) ≤ SB) (xV : ∀ k : Nat, k = 19 → 0 ≤ Int32.toInt (qG k) ∧ Int32.toInt (qG k) ≤ 9) (aAW : ∀ k : Nat, 0 ≤ Int32.toInt (m_x k) ∧ Int32.toInt (m_x k) ≤ 99) (xK : ∀ k : Nat, 0 ≤ Int32.toInt (gR k) ∧ Int32.toInt (gR k) ≤ 99) (zM : ∀ k : Nat, 0 ≤ Int32.toInt (qR k) ∧ Int32.toInt (qR k) ≤ 9) (xT : ∀ k : Nat, 0 ≤ Int32.toInt (nG k) ∧ Int32.toInt (nG k) ≤ 99) (yF : ∀ k : Nat, 0 ≤ Int32.toInt (oO k) ∧ Int32.toInt (oO k) ≤ 99) (yD : ∀ k : Nat, k = 4 → 1 ≤ Int32.toInt (pJ k) ∧ Int32.toInt (pJ k) ≤ 30) (xZ : ∀ k : Nat, k = 3 → 0 ≤ Int32.toInt (pJ k) ∧ Int32.toInt (pJ k) ≤ 9) (zY : ∀ k : Nat, 0 ≤ Int32.toInt (sH k) ∧ Int32.toInt (sH k) ≤ 65535) (hc0 : -1 ≤ SB ∧ SB ≤ 7) (hc1 : (Int32.toInt aG ≤ 0 ∧ SB = 0) ∨ (1 ≤ Int32.toInt aG ∧ SB = Int32.toInt aG - 1)) (hpost : ∀ (r : Int32) (xM : Int32) (xG : Int32) (aAS : Int32) (aBX : Nat → Int32) (aA5 : Nat → Int32), (0 ≤ Int32.toInt r ∧ Int32.toInt r ≤ 63) → (0 ≤ Int32.toInt xM ∧ Int32.toInt xM ≤ 16) → (0 ≤ Int32.toInt xG ∧ Int32.toInt xG ≤ 0) → (0 ≤ Int32.toInt aAS ∧ Int32.toInt aAS ≤ 65535) → (∀ k : Nat, 0 ≤ Int32.toInt (aA5 k) ∧ Int32.toInt (aA5 k) ≤ 65535) → post r xM xG aAS aBX aA5) : wp_X10_fewest post bT aG bL bY dO qG m_x gR qR nG oO pJ sW sH := by
  have l0 := aE0
  have l1 := li_18
  intro v1 ev1
  have hv1 := congrArg Int32.toInt ev1
  refine aLb xJ vZ aAH xU xV aAW xK zM xT yF yD xZ zY (by omega) (by omega) (fun aC5 aF5 h_m_wanted_3 h_m_hand_4 => ?_)
  refine t_X10_tellCover h_m_wanted_3 vZ yJ h_m_hand_4 (fun r7 aSZ m_row_6 h_r7 h_m_rowMany_5 => ?_)
  exact hpost _ _ _ _ _ _ h_r7 h_m_rowMany_5 (by omega) h_m_wanted_3 h_m_hand_4
set_option maxHeartbeats 8000000 in
set_option maxRecDepth 200000 in
theorem ts_X10_needed_105 {post : Int32 → Int32 → Int32 → Int32 → (Nat → Int32) → (Nat → Int32) → Prop} {SB : Int} {K15 : Int32 → Int32 → Int32 → Int32 → Int32 → Int32 → (Nat → Int32) → (Nat → Int32) → Prop} {n15 : Int} (bT aG : Int32) (qG m_x gR qR nG oO pJ : Nat → Int32) (xJ : 0 ≤ Int32.toInt bT ∧ Int32.toInt bT ≤ 16) (vZ : 0 ≤ Int32.toInt aG ∧ Int32.toInt aG ≤ 8) (xU : ∀ k : Nat, k = 17 → -1 ≤ Int32.toInt (qG k) ∧ Int32.toInt (qG k) ≤ SB) (xV : ∀ k : Nat, k = 19 → 0 ≤ Int32.toInt (qG k) ∧ Int32.toInt (qG k) ≤ 9) (aAW : ∀ k : Nat, 0 ≤ Int32.toInt (m_x k) ∧ Int32.toInt (m_x k) ≤ 99) (xK : ∀ k : Nat, 0 ≤ Int32.toInt (gR k) ∧ Int32.toInt (gR k) ≤ 99) (zM : ∀ k : Nat, 0 ≤ Int32.toInt (qR k) ∧ Int32.toInt (qR k) ≤ 9) (xT : ∀ k : Nat, 0 ≤ Int32.toInt (nG k) ∧ Int32.toInt (nG k) ≤ 99) (yF : ∀ k : Nat, 0 ≤ Int32.toInt (oO k) ∧ Int32.toInt (oO k) ≤ 99) (yD : ∀ k : Nat, k = 4 → 1 ≤ Int32.toInt (pJ k) ∧ Int32.toInt (pJ k) ≤ 30) (xZ : ∀ k : Nat, k = 3 → 0 ≤ Int32.toInt (pJ k) ∧ Int32.toInt (pJ k) ≤ 9) (hc0 : -1 ≤ SB ∧ SB ≤ 7) (hc1 : (Int32.toInt aG ≤ 0 ∧ SB = 0) ∨ (1 ≤ Int32.toInt aG ∧ SB = Int32.toInt aG - 1)) (hpost : ∀ (r : Int32) (xM : Int32) (xG : Int32) (aAS : Int32) (aBX : Nat → Int32) (aA5 : Nat → Int32), (0 ≤ Int32.toInt r ∧ Int32.toInt r ≤ 255) → (1 ≤ Int32.toInt xM ∧ Int32.toInt xM ≤ 1) → (0 ≤ Int32.toInt xG ∧ Int32.toInt xG ≤ 0) → (0 ≤ Int32.toInt aAS ∧ Int32.toInt aAS ≤ 65535) → (∀ k : Nat, 0 ≤ Int32.toInt (aA5 k) ∧ Int32.toInt (aA5 k) ≤ 65535) → post r xM xG aAS aBX aA5) (hK15 : ∀ (x1 : Int32) (x2 : Int32) (x3 : Int32) (bL : Int32) (bY : Int32) (dO : Int32) (sW : Nat → Int32) (sH : Nat → Int32), (0 ≤ Int32.toInt x1 ∧ Int32.toInt x1 ≤ 255) → (0 ≤ Int32.toInt x2 ∧ Int32.toInt x2 ≤ 65535) → (0 ≤ Int32.toInt x3 ∧ Int32.toInt x3 ≤ 16) → (0 ≤ Int32.toInt bL ∧ Int32.toInt bL ≤ 16) → (0 ≤ Int32.toInt bY ∧ Int32.toInt bY ≤ 0) → (0 ≤ Int32.toInt dO ∧ Int32.toInt dO ≤ 65535) → (∀ k : Nat, 0 ≤ Int32.toInt (sH k) ∧ Int32.toInt (sH k) ≤ 65535) → (16 - Int32.toInt x3 < n15) → K15 x1 x2 x3 bL bY dO sW sH) (x1 x2 x3 bL bY dO : Int32) (sW sH : Nat → Int32) (aBK : 0 ≤ Int32.toInt x1 ∧ Int32.toInt x1 ≤ 255) (aBN : 0 ≤ Int32.toInt x2 ∧ Int32.toInt x2 ≤ 65535) (aCH : 0 ≤ Int32.toInt x3 ∧ Int32.toInt x3 ≤ 15) (yJ : 0 ≤ Int32.toInt bL ∧ Int32.toInt bL ≤ 16) (yG : 0 ≤ Int32.toInt bY ∧ Int32.toInt bY ≤ 0) (aAH : 0 ≤ Int32.toInt dO ∧ Int32.toInt dO ≤ 65535) (zY : ∀ k : Nat, 0 ≤ Int32.toInt (sH k) ∧ Int32.toInt (sH k) ≤ 65535) (hn15 : 16 - Int32.toInt x3 ≤ n15) : ws_X10_needed_105 post K15 bT aG qG m_x gR qR nG oO pJ x1 x2 x3 bL bY dO sW sH := by
  have l0 := aEc
  intro v1 ev1
  have f2 : Int32.toInt (x3 + 1) = Int32.toInt x3 + Int32.toInt (1 : Int32) := aAD _ _ (by omega)
  rw [← ev1] at f2
  exact hK15 x1 x2 v1 bL bY dO sW sH aBK aBN (by omega) yJ yG aAH zY (by omega)
set_option maxHeartbeats 8000000 in
set_option maxRecDepth 200000 in
theorem ts_X10_needed_62 {post : Int32 → Int32 → Int32 → Int32 → (Nat → Int32) → (Nat → Int32) → Prop} {SB : Int} {K15 : Int32 → Int32 → Int32 → Int32 → Int32 → Int32 → (Nat → Int32) → (Nat → Int32) → Prop} {K29 : Int32 → Int32 → Int32 → Int32 → Int32 → Int32 → Int32 → Int32 → (Nat → Int32) → (Nat → Int32) → Prop} {n15 n29 : Int} (bT aG : Int32) (qG m_x gR qR nG oO pJ : Nat → Int32) (xJ : 0 ≤ Int32.toInt bT ∧ Int32.toInt bT ≤ 16) (vZ : 0 ≤ Int32.toInt aG ∧ Int32.toInt aG ≤ 8) (xU : ∀ k : Nat, k = 17 → -1 ≤ Int32.toInt (qG k) ∧ Int32.toInt (qG k) ≤ SB) (xV : ∀ k : Nat, k = 19 → 0 ≤ Int32.toInt (qG k) ∧ Int32.toInt (qG k) ≤ 9) (aAW : ∀ k : Nat, 0 ≤ Int32.toInt (m_x k) ∧ Int32.toInt (m_x k) ≤ 99) (xK : ∀ k : Nat, 0 ≤ Int32.toInt (gR k) ∧ Int32.toInt (gR k) ≤ 99) (zM : ∀ k : Nat, 0 ≤ Int32.toInt (qR k) ∧ Int32.toInt (qR k) ≤ 9) (xT : ∀ k : Nat, 0 ≤ Int32.toInt (nG k) ∧ Int32.toInt (nG k) ≤ 99) (yF : ∀ k : Nat, 0 ≤ Int32.toInt (oO k) ∧ Int32.toInt (oO k) ≤ 99) (yD : ∀ k : Nat, k = 4 → 1 ≤ Int32.toInt (pJ k) ∧ Int32.toInt (pJ k) ≤ 30) (xZ : ∀ k : Nat, k = 3 → 0 ≤ Int32.toInt (pJ k) ∧ Int32.toInt (pJ k) ≤ 9) (hc0 : -1 ≤ SB ∧ SB ≤ 7) (hc1 : (Int32.toInt aG ≤ 0 ∧ SB = 0) ∨ (1 ≤ Int32.toInt aG ∧ SB = Int32.toInt aG - 1)) (hpost : ∀ (r : Int32) (xM : Int32) (xG : Int32) (aAS : Int32) (aBX : Nat → Int32) (aA5 : Nat → Int32), (0 ≤ Int32.toInt r ∧ Int32.toInt r ≤ 255) → (1 ≤ Int32.toInt xM ∧ Int32.toInt xM ≤ 1) → (0 ≤ Int32.toInt xG ∧ Int32.toInt xG ≤ 0) → (0 ≤ Int32.toInt aAS ∧ Int32.toInt aAS ≤ 65535) → (∀ k : Nat, 0 ≤ Int32.toInt (aA5 k) ∧ Int32.toInt (aA5 k) ≤ 65535) → post r xM xG aAS aBX aA5) (hK15 : ∀ (x1 : Int32) (x2 : Int32) (x3 : Int32) (bL : Int32) (bY : Int32) (dO : Int32) (sW : Nat → Int32) (sH : Nat → Int32), (0 ≤ Int32.toInt x1 ∧ Int32.toInt x1 ≤ 255) → (0 ≤ Int32.toInt x2 ∧ Int32.toInt x2 ≤ 65535) → (0 ≤ Int32.toInt x3 ∧ Int32.toInt x3 ≤ 16) → (0 ≤ Int32.toInt bL ∧ Int32.toInt bL ≤ 16) → (0 ≤ Int32.toInt bY ∧ Int32.toInt bY ≤ 0) → (0 ≤ Int32.toInt dO ∧ Int32.toInt dO ≤ 65535) → (∀ k : Nat, 0 ≤ Int32.toInt (sH k) ∧ Int32.toInt (sH k) ≤ 65535) → (16 - Int32.toInt x3 < n15) → K15 x1 x2 x3 bL bY dO sW sH) (hK29 : ∀ (x1 : Int32) (x2 : Int32) (x3 : Int32) (x4 : Int32) (x5 : Int32) (bL : Int32) (bY : Int32) (dO : Int32) (sW : Nat → Int32) (sH : Nat → Int32), (0 ≤ Int32.toInt x1 ∧ Int32.toInt x1 ≤ 255) → (0 ≤ Int32.toInt x2 ∧ Int32.toInt x2 ≤ 65535) → (0 ≤ Int32.toInt x3 ∧ Int32.toInt x3 ≤ 15) → (0 ≤ Int32.toInt x4 ∧ Int32.toInt x4 ≤ 255) → (0 ≤ Int32.toInt x5 ∧ Int32.toInt x5 ≤ 8) → (0 ≤ Int32.toInt bL ∧ Int32.toInt bL ≤ 16) → (0 ≤ Int32.toInt bY ∧ Int32.toInt bY ≤ 0) → (0 ≤ Int32.toInt dO ∧ Int32.toInt dO ≤ 65535) → (∀ k : Nat, 0 ≤ Int32.toInt (sH k) ∧ Int32.toInt (sH k) ≤ 65535) → (16 - Int32.toInt x3 ≤ n15) → (8 - Int32.toInt x5 < n29) → K29 x1 x2 x3 x4 x5 bL bY dO sW sH) (x1 x2 x3 x5 k0 k1 bL bY dO : Int32) (sW sH : Nat → Int32) (aBK : 0 ≤ Int32.toInt x1 ∧ Int32.toInt x1 ≤ 255) (aBN : 0 ≤ Int32.toInt x2 ∧ Int32.toInt x2 ≤ 65535) (aCH : 0 ≤ Int32.toInt x3 ∧ Int32.toInt x3 ≤ 15) (aF7 : 0 ≤ Int32.toInt x5 ∧ Int32.toInt x5 ≤ 7) (h_k0 : 0 ≤ Int32.toInt k0 ∧ Int32.toInt k0 ≤ 255) (h_k1 : 0 ≤ Int32.toInt k1 ∧ Int32.toInt k1 ≤ 128) (yJ : 0 ≤ Int32.toInt bL ∧ Int32.toInt bL ≤ 16) (yG : 0 ≤ Int32.toInt bY ∧ Int32.toInt bY ≤ 0) (aAH : 0 ≤ Int32.toInt dO ∧ Int32.toInt dO ≤ 65535) (zY : ∀ k : Nat, 0 ≤ Int32.toInt (sH k) ∧ Int32.toInt (sH k) ≤ 65535) (hn15 : 16 - Int32.toInt x3 ≤ n15) (hn29 : 8 - Int32.toInt x5 ≤ n29) : ws_X10_needed_62 post K15 K29 bT aG qG m_x gR qR nG oO pJ x1 x2 x3 x5 k0 k1 bL bY dO sW sH := by
  have l0 := aEc
  intro v3 ev3
  have f4 := ti_or 8 256 k0 k1 (by decide) (by omega) (by omega)
  have hv3 := congrArg Int32.toInt ev3
  intro v5 ev5
  have f6 : Int32.toInt (x5 + 1) = Int32.toInt x5 + Int32.toInt (1 : Int32) := aAD _ _ (by omega)
  rw [← ev5] at f6
  exact hK29 x1 x2 x3 v3 v5 bL bY dO sW sH aBK aBN aCH (by omega) (by omega) yJ yG aAH zY hn15 (by omega)
set_option maxHeartbeats 8000000 in
set_option maxRecDepth 200000 in
theorem ts_X10_needed_29 {post : Int32 → Int32 → Int32 → Int32 → (Nat → Int32) → (Nat → Int32) → Prop} {SB : Int} {K15 : Int32 → Int32 → Int32 → Int32 → Int32 → Int32 → (Nat → Int32) → (Nat → Int32) → Prop} {next : Int32 → Int32 → Int32 → Int32 → Int32 → Int32 → Int32 → Int32 → (Nat → Int32) → (Nat → Int32) → Prop} {n29 n15 : Int} (bT aG : Int32) (qG m_x gR qR nG oO pJ : Nat → Int32) (xJ : 0 ≤ Int32.toInt bT ∧ Int32.toInt bT ≤ 16) (vZ : 0 ≤ Int32.toInt aG ∧ Int32.toInt aG ≤ 8) (xU : ∀ k : Nat, k = 17 → -1 ≤ Int32.toInt (qG k) ∧ Int32.toInt (qG k) ≤ SB) (xV : ∀ k : Nat, k = 19 → 0 ≤ Int32.toInt (qG k) ∧ Int32.toInt (qG k) ≤ 9) (aAW : ∀ k : Nat, 0 ≤ Int32.toInt (m_x k) ∧ Int32.toInt (m_x k) ≤ 99) (xK : ∀ k : Nat, 0 ≤ Int32.toInt (gR k) ∧ Int32.toInt (gR k) ≤ 99) (zM : ∀ k : Nat, 0 ≤ Int32.toInt (qR k) ∧ Int32.toInt (qR k) ≤ 9) (xT : ∀ k : Nat, 0 ≤ Int32.toInt (nG k) ∧ Int32.toInt (nG k) ≤ 99) (yF : ∀ k : Nat, 0 ≤ Int32.toInt (oO k) ∧ Int32.toInt (oO k) ≤ 99) (yD : ∀ k : Nat, k = 4 → 1 ≤ Int32.toInt (pJ k) ∧ Int32.toInt (pJ k) ≤ 30) (xZ : ∀ k : Nat, k = 3 → 0 ≤ Int32.toInt (pJ k) ∧ Int32.toInt (pJ k) ≤ 9) (hc0 : -1 ≤ SB ∧ SB ≤ 7) (hc1 : (Int32.toInt aG ≤ 0 ∧ SB = 0) ∨ (1 ≤ Int32.toInt aG ∧ SB = Int32.toInt aG - 1)) (hpost : ∀ (r : Int32) (xM : Int32) (xG : Int32) (aAS : Int32) (aBX : Nat → Int32) (aA5 : Nat → Int32), (0 ≤ Int32.toInt r ∧ Int32.toInt r ≤ 255) → (1 ≤ Int32.toInt xM ∧ Int32.toInt xM ≤ 1) → (0 ≤ Int32.toInt xG ∧ Int32.toInt xG ≤ 0) → (0 ≤ Int32.toInt aAS ∧ Int32.toInt aAS ≤ 65535) → (∀ k : Nat, 0 ≤ Int32.toInt (aA5 k) ∧ Int32.toInt (aA5 k) ≤ 65535) → post r xM xG aAS aBX aA5) (hK15 : ∀ (x1 : Int32) (x2 : Int32) (x3 : Int32) (bL : Int32) (bY : Int32) (dO : Int32) (sW : Nat → Int32) (sH : Nat → Int32), (0 ≤ Int32.toInt x1 ∧ Int32.toInt x1 ≤ 255) → (0 ≤ Int32.toInt x2 ∧ Int32.toInt x2 ≤ 65535) → (0 ≤ Int32.toInt x3 ∧ Int32.toInt x3 ≤ 16) → (0 ≤ Int32.toInt bL ∧ Int32.toInt bL ≤ 16) → (0 ≤ Int32.toInt bY ∧ Int32.toInt bY ≤ 0) → (0 ≤ Int32.toInt dO ∧ Int32.toInt dO ≤ 65535) → (∀ k : Nat, 0 ≤ Int32.toInt (sH k) ∧ Int32.toInt (sH k) ≤ 65535) → (16 - Int32.toInt x3 < n15) → K15 x1 x2 x3 bL bY dO sW sH) (hKn : ∀ (x1 : Int32) (x2 : Int32) (x3 : Int32) (x4 : Int32) (x5 : Int32) (bL : Int32) (bY : Int32) (dO : Int32) (sW : Nat → Int32) (sH : Nat → Int32), (0 ≤ Int32.toInt x1 ∧ Int32.toInt x1 ≤ 255) → (0 ≤ Int32.toInt x2 ∧ Int32.toInt x2 ≤ 65535) → (0 ≤ Int32.toInt x3 ∧ Int32.toInt x3 ≤ 15) → (0 ≤ Int32.toInt x4 ∧ Int32.toInt x4 ≤ 255) → (0 ≤ Int32.toInt x5 ∧ Int32.toInt x5 ≤ 8) → (0 ≤ Int32.toInt bL ∧ Int32.toInt bL ≤ 16) → (0 ≤ Int32.toInt bY ∧ Int32.toInt bY ≤ 0) → (0 ≤ Int32.toInt dO ∧ Int32.toInt dO ≤ 65535) → (∀ k : Nat, 0 ≤ Int32.toInt (sH k) ∧ Int32.toInt (sH k) ≤ 65535) → (16 - Int32.toInt x3 ≤ n15) → (8 - Int32.toInt x5 < n29) → next x1 x2 x3 x4 x5 bL bY dO sW sH) (x1 x2 x3 x4 x5 bL bY dO : Int32) (sW sH : Nat → Int32) (aBK : 0 ≤ Int32.toInt x1 ∧ Int32.toInt x1 ≤ 255) (aBN : 0 ≤ Int32.toInt x2 ∧ Int32.toInt x2 ≤ 65535) (aCH : 0 ≤ Int32.toInt x3 ∧ Int32.toInt x3 ≤ 15) (aDO : 0 ≤ Int32.toInt x4 ∧ Int32.toInt x4 ≤ 255) (aF7 : 0 ≤ Int32.toInt x5 ∧ Int32.toInt x5 ≤ 8) (yJ : 0 ≤ Int32.toInt bL ∧ Int32.toInt bL ≤ 16) (yG : 0 ≤ Int32.toInt bY ∧ Int32.toInt bY ≤ 0) (aAH : 0 ≤ Int32.toInt dO ∧ Int32.toInt dO ≤ 65535) (zY : ∀ k : Nat, 0 ≤ Int32.toInt (sH k) ∧ Int32.toInt (sH k) ≤ 65535) (hn15 : 16 - Int32.toInt x3 ≤ n15) (hn29 : 8 - Int32.toInt x5 ≤ n29) : ws_X10_needed_29 post K15 next bT aG qG m_x gR qR nG oO pJ x1 x2 x3 x4 x5 bL bY dO sW sH := by
  have l0 := aE0
  have l1 := aEc
  have l2 := aKH
  have l3 := aJ8
  have l4 := li_63
  have l5 := aJ9
  refine And.intro (fun c7 => ?_) (fun c7 => ?_)
  · skip
    have c7 := (aAO _ _).mp c7
    intro v8 ev8
    have f9 := aRJ dO x3 (by omega)
    have hv8 := congrArg Int32.toInt ev8
    intro v10 ev10
    have f11 := aAQ v8 1 (by omega)
    have f12 := aBx v8 1 (by omega)
    have hv10 := congrArg Int32.toInt ev10
    refine And.intro (fun c13 => ?_) (fun c13 => ?_)
    · skip
      have c13 := mt (zJ _ _).mpr c13
      refine And.intro (fun _ => ?_) (fun h9 => absurd h9 (by decide))
      exact ts_X10_needed_105 bT aG qG m_x gR qR nG oO pJ xJ vZ xU xV aAW xK zM xT yF yD xZ hc0 hc1 hpost hK15 x1 x2 x3 bL bY dO sW sH aBK aBN aCH yJ yG aAH zY hn15
    · skip
      have c13 := (zJ _ _).mp c13
      refine And.intro (fun h9 => absurd h9 (by decide)) (fun _ => ?_)
      intro v14 ev14
      intro v15 ev15
      have f17 := aAQ v14 1431655765 (by omega)
      have f16 : Int32.toInt (x4 - (v14 &&& 1431655765)) = Int32.toInt x4 - Int32.toInt (v14 &&& 1431655765) := aCA _ _ (by omega)
      rw [← ev15] at f16
      intro v18 ev18
      have f19 := aAQ v15 858993459 (by omega)
      have hv18 := congrArg Int32.toInt ev18
      intro v20 ev20
      intro v21 ev21
      have f23 := aAQ v20 858993459 (by omega)
      have f22 : Int32.toInt (v18 + (v20 &&& 858993459)) = Int32.toInt v18 + Int32.toInt (v20 &&& 858993459) := aAD _ _ (by omega)
      rw [← ev21] at f22
      intro v24 ev24
      have hv24 := congrArg Int32.toInt ev24
      intro v26 ev26
      have f27 := aAQ v24 252645135 (by omega)
      have hv26 := congrArg Int32.toInt ev26
      intro v28 ev28
      have hv28 := congrArg Int32.toInt ev28
      intro v30 ev30
      have hv30 := congrArg Int32.toInt ev30
      have f33 := aAQ v30 63 (by omega)
      refine And.intro (fun c32 => ?_) (fun c32 => ?_)
      · skip
        have c32 := (zJ _ _).mp c32
        intro v34 ev34
        have f35 := ti_or 8 256 x1 x4 (by decide) (by omega) (by omega)
        have hv34 := congrArg Int32.toInt ev34
        intro v36 ev36
        have f38 := aDv 15 32768 x3 (by decide) (by omega)
        have f37 := ti_or 16 65536 x2 (1 <<< (x3 &&& 31)) (by decide) (by omega) (by omega)
        have hv36 := congrArg Int32.toInt ev36
        exact ts_X10_needed_105 bT aG qG m_x gR qR nG oO pJ xJ vZ xU xV aAW xK zM xT yF yD xZ hc0 hc1 hpost hK15 v34 v36 x3 bL bY dO sW sH (by omega) (by omega) aCH yJ yG aAH zY hn15
      · skip
        have c32 := mt (zJ _ _).mpr c32
        exact ts_X10_needed_105 bT aG qG m_x gR qR nG oO pJ xJ vZ xU xV aAW xK zM xT yF yD xZ hc0 hc1 hpost hK15 x1 x2 x3 bL bY dO sW sH aBK aBN aCH yJ yG aAH zY hn15
  · skip
    have c7 := mt (aAO _ _).mpr c7
    refine And.intro (aBZ (by omega)) ?_
    intro v39 ev39
    have f40 := zY x5.toNatClampNeg
    have hv39 := congrArg Int32.toInt ev39
    intro v41 ev41
    have f42 := aRJ v39 x3 (by omega)
    have hv41 := congrArg Int32.toInt ev41
    intro v43 ev43
    have f44 := aAQ v41 1 (by omega)
    have f45 := aBx v41 1 (by omega)
    have hv43 := congrArg Int32.toInt ev43
    refine And.intro (fun c46 => ?_) (fun c46 => ?_)
    · skip
      have c46 := mt (zJ _ _).mpr c46
      refine And.intro (fun _ => ?_) (fun h9 => absurd h9 (by decide))
      exact ts_X10_needed_62 bT aG qG m_x gR qR nG oO pJ xJ vZ xU xV aAW xK zM xT yF yD xZ hc0 hc1 hpost hK15 hKn x1 x2 x3 x5 x4 0 bL bY dO sW sH aBK aBN aCH (by omega) aDO (by omega) yJ yG aAH zY hn15 hn29
    · skip
      have c46 := (zJ _ _).mp c46
      refine And.intro (fun h9 => absurd h9 (by decide)) (fun _ => ?_)
      intro v47 ev47
      have f48 := aDv 7 128 x5 (by decide) (by omega)
      have hv47 := congrArg Int32.toInt ev47
      exact ts_X10_needed_62 bT aG qG m_x gR qR nG oO pJ xJ vZ xU xV aAW xK zM xT yF yD xZ hc0 hc1 hpost hK15 hKn x1 x2 x3 x5 x4 v47 bL bY dO sW sH aBK aBN aCH (by omega) aDO (by omega) yJ yG aAH zY hn15 hn29
set_option maxHeartbeats 8000000 in
set_option maxRecDepth 200000 in
theorem tb_X10_needed_29 {post : Int32 → Int32 → Int32 → Int32 → (Nat → Int32) → (Nat → Int32) → Prop} {SB : Int} {K15 : Int32 → Int32 → Int32 → Int32 → Int32 → Int32 → (Nat → Int32) → (Nat → Int32) → Prop} {n15 : Int} (bT aG : Int32) (qG m_x gR qR nG oO pJ : Nat → Int32) (xJ : 0 ≤ Int32.toInt bT ∧ Int32.toInt bT ≤ 16) (vZ : 0 ≤ Int32.toInt aG ∧ Int32.toInt aG ≤ 8) (xU : ∀ k : Nat, k = 17 → -1 ≤ Int32.toInt (qG k) ∧ Int32.toInt (qG k) ≤ SB) (xV : ∀ k : Nat, k = 19 → 0 ≤ Int32.toInt (qG k) ∧ Int32.toInt (qG k) ≤ 9) (aAW : ∀ k : Nat, 0 ≤ Int32.toInt (m_x k) ∧ Int32.toInt (m_x k) ≤ 99) (xK : ∀ k : Nat, 0 ≤ Int32.toInt (gR k) ∧ Int32.toInt (gR k) ≤ 99) (zM : ∀ k : Nat, 0 ≤ Int32.toInt (qR k) ∧ Int32.toInt (qR k) ≤ 9) (xT : ∀ k : Nat, 0 ≤ Int32.toInt (nG k) ∧ Int32.toInt (nG k) ≤ 99) (yF : ∀ k : Nat, 0 ≤ Int32.toInt (oO k) ∧ Int32.toInt (oO k) ≤ 99) (yD : ∀ k : Nat, k = 4 → 1 ≤ Int32.toInt (pJ k) ∧ Int32.toInt (pJ k) ≤ 30) (xZ : ∀ k : Nat, k = 3 → 0 ≤ Int32.toInt (pJ k) ∧ Int32.toInt (pJ k) ≤ 9) (hc0 : -1 ≤ SB ∧ SB ≤ 7) (hc1 : (Int32.toInt aG ≤ 0 ∧ SB = 0) ∨ (1 ≤ Int32.toInt aG ∧ SB = Int32.toInt aG - 1)) (hpost : ∀ (r : Int32) (xM : Int32) (xG : Int32) (aAS : Int32) (aBX : Nat → Int32) (aA5 : Nat → Int32), (0 ≤ Int32.toInt r ∧ Int32.toInt r ≤ 255) → (1 ≤ Int32.toInt xM ∧ Int32.toInt xM ≤ 1) → (0 ≤ Int32.toInt xG ∧ Int32.toInt xG ≤ 0) → (0 ≤ Int32.toInt aAS ∧ Int32.toInt aAS ≤ 65535) → (∀ k : Nat, 0 ≤ Int32.toInt (aA5 k) ∧ Int32.toInt (aA5 k) ≤ 65535) → post r xM xG aAS aBX aA5) (hK15 : ∀ (x1 : Int32) (x2 : Int32) (x3 : Int32) (bL : Int32) (bY : Int32) (dO : Int32) (sW : Nat → Int32) (sH : Nat → Int32), (0 ≤ Int32.toInt x1 ∧ Int32.toInt x1 ≤ 255) → (0 ≤ Int32.toInt x2 ∧ Int32.toInt x2 ≤ 65535) → (0 ≤ Int32.toInt x3 ∧ Int32.toInt x3 ≤ 16) → (0 ≤ Int32.toInt bL ∧ Int32.toInt bL ≤ 16) → (0 ≤ Int32.toInt bY ∧ Int32.toInt bY ≤ 0) → (0 ≤ Int32.toInt dO ∧ Int32.toInt dO ≤ 65535) → (∀ k : Nat, 0 ≤ Int32.toInt (sH k) ∧ Int32.toInt (sH k) ≤ 65535) → (16 - Int32.toInt x3 < n15) → K15 x1 x2 x3 bL bY dO sW sH) : ∀ (n : Nat) (x1 x2 x3 x4 x5 bL bY dO : Int32) (sW sH : Nat → Int32), (0 ≤ Int32.toInt x1 ∧ Int32.toInt x1 ≤ 255) → (0 ≤ Int32.toInt x2 ∧ Int32.toInt x2 ≤ 65535) → (0 ≤ Int32.toInt x3 ∧ Int32.toInt x3 ≤ 15) → (0 ≤ Int32.toInt x4 ∧ Int32.toInt x4 ≤ 255) → (0 ≤ Int32.toInt x5 ∧ Int32.toInt x5 ≤ 8) → (0 ≤ Int32.toInt bL ∧ Int32.toInt bL ≤ 16) → (0 ≤ Int32.toInt bY ∧ Int32.toInt bY ≤ 0) → (0 ≤ Int32.toInt dO ∧ Int32.toInt dO ≤ 65535) → (∀ k : Nat, 0 ≤ Int32.toInt (sH k) ∧ Int32.toInt (sH k) ≤ 65535) → (16 - Int32.toInt x3 ≤ n15) → (8 - Int32.toInt x5 < (n : Int)) → wb_X10_needed_29 post K15 bT aG qG m_x gR qR nG oO pJ n x1 x2 x3 x4 x5 bL bY dO sW sH := by
  intro n
  induction n with
  | zero =>
    intro x1 x2 x3 x4 x5 bL bY dO sW sH aBK aBN aCH aDO aF7 yJ yG aAH zY hn15 hm
    exfalso; omega
  | succ n ih =>
    intro x1 x2 x3 x4 x5 bL bY dO sW sH aBK aBN aCH aDO aF7 yJ yG aAH zY hn15 hm
    exact ts_X10_needed_29 bT aG qG m_x gR qR nG oO pJ xJ vZ xU xV aAW xK zM xT yF yD xZ hc0 hc1 hpost hK15 ih x1 x2 x3 x4 x5 bL bY dO sW sH aBK aBN aCH aDO aF7 yJ yG aAH zY hn15 (by omega)
set_option maxHeartbeats 8000000 in
set_option maxRecDepth 200000 in
theorem ts_X10_needed_15 {post : Int32 → Int32 → Int32 → Int32 → (Nat → Int32) → (Nat → Int32) → Prop} {SB : Int} {next : Int32 → Int32 → Int32 → Int32 → Int32 → Int32 → (Nat → Int32) → (Nat → Int32) → Prop} {n15 : Int} (bT aG : Int32) (qG m_x gR qR nG oO pJ : Nat → Int32) (xJ : 0 ≤ Int32.toInt bT ∧ Int32.toInt bT ≤ 16) (vZ : 0 ≤ Int32.toInt aG ∧ Int32.toInt aG ≤ 8) (xU : ∀ k : Nat, k = 17 → -1 ≤ Int32.toInt (qG k) ∧ Int32.toInt (qG k) ≤ SB) (xV : ∀ k : Nat, k = 19 → 0 ≤ Int32.toInt (qG k) ∧ Int32.toInt (qG k) ≤ 9) (aAW : ∀ k : Nat, 0 ≤ Int32.toInt (m_x k) ∧ Int32.toInt (m_x k) ≤ 99) (xK : ∀ k : Nat, 0 ≤ Int32.toInt (gR k) ∧ Int32.toInt (gR k) ≤ 99) (zM : ∀ k : Nat, 0 ≤ Int32.toInt (qR k) ∧ Int32.toInt (qR k) ≤ 9) (xT : ∀ k : Nat, 0 ≤ Int32.toInt (nG k) ∧ Int32.toInt (nG k) ≤ 99) (yF : ∀ k : Nat, 0 ≤ Int32.toInt (oO k) ∧ Int32.toInt (oO k) ≤ 99) (yD : ∀ k : Nat, k = 4 → 1 ≤ Int32.toInt (pJ k) ∧ Int32.toInt (pJ k) ≤ 30) (xZ : ∀ k : Nat, k = 3 → 0 ≤ Int32.toInt (pJ k) ∧ Int32.toInt (pJ k) ≤ 9) (hc0 : -1 ≤ SB ∧ SB ≤ 7) (hc1 : (Int32.toInt aG ≤ 0 ∧ SB = 0) ∨ (1 ≤ Int32.toInt aG ∧ SB = Int32.toInt aG - 1)) (hpost : ∀ (r : Int32) (xM : Int32) (xG : Int32) (aAS : Int32) (aBX : Nat → Int32) (aA5 : Nat → Int32), (0 ≤ Int32.toInt r ∧ Int32.toInt r ≤ 255) → (1 ≤ Int32.toInt xM ∧ Int32.toInt xM ≤ 1) → (0 ≤ Int32.toInt xG ∧ Int32.toInt xG ≤ 0) → (0 ≤ Int32.toInt aAS ∧ Int32.toInt aAS ≤ 65535) → (∀ k : Nat, 0 ≤ Int32.toInt (aA5 k) ∧ Int32.toInt (aA5 k) ≤ 65535) → post r xM xG aAS aBX aA5) (hKn : ∀ (x1 : Int32) (x2 : Int32) (x3 : Int32) (bL : Int32) (bY : Int32) (dO : Int32) (sW : Nat → Int32) (sH : Nat → Int32), (0 ≤ Int32.toInt x1 ∧ Int32.toInt x1 ≤ 255) → (0 ≤ Int32.toInt x2 ∧ Int32.toInt x2 ≤ 65535) → (0 ≤ Int32.toInt x3 ∧ Int32.toInt x3 ≤ 16) → (0 ≤ Int32.toInt bL ∧ Int32.toInt bL ≤ 16) → (0 ≤ Int32.toInt bY ∧ Int32.toInt bY ≤ 0) → (0 ≤ Int32.toInt dO ∧ Int32.toInt dO ≤ 65535) → (∀ k : Nat, 0 ≤ Int32.toInt (sH k) ∧ Int32.toInt (sH k) ≤ 65535) → (16 - Int32.toInt x3 < n15) → next x1 x2 x3 bL bY dO sW sH) (x1 x2 x3 bL bY dO : Int32) (sW sH : Nat → Int32) (aBK : 0 ≤ Int32.toInt x1 ∧ Int32.toInt x1 ≤ 255) (aBN : 0 ≤ Int32.toInt x2 ∧ Int32.toInt x2 ≤ 65535) (aCH : 0 ≤ Int32.toInt x3 ∧ Int32.toInt x3 ≤ 16) (yJ : 0 ≤ Int32.toInt bL ∧ Int32.toInt bL ≤ 16) (yG : 0 ≤ Int32.toInt bY ∧ Int32.toInt bY ≤ 0) (aAH : 0 ≤ Int32.toInt dO ∧ Int32.toInt dO ≤ 65535) (zY : ∀ k : Nat, 0 ≤ Int32.toInt (sH k) ∧ Int32.toInt (sH k) ≤ 65535) (hn15 : 16 - Int32.toInt x3 ≤ n15) : ws_X10_needed_15 post next bT aG qG m_x gR qR nG oO pJ x1 x2 x3 bL bY dO sW sH := by
  have l0 := aE0
  have l1 := aEc
  refine And.intro (fun c49 => ?_) (fun c49 => ?_)
  · skip
    have c49 := (aAO _ _).mp c49
    refine And.intro (aBZ (by omega)) ?_
    intro v50 ev50
    have f51 : Int32.toInt (0 + 1) = Int32.toInt (0 : Int32) + Int32.toInt (1 : Int32) := aAD _ _ (by omega)
    rw [← ev50] at f51
    exact hpost _ _ _ _ _ _ aBK (by omega) yG aAH zY
  · skip
    have c49 := mt (aAO _ _).mpr c49
    exact ⟨10, tb_X10_needed_29 bT aG qG m_x gR qR nG oO pJ xJ vZ xU xV aAW xK zM xT yF yD xZ hc0 hc1 hpost hKn _ x1 x2 x3 0 0 bL bY dO sW sH aBK aBN (by omega) (by omega) (by omega) yJ yG aAH zY hn15 (by omega)⟩
set_option maxHeartbeats 8000000 in
set_option maxRecDepth 200000 in
theorem tb_X10_needed_15 {post : Int32 → Int32 → Int32 → Int32 → (Nat → Int32) → (Nat → Int32) → Prop} {SB : Int} (bT aG : Int32) (qG m_x gR qR nG oO pJ : Nat → Int32) (xJ : 0 ≤ Int32.toInt bT ∧ Int32.toInt bT ≤ 16) (vZ : 0 ≤ Int32.toInt aG ∧ Int32.toInt aG ≤ 8) (xU : ∀ k : Nat, k = 17 → -1 ≤ Int32.toInt (qG k) ∧ Int32.toInt (qG k) ≤ SB) (xV : ∀ k : Nat, k = 19 → 0 ≤ Int32.toInt (qG k) ∧ Int32.toInt (qG k) ≤ 9) (aAW : ∀ k : Nat, 0 ≤ Int32.toInt (m_x k) ∧ Int32.toInt (m_x k) ≤ 99) (xK : ∀ k : Nat, 0 ≤ Int32.toInt (gR k) ∧ Int32.toInt (gR k) ≤ 99) (zM : ∀ k : Nat, 0 ≤ Int32.toInt (qR k) ∧ Int32.toInt (qR k) ≤ 9) (xT : ∀ k : Nat, 0 ≤ Int32.toInt (nG k) ∧ Int32.toInt (nG k) ≤ 99) (yF : ∀ k : Nat, 0 ≤ Int32.toInt (oO k) ∧ Int32.toInt (oO k) ≤ 99) (yD : ∀ k : Nat, k = 4 → 1 ≤ Int32.toInt (pJ k) ∧ Int32.toInt (pJ k) ≤ 30) (xZ : ∀ k : Nat, k = 3 → 0 ≤ Int32.toInt (pJ k) ∧ Int32.toInt (pJ k) ≤ 9) (hc0 : -1 ≤ SB ∧ SB ≤ 7) (hc1 : (Int32.toInt aG ≤ 0 ∧ SB = 0) ∨ (1 ≤ Int32.toInt aG ∧ SB = Int32.toInt aG - 1)) (hpost : ∀ (r : Int32) (xM : Int32) (xG : Int32) (aAS : Int32) (aBX : Nat → Int32) (aA5 : Nat → Int32), (0 ≤ Int32.toInt r ∧ Int32.toInt r ≤ 255) → (1 ≤ Int32.toInt xM ∧ Int32.toInt xM ≤ 1) → (0 ≤ Int32.toInt xG ∧ Int32.toInt xG ≤ 0) → (0 ≤ Int32.toInt aAS ∧ Int32.toInt aAS ≤ 65535) → (∀ k : Nat, 0 ≤ Int32.toInt (aA5 k) ∧ Int32.toInt (aA5 k) ≤ 65535) → post r xM xG aAS aBX aA5) : ∀ (n : Nat) (x1 x2 x3 bL bY dO : Int32) (sW sH : Nat → Int32), (0 ≤ Int32.toInt x1 ∧ Int32.toInt x1 ≤ 255) → (0 ≤ Int32.toInt x2 ∧ Int32.toInt x2 ≤ 65535) → (0 ≤ Int32.toInt x3 ∧ Int32.toInt x3 ≤ 16) → (0 ≤ Int32.toInt bL ∧ Int32.toInt bL ≤ 16) → (0 ≤ Int32.toInt bY ∧ Int32.toInt bY ≤ 0) → (0 ≤ Int32.toInt dO ∧ Int32.toInt dO ≤ 65535) → (∀ k : Nat, 0 ≤ Int32.toInt (sH k) ∧ Int32.toInt (sH k) ≤ 65535) → (16 - Int32.toInt x3 < (n : Int)) → wb_X10_needed_15 post bT aG qG m_x gR qR nG oO pJ n x1 x2 x3 bL bY dO sW sH := by
  intro n
  induction n with
  | zero =>
    intro x1 x2 x3 bL bY dO sW sH aBK aBN aCH yJ yG aAH zY hm
    exfalso; omega
  | succ n ih =>
    intro x1 x2 x3 bL bY dO sW sH aBK aBN aCH yJ yG aAH zY hm
    exact ts_X10_needed_15 bT aG qG m_x gR qR nG oO pJ xJ vZ xU xV aAW xK zM xT yF yD xZ hc0 hc1 hpost ih x1 x2 x3 bL bY dO sW sH aBK aBN aCH yJ yG aAH zY (by omega)
set_option maxHeartbeats 8000000 in
set_option maxRecDepth 200000 in
theorem t_X10_needed {post : Int32 → Int32 → Int32 → Int32 → (Nat → Int32) → (Nat → Int32) → Prop} {SB : Int} {bT aG bL bY dO : Int32} {qG m_x gR qR nG oO pJ sW sH : Nat → Int32} (xJ : 0 ≤ Int32.toInt bT ∧ Int32.toInt bT ≤ 16) (vZ : 0 ≤ Int32.toInt aG ∧ Int32.toInt aG ≤ 8) (yJ : 0 ≤ Int32.toInt bL ∧ Int32.toInt bL ≤ 16) (yG : 0 ≤ Int32.toInt bY ∧ Int32.toInt bY ≤ 1) (aAH : 0 ≤ Int32.toInt dO ∧ Int32.toInt dO ≤ 65535) (xU : ∀ k : Nat, k = 17 → -1 ≤ Int32.toInt (qG k) ∧ Int32.toInt (qG k) ≤ SB) (xV : ∀ k : Nat, k = 19 → 0 ≤ Int32.toInt (qG k) ∧ Int32.toInt (qG k) ≤ 9) (aAW : ∀ k : Nat, 0 ≤ Int32.toInt (m_x k) ∧ Int32.toInt (m_x k) ≤ 99) (xK : ∀ k : Nat, 0 ≤ Int32.toInt (gR k) ∧ Int32.toInt (gR k) ≤ 99) (zM : ∀ k : Nat, 0 ≤ Int32.toInt (qR k) ∧ Int32.toInt (qR k) ≤ 9) (xT : ∀ k : Nat, 0 ≤ Int32.toInt (nG k) ∧ Int32.toInt (nG k) ≤ 99) (yF : ∀ k : Nat, 0 ≤ Int32.toInt (oO k) ∧ Int32.toInt (oO k) ≤ 99) (yD : ∀ k : Nat, k = 4 → 1 ≤ Int32.toInt (pJ k) ∧ Int32.toInt (pJ k) ≤ 30) (xZ : ∀ k : Nat, k = 3 → 0 ≤ Int32.toInt (pJ k) ∧ Int32.toInt (pJ k) ≤ 9) (zY : ∀ k : Nat, 0 ≤ Int32.toInt (sH k) ∧ Int32.toInt (sH k) ≤ 65535) (hc0 : -1 ≤ SB ∧ SB ≤ 7) (hc1 : (Int32.toInt aG ≤ 0 ∧ SB = 0) ∨ (1 ≤ Int32.toInt aG ∧ SB = Int32.toInt aG - 1)) (hpost : ∀ (r : Int32) (xM : Int32) (xG : Int32) (aAS : Int32) (aBX : Nat → Int32) (aA5 : Nat → Int32), (0 ≤ Int32.toInt r ∧ Int32.toInt r ≤ 255) → (1 ≤ Int32.toInt xM ∧ Int32.toInt xM ≤ 1) → (0 ≤ Int32.toInt xG ∧ Int32.toInt xG ≤ 0) → (0 ≤ Int32.toInt aAS ∧ Int32.toInt aAS ≤ 65535) → (∀ k : Nat, 0 ≤ Int32.toInt (aA5 k) ∧ Int32.toInt (aA5 k) ≤ 65535) → post r xM xG aAS aBX aA5) : wp_X10_needed post bT aG bL bY dO qG m_x gR qR nG oO pJ sW sH := by
  have l0 := aE0
  have l1 := li_18
  intro v52 ev52
  have hv52 := congrArg Int32.toInt ev52
  refine aLb xJ vZ aAH xU xV aAW xK zM xT yF yD xZ zY (by omega) (by omega) (fun m_wanted_54 m_hand_55 h_m_wanted_54 h_m_hand_55 => ?_)
  exact ⟨18, tb_X10_needed_15 bT aG qG m_x gR qR nG oO pJ xJ vZ xU xV aAW xK zM xT yF yD xZ hc0 hc1 hpost _ 0 0 0 bL 0 m_wanted_54 sW m_hand_55 (by omega) (by omega) (by omega) yJ (by omega) h_m_wanted_54 h_m_hand_55 (by omega)⟩
