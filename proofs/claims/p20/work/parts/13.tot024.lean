set_option maxHeartbeats 8000000 in
set_option maxRecDepth 200000 in
theorem ts_X1_firstFor_29 {post : Int32 → Prop} {K2 : Int32 → Int32 → Int32 → Prop} {n2 : Int} (vW : Nat → Int32) (hpost : ∀ (r : Int32) , (-1 ≤ Int32.toInt r ∧ Int32.toInt r ≤ 7) → post r) (hK2 : ∀ (x1 : Int32) (x2 : Int32) (x3 : Int32), (0 ≤ Int32.toInt x1 ∧ Int32.toInt x1 ≤ 5) → (-1 ≤ Int32.toInt x2 ∧ Int32.toInt x2 ≤ 7) → (0 ≤ Int32.toInt x3 ∧ Int32.toInt x3 ≤ 8) → (8 - Int32.toInt x3 < n2) → K2 x1 x2 x3) (x1 x2 x3 : Int32) (aBK : 0 ≤ Int32.toInt x1 ∧ Int32.toInt x1 ≤ 5) (aBN : -1 ≤ Int32.toInt x2 ∧ Int32.toInt x2 ≤ 7) (aCH : 0 ≤ Int32.toInt x3 ∧ Int32.toInt x3 ≤ 7) (hn2 : 8 - Int32.toInt x3 ≤ n2) : ws_X1_firstFor_29 post K2 vW x1 x2 x3 := by
  have l0 := aEc
  intro v1 ev1
  have f2 : Int32.toInt (x3 + 1) = Int32.toInt x3 + Int32.toInt (1 : Int32) := aAD _ _ (by omega)
  rw [← ev1] at f2
  exact hK2 x1 x2 v1 aBK aBN (by omega) (by omega)
set_option maxHeartbeats 8000000 in
set_option maxRecDepth 200000 in
theorem ts_X1_firstFor_2 {post : Int32 → Prop} {next : Int32 → Int32 → Int32 → Prop} {n2 : Int} (vW : Nat → Int32) (hpost : ∀ (r : Int32) , (-1 ≤ Int32.toInt r ∧ Int32.toInt r ≤ 7) → post r) (hKn : ∀ (x1 : Int32) (x2 : Int32) (x3 : Int32), (0 ≤ Int32.toInt x1 ∧ Int32.toInt x1 ≤ 5) → (-1 ≤ Int32.toInt x2 ∧ Int32.toInt x2 ≤ 7) → (0 ≤ Int32.toInt x3 ∧ Int32.toInt x3 ≤ 8) → (8 - Int32.toInt x3 < n2) → next x1 x2 x3) (x1 x2 x3 : Int32) (aBK : 0 ≤ Int32.toInt x1 ∧ Int32.toInt x1 ≤ 5) (aBN : -1 ≤ Int32.toInt x2 ∧ Int32.toInt x2 ≤ 7) (aCH : 0 ≤ Int32.toInt x3 ∧ Int32.toInt x3 ≤ 8) (hn2 : 8 - Int32.toInt x3 ≤ n2) : ws_X1_firstFor_2 post next vW x1 x2 x3 := by
  have l0 := aI2
  have l1 := aE0
  have l2 := li_8
  refine And.intro (fun c3 => ?_) (fun c3 => ?_)
  · skip
    have c3 := (aAO _ _).mp c3
    exact hpost _ (by omega)
  · skip
    have c3 := mt (aAO _ _).mpr c3
    refine And.intro (fun c4 => ?_) (fun c4 => ?_)
    · skip
      have c4 := (zJ _ _).mp c4
      exact ts_X1_firstFor_29 vW hpost hKn x1 x2 x3 aBK aBN (by omega) hn2
    · skip
      have c4 := mt (zJ _ _).mpr c4
      intro v5 ev5
      have f6 : Int32.toInt (x1 * 8) = Int32.toInt x1 * 8 := ta_mulc _ _ (by decide) (by omega)
      rw [← ev5] at f6
      intro v7 ev7
      have f8 : Int32.toInt (v5 + x3) = Int32.toInt v5 + Int32.toInt x3 := aAD _ _ (by omega)
      rw [← ev7] at f8
      refine And.intro (aBZ (by omega)) ?_
      refine And.intro (fun c9 => ?_) (fun c9 => ?_)
      · skip
        have c9 := (aAO _ _).mp c9
        exact ts_X1_firstFor_29 vW hpost hKn x1 x2 x3 aBK aBN (by omega) hn2
      · skip
        have c9 := mt (aAO _ _).mpr c9
        exact hpost _ (by omega)
set_option maxHeartbeats 8000000 in
set_option maxRecDepth 200000 in
theorem tb_X1_firstFor_2 {post : Int32 → Prop} (vW : Nat → Int32) (hpost : ∀ (r : Int32) , (-1 ≤ Int32.toInt r ∧ Int32.toInt r ≤ 7) → post r) : ∀ (n : Nat) (x1 x2 x3 : Int32), (0 ≤ Int32.toInt x1 ∧ Int32.toInt x1 ≤ 5) → (-1 ≤ Int32.toInt x2 ∧ Int32.toInt x2 ≤ 7) → (0 ≤ Int32.toInt x3 ∧ Int32.toInt x3 ≤ 8) → (8 - Int32.toInt x3 < (n : Int)) → wb_X1_firstFor_2 post vW n x1 x2 x3 := by
  intro n
  induction n with
  | zero =>
    intro x1 x2 x3 aBK aBN aCH hm
    exfalso; omega
  | succ n ih =>
    intro x1 x2 x3 aBK aBN aCH hm
    exact ts_X1_firstFor_2 vW hpost ih x1 x2 x3 aBK aBN aCH (by omega)
set_option maxHeartbeats 8000000 in
set_option maxRecDepth 200000 in
theorem t_X1_firstFor {post : Int32 → Prop} {p0 p1 : Int32} {vW : Nat → Int32} (h_p0 : 0 ≤ Int32.toInt p0 ∧ Int32.toInt p0 ≤ 5) (h_p1 : -1 ≤ Int32.toInt p1 ∧ Int32.toInt p1 ≤ 7) (hpost : ∀ (r : Int32) , (-1 ≤ Int32.toInt r ∧ Int32.toInt r ≤ 7) → post r) : wp_X1_firstFor post p0 p1 vW := by
  have l0 := aE0
  exact ⟨10, tb_X1_firstFor_2 vW hpost _ p0 p1 0 h_p0 h_p1 (by omega) (by omega)⟩
set_option maxHeartbeats 8000000 in
set_option maxRecDepth 200000 in
theorem ts_X9_tellLeastMarks_16 {post : Int32 → (Nat → Int32) → Prop} {next : Int32 → Int32 → Int32 → (Nat → Int32) → Prop} {n16 : Int} (vR : Int32) (vW : Nat → Int32) (aB3 : 0 ≤ Int32.toInt vR ∧ Int32.toInt vR ≤ 6) (hpost : ∀ (zV : Int32) (aAV : Nat → Int32), (0 ≤ Int32.toInt zV ∧ Int32.toInt zV ≤ 16) → post zV aAV) (hKn : ∀ (x2 : Int32) (x3 : Int32) (qB : Int32) (jK : Nat → Int32), (-1 ≤ Int32.toInt x2 ∧ Int32.toInt x2 ≤ 7) → (0 ≤ Int32.toInt x3 ∧ Int32.toInt x3 ≤ 6) → (0 ≤ Int32.toInt qB ∧ Int32.toInt qB ≤ 16) → (6 - Int32.toInt x3 < n16) → next x2 x3 qB jK) (x2 x3 qB : Int32) (jK : Nat → Int32) (aBN : -1 ≤ Int32.toInt x2 ∧ Int32.toInt x2 ≤ 7) (aCH : 0 ≤ Int32.toInt x3 ∧ Int32.toInt x3 ≤ 6) (aAK : 0 ≤ Int32.toInt qB ∧ Int32.toInt qB ≤ 16) (hn16 : 6 - Int32.toInt x3 ≤ n16) : ws_X9_tellLeastMarks_16 post next vR vW x2 x3 qB jK := by
  have l0 := aEc
  have l1 := li_16
  refine And.intro (fun c1 => ?_) (fun c1 => ?_)
  · skip
    have c1 := (aAO _ _).mp c1
    exact hpost _ _ aAK
  · skip
    have c1 := mt (aAO _ _).mpr c1
    refine t_X1_firstFor (by omega) aBN (fun r2 h_r2 => ?_)
    refine And.intro (fun c3 => ?_) (fun c3 => ?_)
    · skip
      have c3 := (aAO _ _).mp c3
      intro v4 ev4
      have f5 : Int32.toInt (x3 + 1) = Int32.toInt x3 + Int32.toInt (1 : Int32) := aAD _ _ (by omega)
      rw [← ev4] at f5
      exact hKn r2 v4 qB jK h_r2 (by omega) aAK (by omega)
    · skip
      have c3 := mt (aAO _ _).mpr c3
      refine And.intro (aBZ (by omega)) ?_
      intro v6 ev6
      have f7 : Int32.toInt (qB + 1) = Int32.toInt qB + Int32.toInt (1 : Int32) := aAD _ _ (by omega)
      rw [← ev6] at f7
      intro v8 ev8
      have f9 : Int32.toInt (x3 + 1) = Int32.toInt x3 + Int32.toInt (1 : Int32) := aAD _ _ (by omega)
      rw [← ev8] at f9
      exact hKn r2 v8 v6 (upd jK qB.toNatClampNeg r2) h_r2 (by omega) (by omega) (by omega)
set_option maxHeartbeats 8000000 in
set_option maxRecDepth 200000 in
theorem tb_X9_tellLeastMarks_16 {post : Int32 → (Nat → Int32) → Prop} (vR : Int32) (vW : Nat → Int32) (aB3 : 0 ≤ Int32.toInt vR ∧ Int32.toInt vR ≤ 6) (hpost : ∀ (zV : Int32) (aAV : Nat → Int32), (0 ≤ Int32.toInt zV ∧ Int32.toInt zV ≤ 16) → post zV aAV) : ∀ (n : Nat) (x2 x3 qB : Int32) (jK : Nat → Int32), (-1 ≤ Int32.toInt x2 ∧ Int32.toInt x2 ≤ 7) → (0 ≤ Int32.toInt x3 ∧ Int32.toInt x3 ≤ 6) → (0 ≤ Int32.toInt qB ∧ Int32.toInt qB ≤ 16) → (6 - Int32.toInt x3 < (n : Int)) → wb_X9_tellLeastMarks_16 post vR vW n x2 x3 qB jK := by
  intro n
  induction n with
  | zero =>
    intro x2 x3 qB jK aBN aCH aAK hm
    exfalso; omega
  | succ n ih =>
    intro x2 x3 qB jK aBN aCH aAK hm
    exact ts_X9_tellLeastMarks_16 vR vW aB3 hpost ih x2 x3 qB jK aBN aCH aAK (by omega)
set_option maxHeartbeats 8000000 in
set_option maxRecDepth 200000 in
theorem t_X9_tellLeastMarks {post : Int32 → (Nat → Int32) → Prop} {p0 qB : Int32} {jK : Nat → Int32} {vR : Int32} {vW : Nat → Int32} (aAK : 0 ≤ Int32.toInt qB ∧ Int32.toInt qB ≤ 16) (aB3 : 0 ≤ Int32.toInt vR ∧ Int32.toInt vR ≤ 6) (hpost : ∀ (zV : Int32) (aAV : Nat → Int32), (0 ≤ Int32.toInt zV ∧ Int32.toInt zV ≤ 16) → post zV aAV) : wp_X9_tellLeastMarks post p0 qB jK vR vW := by
  have l0 := aI2
  have l1 := aE0
  have f11 := aAT p0
  refine And.intro (fun c10 => ?_) (fun c10 => ?_)
  · skip
    have c10 := mt (zJ _ _).mpr c10
    exact ⟨8, tb_X9_tellLeastMarks_16 vR vW aB3 hpost _ (-1) 0 0 jK (by omega) (by omega) (by omega) (by omega)⟩
  · skip
    have c10 := (zJ _ _).mp c10
    exact hpost _ _ (by omega)
set_option maxHeartbeats 8000000 in
set_option maxRecDepth 200000 in
theorem ts_X9_grass_65 {post : Int32 → Int32 → Int32 → Int32 → Int32 → (Nat → Int32) → Int32 → (Nat → Int32) → (Nat → Int32) → Prop} (qM : Nat → Int32) (bD : Int32) (mX : Nat → Int32) (aAI : ∀ k : Nat, 0 ≤ Int32.toInt (qM k) ∧ Int32.toInt (qM k) ≤ 65535) (wX : 0 ≤ Int32.toInt bD ∧ Int32.toInt bD ≤ 8) (hpost : ∀ (r : Int32) (aCZ : Int32) (aBS : Int32) (aGd : Int32) (zV : Int32) (aAV : Nat → Int32) (mk_many' : Int32) (mk_at' : Nat → Int32) (mk_rows' : Nat → Int32), (0 ≤ Int32.toInt aCZ ∧ Int32.toInt aCZ ≤ 0) → (0 ≤ Int32.toInt aBS ∧ Int32.toInt aBS ≤ 80) → (0 ≤ Int32.toInt aGd ∧ Int32.toInt aGd ≤ 80) → (0 ≤ Int32.toInt zV ∧ Int32.toInt zV ≤ 16) → (0 ≤ Int32.toInt mk_many' ∧ Int32.toInt mk_many' ≤ 6) → post r aCZ aBS aGd zV aAV mk_many' mk_at' mk_rows') (x2 qL qJ rX qB : Int32) (jK : Nat → Int32) (vR : Int32) (xW vW : Nat → Int32) (aBH : 0 ≤ Int32.toInt qL ∧ Int32.toInt qL ≤ 80) (aA0 : 0 ≤ Int32.toInt qJ ∧ Int32.toInt qJ ≤ 80) (aA2 : 0 ≤ Int32.toInt rX ∧ Int32.toInt rX ≤ 80) (aAK : 0 ≤ Int32.toInt qB ∧ Int32.toInt qB ≤ 16) (aB3 : 0 ≤ Int32.toInt vR ∧ Int32.toInt vR ≤ 6) : ws_X9_grass_65 post qM bD mX x2 qL qJ rX qB jK vR xW vW := by
  have l0 := aE0
  exact hpost _ _ _ _ _ _ _ _ _ (by omega) aA0 aA2 aAK aB3
set_option maxHeartbeats 8000000 in
set_option maxRecDepth 200000 in
theorem t_X9_grass {post : Int32 → Int32 → Int32 → Int32 → Int32 → (Nat → Int32) → Int32 → (Nat → Int32) → (Nat → Int32) → Prop} {p0 qL qJ rX : Int32} {qM : Nat → Int32} {bD : Int32} {mX : Nat → Int32} {qB : Int32} {jK : Nat → Int32} {vR : Int32} {xW vW : Nat → Int32} (aBH : 0 ≤ Int32.toInt qL ∧ Int32.toInt qL ≤ 80) (aA0 : 0 ≤ Int32.toInt qJ ∧ Int32.toInt qJ ≤ 80) (aA2 : 0 ≤ Int32.toInt rX ∧ Int32.toInt rX ≤ 80) (aAI : ∀ k : Nat, 0 ≤ Int32.toInt (qM k) ∧ Int32.toInt (qM k) ≤ 65535) (wX : 0 ≤ Int32.toInt bD ∧ Int32.toInt bD ≤ 8) (aAK : 0 ≤ Int32.toInt qB ∧ Int32.toInt qB ≤ 16) (aB3 : 0 ≤ Int32.toInt vR ∧ Int32.toInt vR ≤ 6) (hpost : ∀ (r : Int32) (aCZ : Int32) (aBS : Int32) (aGd : Int32) (zV : Int32) (aAV : Nat → Int32) (mk_many' : Int32) (mk_at' : Nat → Int32) (mk_rows' : Nat → Int32), (0 ≤ Int32.toInt aCZ ∧ Int32.toInt aCZ ≤ 0) → (0 ≤ Int32.toInt aBS ∧ Int32.toInt aBS ≤ 80) → (0 ≤ Int32.toInt aGd ∧ Int32.toInt aGd ≤ 80) → (0 ≤ Int32.toInt zV ∧ Int32.toInt zV ≤ 16) → (0 ≤ Int32.toInt mk_many' ∧ Int32.toInt mk_many' ≤ 6) → post r aCZ aBS aGd zV aAV mk_many' mk_at' mk_rows') : wp_X9_grass post p0 qL qJ rX qM bD mX qB jK vR xW vW := by
  have l0 := aI2
  have l1 := li_m100
  have l2 := aE0
  have l3 := li_80
  have l4 := li_99
  have f2 := aAT p0
  refine And.intro (fun c1 => ?_) (fun c1 => ?_)
  · skip
    have c1 := (aAd _ _).mp c1
    exact ts_X9_grass_65 qM bD mX aAI wX hpost (-100) qL qJ rX qB jK vR xW vW aBH aA0 aA2 aAK aB3
  · skip
    have c1 := mt (aAd _ _).mpr c1
    refine And.intro (fun c3 => ?_) (fun c3 => ?_)
    · skip
      have c3 := (aAd _ _).mp c3
      exact ts_X9_grass_65 qM bD mX aAI wX hpost (-100) qL qJ rX qB jK vR xW vW aBH aA0 aA2 aAK aB3
    · skip
      have c3 := mt (aAd _ _).mpr c3
      intro v4 ev4
      have f5 := ti_min qL (80 : Int32)
      have hv4 := congrArg Int32.toInt ev4
      refine t_X1_readAll aBH (by omega) (by omega) aAI aB3 (fun r9 aFI mk_many_7 mk_at_8 h_r9 h_tx_place_6 h_mk_many_7 => ?_)
      refine And.intro (fun c10 => ?_) (fun c10 => ?_)
      · skip
        have c10 := (zJ _ _).mp c10
        have f11 : Int32.toInt ((-1) - aFI) = Int32.toInt ((-1) : Int32) - Int32.toInt aFI := aCA _ _ (by omega)
        obtain ⟨w12, ew12⟩ : ∃ w9 : Int32, w9 = (-1) - aFI := ⟨_, rfl⟩
        rw [← ew12] at f11
        have key9 := ts_X9_grass_65 qM bD mX aAI wX hpost w12 qL aFI v4 qB jK mk_many_7 mk_at_8 vW aBH h_tx_place_6 (by omega) aAK h_mk_many_7
        subst ew12
        exact key9
      · skip
        have c10 := mt (zJ _ _).mpr c10
        refine t_X1_countRows (by omega) wX h_mk_many_7 (fun r14 mk_rows_13 => ?_)
        refine t_X9_tellLeastMarks aAK h_mk_many_7 (fun ro_size_15 ro_numbers_16 h_ro_size_15 => ?_)
        have f17 := aAT r14
        exact ts_X9_grass_65 qM bD mX aAI wX hpost r14 qL aFI v4 ro_size_15 ro_numbers_16 mk_many_7 mk_at_8 mk_rows_13 aBH h_tx_place_6 (by omega) h_ro_size_15 h_mk_many_7
set_option maxHeartbeats 8000000 in
set_option maxRecDepth 200000 in
theorem ts_X5_isFitting_34 {post : Int32 → Prop} {K2 : Int32 → Int32 → Int32 → Prop} {n2 : Int} (rD : Nat → Int32) (bD : Int32) (zR : ∀ k : Nat, 0 ≤ Int32.toInt (rD k) ∧ Int32.toInt (rD k) ≤ 65535) (wX : 0 ≤ Int32.toInt bD ∧ Int32.toInt bD ≤ 8) (hpost : ∀ (r : Int32) , (0 ≤ Int32.toInt r ∧ Int32.toInt r ≤ 1) → post r) (hK2 : ∀ (x1 : Int32) (x2 : Int32) (x3 : Int32), (0 ≤ Int32.toInt x1 ∧ Int32.toInt x1 ≤ 255) → (0 ≤ Int32.toInt x2 ∧ Int32.toInt x2 ≤ 65535) → (0 ≤ Int32.toInt x3 ∧ Int32.toInt x3 ≤ 8) → (8 - Int32.toInt x3 < n2) → K2 x1 x2 x3) (x1 x2 x3 : Int32) (aBK : 0 ≤ Int32.toInt x1 ∧ Int32.toInt x1 ≤ 255) (aBN : 0 ≤ Int32.toInt x2 ∧ Int32.toInt x2 ≤ 65535) (aCH : 0 ≤ Int32.toInt x3 ∧ Int32.toInt x3 ≤ 7) (hn2 : 8 - Int32.toInt x3 ≤ n2) : ws_X5_isFitting_34 post K2 rD bD x1 x2 x3 := by
  have l0 := aEc
  intro v1 ev1
  have f2 : Int32.toInt (x3 + 1) = Int32.toInt x3 + Int32.toInt (1 : Int32) := aAD _ _ (by omega)
  rw [← ev1] at f2
  exact hK2 x1 x2 v1 aBK aBN (by omega) (by omega)
set_option maxHeartbeats 8000000 in
set_option maxRecDepth 200000 in
theorem ts_X5_isFitting_2 {post : Int32 → Prop} {next : Int32 → Int32 → Int32 → Prop} {n2 : Int} (rD : Nat → Int32) (bD : Int32) (zR : ∀ k : Nat, 0 ≤ Int32.toInt (rD k) ∧ Int32.toInt (rD k) ≤ 65535) (wX : 0 ≤ Int32.toInt bD ∧ Int32.toInt bD ≤ 8) (hpost : ∀ (r : Int32) , (0 ≤ Int32.toInt r ∧ Int32.toInt r ≤ 1) → post r) (hKn : ∀ (x1 : Int32) (x2 : Int32) (x3 : Int32), (0 ≤ Int32.toInt x1 ∧ Int32.toInt x1 ≤ 255) → (0 ≤ Int32.toInt x2 ∧ Int32.toInt x2 ≤ 65535) → (0 ≤ Int32.toInt x3 ∧ Int32.toInt x3 ≤ 8) → (8 - Int32.toInt x3 < n2) → next x1 x2 x3) (x1 x2 x3 : Int32) (aBK : 0 ≤ Int32.toInt x1 ∧ Int32.toInt x1 ≤ 255) (aBN : 0 ≤ Int32.toInt x2 ∧ Int32.toInt x2 ≤ 65535) (aCH : 0 ≤ Int32.toInt x3 ∧ Int32.toInt x3 ≤ 8) (hn2 : 8 - Int32.toInt x3 ≤ n2) : ws_X5_isFitting_2 post next rD bD x1 x2 x3 := by
  have l0 := aE0
  have l1 := aEc
  refine And.intro (fun c3 => ?_) (fun c3 => ?_)
  · skip
    have c3 := (aAO _ _).mp c3
    refine aUy aBK zR wX (fun r4 h_r4 => ?_)
    have f7 := aBx x2 (r4 ^^^ (-1)) (by omega)
    refine And.intro (fun c5 => ?_) (fun c5 => ?_)
    · skip
      have c5 := mt (zJ _ _).mpr c5
      exact hpost _ (by omega)
    · skip
      have c5Z := c5
      have c5 := (zJ _ _).mp c5
      have s8 := ti_subset x2 r4 (c5Z) (by omega)
      exact hpost _ (by omega)
  · skip
    have c3 := mt (aAO _ _).mpr c3
    intro v9 ev9
    have f10 := aRJ x1 x3 (by omega)
    have hv9 := congrArg Int32.toInt ev9
    have f12 := aAQ v9 1 (by omega)
    have f13 := aBx v9 1 (by omega)
    refine And.intro (fun c11 => ?_) (fun c11 => ?_)
    · skip
      have c11 := (zJ _ _).mp c11
      exact ts_X5_isFitting_34 rD bD zR wX hpost hKn x1 x2 x3 aBK aBN (by omega) hn2
    · skip
      have c11 := mt (zJ _ _).mpr c11
      refine And.intro (aBZ (by omega)) ?_
      intro v14 ev14
      have f15 := zR x3.toNatClampNeg
      have hv14 := congrArg Int32.toInt ev14
      have f17 := aAQ v14 x2 (by omega)
      have f18 := aBx v14 x2 (by omega)
      refine And.intro (fun c16 => ?_) (fun c16 => ?_)
      · skip
        have c16 := mt (zJ _ _).mpr c16
        exact ts_X5_isFitting_34 rD bD zR wX hpost hKn x1 x2 x3 aBK aBN (by omega) hn2
      · skip
        have c16 := (zJ _ _).mp c16
        exact hpost _ (by omega)
set_option maxHeartbeats 8000000 in
set_option maxRecDepth 200000 in
theorem tb_X5_isFitting_2 {post : Int32 → Prop} (rD : Nat → Int32) (bD : Int32) (zR : ∀ k : Nat, 0 ≤ Int32.toInt (rD k) ∧ Int32.toInt (rD k) ≤ 65535) (wX : 0 ≤ Int32.toInt bD ∧ Int32.toInt bD ≤ 8) (hpost : ∀ (r : Int32) , (0 ≤ Int32.toInt r ∧ Int32.toInt r ≤ 1) → post r) : ∀ (n : Nat) (x1 x2 x3 : Int32), (0 ≤ Int32.toInt x1 ∧ Int32.toInt x1 ≤ 255) → (0 ≤ Int32.toInt x2 ∧ Int32.toInt x2 ≤ 65535) → (0 ≤ Int32.toInt x3 ∧ Int32.toInt x3 ≤ 8) → (8 - Int32.toInt x3 < (n : Int)) → wb_X5_isFitting_2 post rD bD n x1 x2 x3 := by
  intro n
  induction n with
  | zero =>
    intro x1 x2 x3 aBK aBN aCH hm
    exfalso; omega
  | succ n ih =>
    intro x1 x2 x3 aBK aBN aCH hm
    exact ts_X5_isFitting_2 rD bD zR wX hpost ih x1 x2 x3 aBK aBN aCH (by omega)
set_option maxHeartbeats 8000000 in
set_option maxRecDepth 200000 in
theorem t_X5_isFitting {post : Int32 → Prop} {p0 p1 : Int32} {rD : Nat → Int32} {bD : Int32} (h_p0 : 0 ≤ Int32.toInt p0 ∧ Int32.toInt p0 ≤ 255) (h_p1 : 0 ≤ Int32.toInt p1 ∧ Int32.toInt p1 ≤ 65535) (zR : ∀ k : Nat, 0 ≤ Int32.toInt (rD k) ∧ Int32.toInt (rD k) ≤ 65535) (wX : 0 ≤ Int32.toInt bD ∧ Int32.toInt bD ≤ 8) (hpost : ∀ (r : Int32) , (0 ≤ Int32.toInt r ∧ Int32.toInt r ≤ 1) → post r) : wp_X5_isFitting post p0 p1 rD bD := by
  have l0 := aE0
  exact ⟨10, tb_X5_isFitting_2 rD bD zR wX hpost _ p0 p1 0 h_p0 h_p1 (by omega) (by omega)⟩
set_option maxHeartbeats 8000000 in
set_option maxRecDepth 200000 in
theorem ts_X9_fits_104 {post : Int32 → Int32 → (Nat → Int32) → Int32 → (Nat → Int32) → Prop} {K33 : Int32 → Int32 → Int32 → Int32 → Int32 → Int32 → (Nat → Int32) → Int32 → (Nat → Int32) → Prop} {n33 : Int} (dN bD : Int32) (uU gF qF mX oE dY : Nat → Int32) (jE eW eY gJ jG : Int32) (xL : 0 ≤ Int32.toInt dN ∧ Int32.toInt dN ≤ 16) (wX : 0 ≤ Int32.toInt bD ∧ Int32.toInt bD ≤ 8) (zK : 0 ≤ Int32.toInt jG ∧ Int32.toInt jG ≤ 9) (hpost : ∀ (r : Int32) (aAY : Int32) (aBC : Nat → Int32) (zV : Int32) (aAV : Nat → Int32), (0 ≤ Int32.toInt aAY ∧ Int32.toInt aAY ≤ 65535) → (∀ k : Nat, 0 ≤ Int32.toInt (aBC k) ∧ Int32.toInt (aBC k) ≤ 65535) → (0 ≤ Int32.toInt zV ∧ Int32.toInt zV ≤ 16) → post r aAY aBC zV aAV) (hK33 : ∀ (x1 : Int32) (x2 : Int32) (x3 : Int32) (x4 : Int32) (x5 : Int32) (oY : Int32) (rD : Nat → Int32) (qB : Int32) (jK : Nat → Int32), (0 ≤ Int32.toInt x1 ∧ Int32.toInt x1 ≤ 65535) → (-1 ≤ Int32.toInt x3 ∧ Int32.toInt x3 ≤ 255) → (-1 ≤ Int32.toInt x4 ∧ Int32.toInt x4 ≤ 255) → (0 ≤ Int32.toInt x5 ∧ Int32.toInt x5 ≤ 256) → (0 ≤ Int32.toInt oY ∧ Int32.toInt oY ≤ 65535) → (∀ k : Nat, 0 ≤ Int32.toInt (rD k) ∧ Int32.toInt (rD k) ≤ 65535) → (0 ≤ Int32.toInt qB ∧ Int32.toInt qB ≤ 16) → (256 - Int32.toInt x5 < n33) → K33 x1 x2 x3 x4 x5 oY rD qB jK) (x1 x2 x3 x4 x5 oY : Int32) (rD : Nat → Int32) (qB : Int32) (jK : Nat → Int32) (aBK : 0 ≤ Int32.toInt x1 ∧ Int32.toInt x1 ≤ 65535) (aCH : -1 ≤ Int32.toInt x3 ∧ Int32.toInt x3 ≤ 255) (aDO : -1 ≤ Int32.toInt x4 ∧ Int32.toInt x4 ≤ 255) (aF7 : 0 ≤ Int32.toInt x5 ∧ Int32.toInt x5 ≤ 255) (aAE : 0 ≤ Int32.toInt oY ∧ Int32.toInt oY ≤ 65535) (zR : ∀ k : Nat, 0 ≤ Int32.toInt (rD k) ∧ Int32.toInt (rD k) ≤ 65535) (aAK : 0 ≤ Int32.toInt qB ∧ Int32.toInt qB ≤ 16) (hn33 : 256 - Int32.toInt x5 ≤ n33) : ws_X9_fits_104 post K33 dN bD uU gF qF mX oE dY jE eW eY gJ jG x1 x2 x3 x4 x5 oY rD qB jK := by
  have l0 := aEc
  intro v1 ev1
  have f2 : Int32.toInt (x5 + 1) = Int32.toInt x5 + Int32.toInt (1 : Int32) := aAD _ _ (by omega)
  rw [← ev1] at f2
  have f3 := aAT x2
  exact hK33 x1 x2 x3 x4 v1 oY rD qB jK aBK aCH aDO (by omega) aAE zR aAK (by omega)
set_option maxHeartbeats 8000000 in
set_option maxRecDepth 200000 in
theorem ts_X9_fits_100 {post : Int32 → Int32 → (Nat → Int32) → Int32 → (Nat → Int32) → Prop} {K33 : Int32 → Int32 → Int32 → Int32 → Int32 → Int32 → (Nat → Int32) → Int32 → (Nat → Int32) → Prop} {n33 : Int} (dN bD : Int32) (uU gF qF mX oE dY : Nat → Int32) (jE eW eY gJ jG : Int32) (xL : 0 ≤ Int32.toInt dN ∧ Int32.toInt dN ≤ 16) (wX : 0 ≤ Int32.toInt bD ∧ Int32.toInt bD ≤ 8) (zK : 0 ≤ Int32.toInt jG ∧ Int32.toInt jG ≤ 9) (hpost : ∀ (r : Int32) (aAY : Int32) (aBC : Nat → Int32) (zV : Int32) (aAV : Nat → Int32), (0 ≤ Int32.toInt aAY ∧ Int32.toInt aAY ≤ 65535) → (∀ k : Nat, 0 ≤ Int32.toInt (aBC k) ∧ Int32.toInt (aBC k) ≤ 65535) → (0 ≤ Int32.toInt zV ∧ Int32.toInt zV ≤ 16) → post r aAY aBC zV aAV) (hK33 : ∀ (x1 : Int32) (x2 : Int32) (x3 : Int32) (x4 : Int32) (x5 : Int32) (oY : Int32) (rD : Nat → Int32) (qB : Int32) (jK : Nat → Int32), (0 ≤ Int32.toInt x1 ∧ Int32.toInt x1 ≤ 65535) → (-1 ≤ Int32.toInt x3 ∧ Int32.toInt x3 ≤ 255) → (-1 ≤ Int32.toInt x4 ∧ Int32.toInt x4 ≤ 255) → (0 ≤ Int32.toInt x5 ∧ Int32.toInt x5 ≤ 256) → (0 ≤ Int32.toInt oY ∧ Int32.toInt oY ≤ 65535) → (∀ k : Nat, 0 ≤ Int32.toInt (rD k) ∧ Int32.toInt (rD k) ≤ 65535) → (0 ≤ Int32.toInt qB ∧ Int32.toInt qB ≤ 16) → (256 - Int32.toInt x5 < n33) → K33 x1 x2 x3 x4 x5 oY rD qB jK) (x1 x2 x3 x5 oY : Int32) (rD : Nat → Int32) (qB : Int32) (jK : Nat → Int32) (aBK : 0 ≤ Int32.toInt x1 ∧ Int32.toInt x1 ≤ 65535) (aCH : 0 ≤ Int32.toInt x3 ∧ Int32.toInt x3 ≤ 255) (aF7 : 0 ≤ Int32.toInt x5 ∧ Int32.toInt x5 ≤ 255) (aAE : 0 ≤ Int32.toInt oY ∧ Int32.toInt oY ≤ 65535) (zR : ∀ k : Nat, 0 ≤ Int32.toInt (rD k) ∧ Int32.toInt (rD k) ≤ 65535) (aAK : 0 ≤ Int32.toInt qB ∧ Int32.toInt qB ≤ 16) (hn33 : 256 - Int32.toInt x5 ≤ n33) : ws_X9_fits_100 post K33 dN bD uU gF qF mX oE dY jE eW eY gJ jG x1 x2 x3 x5 oY rD qB jK := by
  have f4 := aAT x2
  exact ts_X9_fits_104 dN bD uU gF qF mX oE dY jE eW eY gJ jG xL wX zK hpost hK33 x1 x2 x3 x5 x5 oY rD qB jK aBK (by omega) (by omega) aF7 aAE zR aAK hn33
set_option maxHeartbeats 8000000 in
set_option maxRecDepth 200000 in
theorem ts_X9_fits_81 {post : Int32 → Int32 → (Nat → Int32) → Int32 → (Nat → Int32) → Prop} {K33 : Int32 → Int32 → Int32 → Int32 → Int32 → Int32 → (Nat → Int32) → Int32 → (Nat → Int32) → Prop} {n33 : Int} (dN bD : Int32) (uU gF qF mX oE dY : Nat → Int32) (jE eW eY gJ jG : Int32) (xL : 0 ≤ Int32.toInt dN ∧ Int32.toInt dN ≤ 16) (wX : 0 ≤ Int32.toInt bD ∧ Int32.toInt bD ≤ 8) (zK : 0 ≤ Int32.toInt jG ∧ Int32.toInt jG ≤ 9) (hpost : ∀ (r : Int32) (aAY : Int32) (aBC : Nat → Int32) (zV : Int32) (aAV : Nat → Int32), (0 ≤ Int32.toInt aAY ∧ Int32.toInt aAY ≤ 65535) → (∀ k : Nat, 0 ≤ Int32.toInt (aBC k) ∧ Int32.toInt (aBC k) ≤ 65535) → (0 ≤ Int32.toInt zV ∧ Int32.toInt zV ≤ 16) → post r aAY aBC zV aAV) (hK33 : ∀ (x1 : Int32) (x2 : Int32) (x3 : Int32) (x4 : Int32) (x5 : Int32) (oY : Int32) (rD : Nat → Int32) (qB : Int32) (jK : Nat → Int32), (0 ≤ Int32.toInt x1 ∧ Int32.toInt x1 ≤ 65535) → (-1 ≤ Int32.toInt x3 ∧ Int32.toInt x3 ≤ 255) → (-1 ≤ Int32.toInt x4 ∧ Int32.toInt x4 ≤ 255) → (0 ≤ Int32.toInt x5 ∧ Int32.toInt x5 ≤ 256) → (0 ≤ Int32.toInt oY ∧ Int32.toInt oY ≤ 65535) → (∀ k : Nat, 0 ≤ Int32.toInt (rD k) ∧ Int32.toInt (rD k) ≤ 65535) → (0 ≤ Int32.toInt qB ∧ Int32.toInt qB ≤ 16) → (256 - Int32.toInt x5 < n33) → K33 x1 x2 x3 x4 x5 oY rD qB jK) (x1 x2 x3 x4 x5 oY : Int32) (rD : Nat → Int32) (qB : Int32) (jK : Nat → Int32) (aBK : 0 ≤ Int32.toInt x1 ∧ Int32.toInt x1 ≤ 65535) (aCH : 0 ≤ Int32.toInt x3 ∧ Int32.toInt x3 ≤ 255) (aDO : -1 ≤ Int32.toInt x4 ∧ Int32.toInt x4 ≤ 255) (aF7 : 0 ≤ Int32.toInt x5 ∧ Int32.toInt x5 ≤ 255) (aAE : 0 ≤ Int32.toInt oY ∧ Int32.toInt oY ≤ 65535) (zR : ∀ k : Nat, 0 ≤ Int32.toInt (rD k) ∧ Int32.toInt (rD k) ≤ 65535) (aAK : 0 ≤ Int32.toInt qB ∧ Int32.toInt qB ≤ 16) (hn33 : 256 - Int32.toInt x5 ≤ n33) : ws_X9_fits_81 post K33 dN bD uU gF qF mX oE dY jE eW eY gJ jG x1 x2 x3 x4 x5 oY rD qB jK := by
  have l0 := aI2
  have l1 := aKH
  have l2 := aJ8
  have l3 := li_63
  have l4 := aJ9
  refine And.intro (fun c5 => ?_) (fun c5 => ?_)
  · skip
    have c5 := (zJ _ _).mp c5
    have f6 := aAT x2
    exact ts_X9_fits_100 dN bD uU gF qF mX oE dY jE eW eY gJ jG xL wX zK hpost hK33 x1 x2 x3 x5 oY rD qB jK aBK aCH aF7 aAE zR aAK hn33
  · skip
    have c5 := mt (zJ _ _).mpr c5
    intro v7 ev7
    intro v8 ev8
    have f10 := aAQ v7 1431655765 (by omega)
    have f9 : Int32.toInt (x5 - (v7 &&& 1431655765)) = Int32.toInt x5 - Int32.toInt (v7 &&& 1431655765) := aCA _ _ (by omega)
    rw [← ev8] at f9
    intro v11 ev11
    have f12 := aAQ v8 858993459 (by omega)
    have hv11 := congrArg Int32.toInt ev11
    intro v13 ev13
    intro v14 ev14
    have f16 := aAQ v13 858993459 (by omega)
    have f15 : Int32.toInt (v11 + (v13 &&& 858993459)) = Int32.toInt v11 + Int32.toInt (v13 &&& 858993459) := aAD _ _ (by omega)
    rw [← ev14] at f15
    intro v17 ev17
    have hv17 := congrArg Int32.toInt ev17
    intro v19 ev19
    have f20 := aAQ v17 252645135 (by omega)
    have hv19 := congrArg Int32.toInt ev19
    intro v21 ev21
    have hv21 := congrArg Int32.toInt ev21
    intro v23 ev23
    have hv23 := congrArg Int32.toInt ev23
    intro v25 ev25
    intro v26 ev26
    have f28 := aAQ v25 1431655765 (by omega)
    have f27 : Int32.toInt (x4 - (v25 &&& 1431655765)) = Int32.toInt x4 - Int32.toInt (v25 &&& 1431655765) := aCA _ _ (by omega)
    rw [← ev26] at f27
    intro v29 ev29
    have f30 := aAQ v26 858993459 (by omega)
    have hv29 := congrArg Int32.toInt ev29
    intro v31 ev31
    intro v32 ev32
    have f34 := aAQ v31 858993459 (by omega)
    have f33 : Int32.toInt (v29 + (v31 &&& 858993459)) = Int32.toInt v29 + Int32.toInt (v31 &&& 858993459) := aAD _ _ (by omega)
    rw [← ev32] at f33
    intro v35 ev35
    have hv35 := congrArg Int32.toInt ev35
    intro v37 ev37
    have f38 := aAQ v35 252645135 (by omega)
    have hv37 := congrArg Int32.toInt ev37
    intro v39 ev39
    have hv39 := congrArg Int32.toInt ev39
    intro v41 ev41
    have hv41 := congrArg Int32.toInt ev41
    have f44 := aAQ v23 63 (by omega)
    have f45 := aAQ v41 63 (by omega)
    refine And.intro (fun c43 => ?_) (fun c43 => ?_)
    · skip
      have c43 := (aAO _ _).mp c43
      have f46 := aAT x2
      exact ts_X9_fits_104 dN bD uU gF qF mX oE dY jE eW eY gJ jG xL wX zK hpost hK33 x1 x2 x3 x4 x5 oY rD qB jK aBK (by omega) aDO aF7 aAE zR aAK hn33
    · skip
      have c43 := mt (aAO _ _).mpr c43
      have f47 := aAT x2
      exact ts_X9_fits_100 dN bD uU gF qF mX oE dY jE eW eY gJ jG xL wX zK hpost hK33 x1 x2 x3 x5 oY rD qB jK aBK aCH aF7 aAE zR aAK hn33
set_option maxHeartbeats 8000000 in
set_option maxRecDepth 200000 in
theorem ts_X9_fits_78 {post : Int32 → Int32 → (Nat → Int32) → Int32 → (Nat → Int32) → Prop} {K33 : Int32 → Int32 → Int32 → Int32 → Int32 → Int32 → (Nat → Int32) → Int32 → (Nat → Int32) → Prop} {n33 : Int} (dN bD : Int32) (uU gF qF mX oE dY : Nat → Int32) (jE eW eY gJ jG : Int32) (xL : 0 ≤ Int32.toInt dN ∧ Int32.toInt dN ≤ 16) (wX : 0 ≤ Int32.toInt bD ∧ Int32.toInt bD ≤ 8) (zK : 0 ≤ Int32.toInt jG ∧ Int32.toInt jG ≤ 9) (hpost : ∀ (r : Int32) (aAY : Int32) (aBC : Nat → Int32) (zV : Int32) (aAV : Nat → Int32), (0 ≤ Int32.toInt aAY ∧ Int32.toInt aAY ≤ 65535) → (∀ k : Nat, 0 ≤ Int32.toInt (aBC k) ∧ Int32.toInt (aBC k) ≤ 65535) → (0 ≤ Int32.toInt zV ∧ Int32.toInt zV ≤ 16) → post r aAY aBC zV aAV) (hK33 : ∀ (x1 : Int32) (x2 : Int32) (x3 : Int32) (x4 : Int32) (x5 : Int32) (oY : Int32) (rD : Nat → Int32) (qB : Int32) (jK : Nat → Int32), (0 ≤ Int32.toInt x1 ∧ Int32.toInt x1 ≤ 65535) → (-1 ≤ Int32.toInt x3 ∧ Int32.toInt x3 ≤ 255) → (-1 ≤ Int32.toInt x4 ∧ Int32.toInt x4 ≤ 255) → (0 ≤ Int32.toInt x5 ∧ Int32.toInt x5 ≤ 256) → (0 ≤ Int32.toInt oY ∧ Int32.toInt oY ≤ 65535) → (∀ k : Nat, 0 ≤ Int32.toInt (rD k) ∧ Int32.toInt (rD k) ≤ 65535) → (0 ≤ Int32.toInt qB ∧ Int32.toInt qB ≤ 16) → (256 - Int32.toInt x5 < n33) → K33 x1 x2 x3 x4 x5 oY rD qB jK) (x1 x2 x4 x5 oY : Int32) (rD : Nat → Int32) (qB : Int32) (jK : Nat → Int32) (aBK : 0 ≤ Int32.toInt x1 ∧ Int32.toInt x1 ≤ 65535) (aDO : -1 ≤ Int32.toInt x4 ∧ Int32.toInt x4 ≤ 255) (aF7 : 0 ≤ Int32.toInt x5 ∧ Int32.toInt x5 ≤ 255) (aAE : 0 ≤ Int32.toInt oY ∧ Int32.toInt oY ≤ 65535) (zR : ∀ k : Nat, 0 ≤ Int32.toInt (rD k) ∧ Int32.toInt (rD k) ≤ 65535) (aAK : 0 ≤ Int32.toInt qB ∧ Int32.toInt qB ≤ 16) (hn33 : 256 - Int32.toInt x5 ≤ n33) : ws_X9_fits_78 post K33 dN bD uU gF qF mX oE dY jE eW eY gJ jG x1 x2 x4 x5 oY rD qB jK := by
  have f48 := aAT x2
  exact ts_X9_fits_81 dN bD uU gF qF mX oE dY jE eW eY gJ jG xL wX zK hpost hK33 x1 x2 x5 x4 x5 oY rD qB jK aBK aF7 aDO aF7 aAE zR aAK hn33
set_option maxHeartbeats 8000000 in
set_option maxRecDepth 200000 in
theorem ts_X9_fits_33 {post : Int32 → Int32 → (Nat → Int32) → Int32 → (Nat → Int32) → Prop} {next : Int32 → Int32 → Int32 → Int32 → Int32 → Int32 → (Nat → Int32) → Int32 → (Nat → Int32) → Prop} {n33 : Int} (dN bD : Int32) (uU gF qF mX oE dY : Nat → Int32) (jE eW eY gJ jG : Int32) (xL : 0 ≤ Int32.toInt dN ∧ Int32.toInt dN ≤ 16) (wX : 0 ≤ Int32.toInt bD ∧ Int32.toInt bD ≤ 8) (zK : 0 ≤ Int32.toInt jG ∧ Int32.toInt jG ≤ 9) (hpost : ∀ (r : Int32) (aAY : Int32) (aBC : Nat → Int32) (zV : Int32) (aAV : Nat → Int32), (0 ≤ Int32.toInt aAY ∧ Int32.toInt aAY ≤ 65535) → (∀ k : Nat, 0 ≤ Int32.toInt (aBC k) ∧ Int32.toInt (aBC k) ≤ 65535) → (0 ≤ Int32.toInt zV ∧ Int32.toInt zV ≤ 16) → post r aAY aBC zV aAV) (hKn : ∀ (x1 : Int32) (x2 : Int32) (x3 : Int32) (x4 : Int32) (x5 : Int32) (oY : Int32) (rD : Nat → Int32) (qB : Int32) (jK : Nat → Int32), (0 ≤ Int32.toInt x1 ∧ Int32.toInt x1 ≤ 65535) → (-1 ≤ Int32.toInt x3 ∧ Int32.toInt x3 ≤ 255) → (-1 ≤ Int32.toInt x4 ∧ Int32.toInt x4 ≤ 255) → (0 ≤ Int32.toInt x5 ∧ Int32.toInt x5 ≤ 256) → (0 ≤ Int32.toInt oY ∧ Int32.toInt oY ≤ 65535) → (∀ k : Nat, 0 ≤ Int32.toInt (rD k) ∧ Int32.toInt (rD k) ≤ 65535) → (0 ≤ Int32.toInt qB ∧ Int32.toInt qB ≤ 16) → (256 - Int32.toInt x5 < n33) → next x1 x2 x3 x4 x5 oY rD qB jK) (x1 x2 x3 x4 x5 oY : Int32) (rD : Nat → Int32) (qB : Int32) (jK : Nat → Int32) (aBK : 0 ≤ Int32.toInt x1 ∧ Int32.toInt x1 ≤ 65535) (aCH : -1 ≤ Int32.toInt x3 ∧ Int32.toInt x3 ≤ 255) (aDO : -1 ≤ Int32.toInt x4 ∧ Int32.toInt x4 ≤ 255) (aF7 : 0 ≤ Int32.toInt x5 ∧ Int32.toInt x5 ≤ 256) (aAE : 0 ≤ Int32.toInt oY ∧ Int32.toInt oY ≤ 65535) (zR : ∀ k : Nat, 0 ≤ Int32.toInt (rD k) ∧ Int32.toInt (rD k) ≤ 65535) (aAK : 0 ≤ Int32.toInt qB ∧ Int32.toInt qB ≤ 16) (hn33 : 256 - Int32.toInt x5 ≤ n33) : ws_X9_fits_33 post next dN bD uU gF qF mX oE dY jE eW eY gJ jG x1 x2 x3 x4 x5 oY rD qB jK := by
  have l0 := aI2
  have l1 := aE0
  have l2 := aEc
  have l3 := aKH
  have l4 := li_16
  have l5 := aJ8
  have l6 := li_63
  have l7 := aJ9
  intro v49 ev49
  have f50 := aDv 8 256 bD (by decide) (by omega)
  have hv49 := congrArg Int32.toInt ev49
  have f52 : Int32.toInt (v49 - 1) = Int32.toInt v49 - Int32.toInt (1 : Int32) := aCA _ _ (by omega)
  refine And.intro (fun c51 => ?_) (fun c51 => ?_)
  · skip
    have c51 := (aAd _ _).mp c51
    refine And.intro (fun h9 => absurd h9 (by decide)) (fun _ => ?_)
    refine And.intro (aBZ (by omega)) ?_
    intro v53 ev53
    have f54 : Int32.toInt (0 + 1) = Int32.toInt (0 : Int32) + Int32.toInt (1 : Int32) := aAD _ _ (by omega)
    rw [← ev53] at f54
    refine And.intro (fun c55 => ?_) (fun c55 => ?_)
    · skip
      have c55 := (aAO _ _).mp c55
      exfalso; omega
    · skip
      have c55 := mt (aAO _ _).mpr c55
      refine And.intro (aBZ (by omega)) ?_
      intro v56 ev56
      have f57 : Int32.toInt (v53 + 1) = Int32.toInt v53 + Int32.toInt (1 : Int32) := aAD _ _ (by omega)
      rw [← ev56] at f57
      exact hpost _ _ _ _ _ aAE zR (by omega)
  · skip
    have c51 := mt (aAd _ _).mpr c51
    refine t_X5_isFitting (by omega) aBK zR wX (fun r58 h_r58 => ?_)
    refine And.intro (fun c59 => ?_) (fun c59 => ?_)
    · skip
      have c59 := (zJ _ _).mp c59
      have f60 := aAT x2
      exact ts_X9_fits_104 dN bD uU gF qF mX oE dY jE eW eY gJ jG xL wX zK hpost hKn x1 x2 x3 x4 x5 oY rD qB jK aBK aCH aDO (by omega) aAE zR aAK hn33
    · skip
      have c59 := mt (zJ _ _).mpr c59
      intro v61 ev61
      have hv61 := congrArg Int32.toInt ev61
      refine And.intro (fun c63 => ?_) (fun c63 => ?_)
      · skip
        have c63 := (zJ _ _).mp c63
        have f64 := aAT v61
        exact ts_X9_fits_78 dN bD uU gF qF mX oE dY jE eW eY gJ jG xL wX zK hpost hKn x1 v61 x4 x5 oY rD qB jK aBK aDO (by omega) aAE zR aAK hn33
      · skip
        have c63 := mt (zJ _ _).mpr c63
        intro v65 ev65
        intro v66 ev66
        have f68 := aAQ v65 1431655765 (by omega)
        have f67 : Int32.toInt (x5 - (v65 &&& 1431655765)) = Int32.toInt x5 - Int32.toInt (v65 &&& 1431655765) := aCA _ _ (by omega)
        rw [← ev66] at f67
        intro v69 ev69
        have f70 := aAQ v66 858993459 (by omega)
        have hv69 := congrArg Int32.toInt ev69
        intro v71 ev71
        intro v72 ev72
        have f74 := aAQ v71 858993459 (by omega)
        have f73 : Int32.toInt (v69 + (v71 &&& 858993459)) = Int32.toInt v69 + Int32.toInt (v71 &&& 858993459) := aAD _ _ (by omega)
        rw [← ev72] at f73
        intro v75 ev75
        have hv75 := congrArg Int32.toInt ev75
        intro v77 ev77
        have f78 := aAQ v75 252645135 (by omega)
        have hv77 := congrArg Int32.toInt ev77
        intro v79 ev79
        have hv79 := congrArg Int32.toInt ev79
        intro v81 ev81
        have hv81 := congrArg Int32.toInt ev81
        intro v83 ev83
        intro v84 ev84
        have f86 := aAQ v83 1431655765 (by omega)
        have f85 : Int32.toInt (x3 - (v83 &&& 1431655765)) = Int32.toInt x3 - Int32.toInt (v83 &&& 1431655765) := aCA _ _ (by omega)
        rw [← ev84] at f85
        intro v87 ev87
        have f88 := aAQ v84 858993459 (by omega)
        have hv87 := congrArg Int32.toInt ev87
        intro v89 ev89
        intro v90 ev90
        have f92 := aAQ v89 858993459 (by omega)
        have f91 : Int32.toInt (v87 + (v89 &&& 858993459)) = Int32.toInt v87 + Int32.toInt (v89 &&& 858993459) := aAD _ _ (by omega)
        rw [← ev90] at f91
        intro v93 ev93
        have hv93 := congrArg Int32.toInt ev93
        intro v95 ev95
        have f96 := aAQ v93 252645135 (by omega)
        have hv95 := congrArg Int32.toInt ev95
        intro v97 ev97
        have hv97 := congrArg Int32.toInt ev97
        intro v99 ev99
        have hv99 := congrArg Int32.toInt ev99
        have f102 := aAQ v81 63 (by omega)
        have f103 := aAQ v99 63 (by omega)
        refine And.intro (fun c101 => ?_) (fun c101 => ?_)
        · skip
          have c101 := (aAO _ _).mp c101
          have f104 := aAT v61
          exact ts_X9_fits_81 dN bD uU gF qF mX oE dY jE eW eY gJ jG xL wX zK hpost hKn x1 v61 x3 x4 x5 oY rD qB jK aBK (by omega) aDO (by omega) aAE zR aAK hn33
        · skip
          have c101 := mt (aAO _ _).mpr c101
          have f105 := aAT v61
          exact ts_X9_fits_78 dN bD uU gF qF mX oE dY jE eW eY gJ jG xL wX zK hpost hKn x1 v61 x4 x5 oY rD qB jK aBK aDO (by omega) aAE zR aAK hn33
set_option maxHeartbeats 8000000 in
set_option maxRecDepth 200000 in
theorem tb_X9_fits_33 {post : Int32 → Int32 → (Nat → Int32) → Int32 → (Nat → Int32) → Prop} (dN bD : Int32) (uU gF qF mX oE dY : Nat → Int32) (jE eW eY gJ jG : Int32) (xL : 0 ≤ Int32.toInt dN ∧ Int32.toInt dN ≤ 16) (wX : 0 ≤ Int32.toInt bD ∧ Int32.toInt bD ≤ 8) (zK : 0 ≤ Int32.toInt jG ∧ Int32.toInt jG ≤ 9) (hpost : ∀ (r : Int32) (aAY : Int32) (aBC : Nat → Int32) (zV : Int32) (aAV : Nat → Int32), (0 ≤ Int32.toInt aAY ∧ Int32.toInt aAY ≤ 65535) → (∀ k : Nat, 0 ≤ Int32.toInt (aBC k) ∧ Int32.toInt (aBC k) ≤ 65535) → (0 ≤ Int32.toInt zV ∧ Int32.toInt zV ≤ 16) → post r aAY aBC zV aAV) : ∀ (n : Nat) (x1 x2 x3 x4 x5 oY : Int32) (rD : Nat → Int32) (qB : Int32) (jK : Nat → Int32), (0 ≤ Int32.toInt x1 ∧ Int32.toInt x1 ≤ 65535) → (-1 ≤ Int32.toInt x3 ∧ Int32.toInt x3 ≤ 255) → (-1 ≤ Int32.toInt x4 ∧ Int32.toInt x4 ≤ 255) → (0 ≤ Int32.toInt x5 ∧ Int32.toInt x5 ≤ 256) → (0 ≤ Int32.toInt oY ∧ Int32.toInt oY ≤ 65535) → (∀ k : Nat, 0 ≤ Int32.toInt (rD k) ∧ Int32.toInt (rD k) ≤ 65535) → (0 ≤ Int32.toInt qB ∧ Int32.toInt qB ≤ 16) → (256 - Int32.toInt x5 < (n : Int)) → wb_X9_fits_33 post dN bD uU gF qF mX oE dY jE eW eY gJ jG n x1 x2 x3 x4 x5 oY rD qB jK := by
  intro n
  induction n with
  | zero =>
    intro x1 x2 x3 x4 x5 oY rD qB jK aBK aCH aDO aF7 aAE zR aAK hm
    exfalso; omega
  | succ n ih =>
    intro x1 x2 x3 x4 x5 oY rD qB jK aBK aCH aDO aF7 aAE zR aAK hm
    exact ts_X9_fits_33 dN bD uU gF qF mX oE dY jE eW eY gJ jG xL wX zK hpost ih x1 x2 x3 x4 x5 oY rD qB jK aBK aCH aDO aF7 aAE zR aAK (by omega)
set_option maxHeartbeats 8000000 in
set_option maxRecDepth 200000 in
theorem t_X9_fits {post : Int32 → Int32 → (Nat → Int32) → Int32 → (Nat → Int32) → Prop} {p0 oY : Int32} {rD : Nat → Int32} {dN bD : Int32} {uU gF qF mX oE dY : Nat → Int32} {jE eW eY gJ jG qB : Int32} {jK : Nat → Int32} (aAE : 0 ≤ Int32.toInt oY ∧ Int32.toInt oY ≤ 65535) (zR : ∀ k : Nat, 0 ≤ Int32.toInt (rD k) ∧ Int32.toInt (rD k) ≤ 65535) (xL : 0 ≤ Int32.toInt dN ∧ Int32.toInt dN ≤ 16) (wX : 0 ≤ Int32.toInt bD ∧ Int32.toInt bD ≤ 8) (zK : 0 ≤ Int32.toInt jG ∧ Int32.toInt jG ≤ 9) (aAK : 0 ≤ Int32.toInt qB ∧ Int32.toInt qB ≤ 16) (hpost : ∀ (r : Int32) (aAY : Int32) (aBC : Nat → Int32) (zV : Int32) (aAV : Nat → Int32), (0 ≤ Int32.toInt aAY ∧ Int32.toInt aAY ≤ 65535) → (∀ k : Nat, 0 ≤ Int32.toInt (aBC k) ∧ Int32.toInt (aBC k) ≤ 65535) → (0 ≤ Int32.toInt zV ∧ Int32.toInt zV ≤ 16) → post r aAY aBC zV aAV) : wp_X9_fits post p0 oY rD dN bD uU gF qF mX oE dY jE eW eY gJ jG qB jK := by
  have l0 := aI2
  have l1 := aE0
  have l2 := aEc
  intro v106 ev106
  have f107 := aDv 16 65536 dN (by decide) (by omega)
  have hv106 := congrArg Int32.toInt ev106
  refine And.intro (fun c108 => ?_) (fun c108 => ?_)
  · skip
    have c108Z := c108
    have c108 := (zJ _ _).mp c108
    have f110 : Int32.toInt (v106 - 1) = Int32.toInt v106 - Int32.toInt (1 : Int32) := aCA _ _ (by omega)
    have s111 := ti_subset p0 (v106 - 1) (c108Z) (by omega)
    refine aVe zK aAE zR xL wX (fun pl_wanted_112 pl_near_113 h_pl_wanted_112 h_pl_near_113 => ?_)
    exact ⟨258, tb_X9_fits_33 dN bD uU gF qF mX oE dY jE eW eY gJ jG xL wX zK hpost _ p0 0 (-1) (-1) 0 pl_wanted_112 pl_near_113 qB jK (by omega) (by omega) (by omega) (by omega) h_pl_wanted_112 h_pl_near_113 aAK (by omega)⟩
  · skip
    have c108 := mt (zJ _ _).mpr c108
    exact hpost _ _ _ _ _ aAE zR aAK
