set_option maxHeartbeats 8000000 in
set_option maxRecDepth 200000 in
theorem ts_X8_add_14 {post : Int32 -> Int32 -> (Nat -> Int32) -> Prop} {tx_length0 : Int32} {next : Int32 -> Int32 -> Int32 -> (Nat -> Int32) -> Prop} {n14 : Int} (hpost : ∀ (r : Int32) (aCZ : Int32) (tx_signs' : Nat -> Int32), (-1 <= Int32.toInt r /\ Int32.toInt r <= 80) -> (0 <= Int32.toInt aCZ /\ Int32.toInt aCZ <= 80) -> (∀ k : Nat, 0 <= Int32.toInt (tx_signs' k) /\ Int32.toInt (tx_signs' k) <= 65535) -> ((76 < Int32.toInt tx_length0 /\ Int32.toInt r = -1 /\ Int32.toInt aCZ = Int32.toInt tx_length0) \/ (Int32.toInt tx_length0 <= 76 /\ Int32.toInt r = Int32.toInt aCZ /\ Int32.toInt aCZ = Int32.toInt tx_length0 + 4)) -> post r aCZ tx_signs') (hKn : ∀ (x1 : Int32) (x2 : Int32) (qL : Int32) (qM : Nat -> Int32), (-100 <= Int32.toInt x2 /\ Int32.toInt x2 <= 24) -> (0 <= Int32.toInt qL /\ Int32.toInt qL <= 80) -> (∀ k : Nat, 0 <= Int32.toInt (qM k) /\ Int32.toInt (qM k) <= 65535) -> (8 * Int32.toInt qL + Int32.toInt x2 = 8 * Int32.toInt tx_length0 + 24) -> (Int32.toInt tx_length0 <= 76) -> (-8 <= Int32.toInt x2) -> (Int32.toInt x2 % 8 = 0) -> (Int32.toInt x2 + 100 < n14) -> next x1 x2 qL qM) (x1 x2 qL : Int32) (qM : Nat -> Int32) (aBN : -100 <= Int32.toInt x2 /\ Int32.toInt x2 <= 24) (aBH : 0 <= Int32.toInt qL /\ Int32.toInt qL <= 80) (aAI : ∀ k : Nat, 0 <= Int32.toInt (qM k) /\ Int32.toInt (qM k) <= 65535) (hx0 : 8 * Int32.toInt qL + Int32.toInt x2 = 8 * Int32.toInt tx_length0 + 24) (hx1 : Int32.toInt tx_length0 <= 76) (hx2 : -8 <= Int32.toInt x2) (hx3 : Int32.toInt x2 % 8 = 0) (hn14 : Int32.toInt x2 + 100 <= n14) : ws_X8_add_14 post next x1 x2 qL qM := by
  have l0 := li_m8
  have l1 := aE0
  have l2 := aEc
  refine And.intro (fun c1 => ?_) (fun c1 => ?_)
  · skip
    have c1 := (aAd _ _).mp c1
    exact hpost _ _ _ (by omega) aBH aAI (by omega)
  · skip
    have c1 := mt (aAd _ _).mpr c1
    intro v2 ev2
    intro v3 ev3
    have hv3 := ti_i2c (v2 &&& 255)
    rw [<- ev3] at hv3
    refine And.intro (aBZ (by omega)) ?_
    have qa4 := ti_nar_char v3
    have a4 : ∀ k : Nat, 0 <= Int32.toInt ((upd qM qL.toNatClampNeg (vp_nar .char v3)) k) /\ Int32.toInt ((upd qM qL.toNatClampNeg (vp_nar .char v3)) k) <= 65535 := t_upd (fun k => by have q9 := aAI k; omega) (by omega)
    intro v5 ev5
    have f6 : Int32.toInt (qL + 1) = Int32.toInt qL + Int32.toInt (1 : Int32) := aAD _ _ (by omega)
    rw [<- ev5] at f6
    intro v7 ev7
    have f8 : Int32.toInt (x2 + (-8)) = Int32.toInt x2 + Int32.toInt ((-8) : Int32) := aAD _ _ (by omega)
    rw [<- ev7] at f8
    have f9 := aAT x1
    exact hKn x1 v7 v5 (upd qM qL.toNatClampNeg (vp_nar .char v3)) (by omega) (by omega) (fun k => by have q9 := a4 k; omega) (by omega) hx1 (by omega) (by omega) (by omega)
set_option maxHeartbeats 8000000 in
set_option maxRecDepth 200000 in
theorem tb_X8_add_14 {post : Int32 -> Int32 -> (Nat -> Int32) -> Prop} {tx_length0 : Int32} (hpost : ∀ (r : Int32) (aCZ : Int32) (tx_signs' : Nat -> Int32), (-1 <= Int32.toInt r /\ Int32.toInt r <= 80) -> (0 <= Int32.toInt aCZ /\ Int32.toInt aCZ <= 80) -> (∀ k : Nat, 0 <= Int32.toInt (tx_signs' k) /\ Int32.toInt (tx_signs' k) <= 65535) -> ((76 < Int32.toInt tx_length0 /\ Int32.toInt r = -1 /\ Int32.toInt aCZ = Int32.toInt tx_length0) \/ (Int32.toInt tx_length0 <= 76 /\ Int32.toInt r = Int32.toInt aCZ /\ Int32.toInt aCZ = Int32.toInt tx_length0 + 4)) -> post r aCZ tx_signs') : ∀ (n : Nat) (x1 x2 qL : Int32) (qM : Nat -> Int32), (-100 <= Int32.toInt x2 /\ Int32.toInt x2 <= 24) -> (0 <= Int32.toInt qL /\ Int32.toInt qL <= 80) -> (∀ k : Nat, 0 <= Int32.toInt (qM k) /\ Int32.toInt (qM k) <= 65535) -> (8 * Int32.toInt qL + Int32.toInt x2 = 8 * Int32.toInt tx_length0 + 24) -> (Int32.toInt tx_length0 <= 76) -> (-8 <= Int32.toInt x2) -> (Int32.toInt x2 % 8 = 0) -> (Int32.toInt x2 + 100 < (n : Int)) -> wb_X8_add_14 post n x1 x2 qL qM := by
  intro n
  induction n with
  | zero =>
    intro x1 x2 qL qM aBN aBH aAI hx0 hx1 hx2 hx3 hm
    exfalso; omega
  | succ n ih =>
    intro x1 x2 qL qM aBN aBH aAI hx0 hx1 hx2 hx3 hm
    exact ts_X8_add_14 hpost ih x1 x2 qL qM aBN aBH aAI hx0 hx1 hx2 hx3 (by omega)
set_option maxHeartbeats 8000000 in
set_option maxRecDepth 200000 in
theorem t_X8_add {post : Int32 -> Int32 -> (Nat -> Int32) -> Prop} {p0 qL : Int32} {qM : Nat -> Int32} (aBH : 0 <= Int32.toInt qL /\ Int32.toInt qL <= 80) (aAI : ∀ k : Nat, 0 <= Int32.toInt (qM k) /\ Int32.toInt (qM k) <= 65535) (hpost : ∀ (r : Int32) (aCZ : Int32) (tx_signs' : Nat -> Int32), (-1 <= Int32.toInt r /\ Int32.toInt r <= 80) -> (0 <= Int32.toInt aCZ /\ Int32.toInt aCZ <= 80) -> (∀ k : Nat, 0 <= Int32.toInt (tx_signs' k) /\ Int32.toInt (tx_signs' k) <= 65535) -> ((76 < Int32.toInt qL /\ Int32.toInt r = -1 /\ Int32.toInt aCZ = Int32.toInt qL) \/ (Int32.toInt qL <= 76 /\ Int32.toInt r = Int32.toInt aCZ /\ Int32.toInt aCZ = Int32.toInt qL + 4)) -> post r aCZ tx_signs') : wp_X8_add post p0 qL qM := by
  have l0 := aI2
  have l1 := li_24
  have l2 := li_76
  refine And.intro (fun c10 => ?_) (fun c10 => ?_)
  · skip
    have c10 := (aAO _ _).mp c10
    have f11 := aAT p0
    exact ⟨126, tb_X8_add_14 hpost _ p0 24 qL qM (by omega) aBH aAI (by omega) (by omega) (by omega) (by omega) (by omega)⟩
  · skip
    have c10 := mt (aAO _ _).mpr c10
    exact hpost _ _ _ (by omega) aBH aAI (by omega)
set_option maxHeartbeats 8000000 in
set_option maxRecDepth 200000 in
theorem t_X9_sign {post : Int32 -> Int32 -> (Nat -> Int32) -> Prop} {p0 qL : Int32} {qM : Nat -> Int32} (aBH : 0 <= Int32.toInt qL /\ Int32.toInt qL <= 80) (aAI : ∀ k : Nat, 0 <= Int32.toInt (qM k) /\ Int32.toInt (qM k) <= 65535) (hpost : ∀ (r : Int32) (aCZ : Int32) (tx_signs' : Nat -> Int32), (-1 <= Int32.toInt r /\ Int32.toInt r <= 80) -> (0 <= Int32.toInt aCZ /\ Int32.toInt aCZ <= 80) -> (∀ k : Nat, 0 <= Int32.toInt (tx_signs' k) /\ Int32.toInt (tx_signs' k) <= 65535) -> ((76 < Int32.toInt qL /\ Int32.toInt r = -1 /\ Int32.toInt aCZ = Int32.toInt qL) \/ (Int32.toInt qL <= 76 /\ Int32.toInt r = Int32.toInt aCZ /\ Int32.toInt aCZ = Int32.toInt qL + 4)) -> post r aCZ tx_signs') : wp_X9_sign post p0 qL qM := by
  refine t_X8_add aBH aAI (fun r3 tx_length_1 tx_signs_2 h_r3 h_tx_length_1 h_tx_signs_2 ox4 => ?_)
  exact hpost _ _ _ h_r3 h_tx_length_1 h_tx_signs_2 (by omega)
set_option maxHeartbeats 8000000 in
set_option maxRecDepth 200000 in
theorem t_X9_end {post : Int32 -> Int32 -> Prop} {p0 qL : Int32} (aBH : 0 <= Int32.toInt qL /\ Int32.toInt qL <= 80) (hpost : ∀ (r : Int32) (aCZ : Int32), (0 <= Int32.toInt r /\ Int32.toInt r <= 1) -> (0 <= Int32.toInt aCZ /\ Int32.toInt aCZ <= 80) -> ((0 <= Int32.toInt p0 /\ Int32.toInt p0 <= Int32.toInt qL /\ Int32.toInt aCZ = Int32.toInt p0 /\ Int32.toInt r = 1) \/ ((Int32.toInt p0 < 0 \/ Int32.toInt qL < Int32.toInt p0) /\ Int32.toInt aCZ = Int32.toInt qL /\ Int32.toInt r = 0)) -> post r aCZ) : wp_X9_end post p0 qL := by
  have l0 := aE0
  have l1 := aEc
  have f2 := aAT p0
  refine And.intro (fun c1 => ?_) (fun c1 => ?_)
  · skip
    have c1 := (aAd _ _).mp c1
    refine And.intro (aHE (by omega)) ?_
    exact hpost _ _ (by omega) aBH (by omega)
  · skip
    have c1 := mt (aAd _ _).mpr c1
    refine And.intro (fun c3 => ?_) (fun c3 => ?_)
    · skip
      have c3 := (aAO _ _).mp c3
      refine And.intro (aHE (by omega)) ?_
      exact hpost _ _ (by omega) (by omega) (by omega)
    · skip
      have c3 := mt (aAO _ _).mpr c3
      refine And.intro (aHE (by omega)) ?_
      exact hpost _ _ (by omega) aBH (by omega)
set_option maxHeartbeats 8000000 in
set_option maxRecDepth 200000 in
theorem ts_X4_forgetAll_7 {post : Int32 -> (Nat -> Int32) -> Prop} {next : Int32 -> Int32 -> (Nat -> Int32) -> Prop} {n7 : Int} (hpost : ∀ (aBa : Int32) (aHq : Nat -> Int32), (0 <= Int32.toInt aBa /\ Int32.toInt aBa <= 0) -> (∀ k : Nat, 0 <= Int32.toInt (aHq k) /\ Int32.toInt (aHq k) <= 1) -> post aBa aHq) (hKn : ∀ (x1 : Int32) (pR : Int32) (uF : Nat -> Int32), (0 <= Int32.toInt x1 /\ Int32.toInt x1 <= 2) -> (0 <= Int32.toInt pR /\ Int32.toInt pR <= 0) -> (∀ k : Nat, 0 <= Int32.toInt (uF k) /\ Int32.toInt (uF k) <= 1) -> (2 - Int32.toInt x1 < n7) -> next x1 pR uF) (x1 pR : Int32) (uF : Nat -> Int32) (aBK : 0 <= Int32.toInt x1 /\ Int32.toInt x1 <= 2) (aAr : 0 <= Int32.toInt pR /\ Int32.toInt pR <= 0) (aBU : ∀ k : Nat, 0 <= Int32.toInt (uF k) /\ Int32.toInt (uF k) <= 1) (hn7 : 2 - Int32.toInt x1 <= n7) : ws_X4_forgetAll_7 post next x1 pR uF := by
  have l0 := aE0
  have l1 := aEc
  have l2 := li_2
  refine And.intro (fun c1 => ?_) (fun c1 => ?_)
  · skip
    have c1 := (aAO _ _).mp c1
    exact hpost _ _ aAr aBU
  · skip
    have c1 := mt (aAO _ _).mpr c1
    refine And.intro (aBZ (by omega)) ?_
    have qa2 := ti_nar_boolean 0
    have a2 : ∀ k : Nat, 0 <= Int32.toInt ((upd uF x1.toNatClampNeg (vp_nar .boolean 0)) k) /\ Int32.toInt ((upd uF x1.toNatClampNeg (vp_nar .boolean 0)) k) <= 1 := t_upd (fun k => by have q9 := aBU k; omega) (by omega)
    intro v3 ev3
    have f4 : Int32.toInt (x1 + 1) = Int32.toInt x1 + Int32.toInt (1 : Int32) := aAD _ _ (by omega)
    rw [<- ev3] at f4
    exact hKn v3 pR (upd uF x1.toNatClampNeg (vp_nar .boolean 0)) (by omega) aAr (fun k => by have q9 := a2 k; omega) (by omega)
set_option maxHeartbeats 8000000 in
set_option maxRecDepth 200000 in
theorem tb_X4_forgetAll_7 {post : Int32 -> (Nat -> Int32) -> Prop} (hpost : ∀ (aBa : Int32) (aHq : Nat -> Int32), (0 <= Int32.toInt aBa /\ Int32.toInt aBa <= 0) -> (∀ k : Nat, 0 <= Int32.toInt (aHq k) /\ Int32.toInt (aHq k) <= 1) -> post aBa aHq) : ∀ (n : Nat) (x1 pR : Int32) (uF : Nat -> Int32), (0 <= Int32.toInt x1 /\ Int32.toInt x1 <= 2) -> (0 <= Int32.toInt pR /\ Int32.toInt pR <= 0) -> (∀ k : Nat, 0 <= Int32.toInt (uF k) /\ Int32.toInt (uF k) <= 1) -> (2 - Int32.toInt x1 < (n : Int)) -> wb_X4_forgetAll_7 post n x1 pR uF := by
  intro n
  induction n with
  | zero =>
    intro x1 pR uF aBK aAr aBU hm
    exfalso; omega
  | succ n ih =>
    intro x1 pR uF aBK aAr aBU hm
    exact ts_X4_forgetAll_7 hpost ih x1 pR uF aBK aAr aBU (by omega)
set_option maxHeartbeats 8000000 in
set_option maxRecDepth 200000 in
theorem t_X4_forgetAll {post : Int32 -> (Nat -> Int32) -> Prop} {pR : Int32} {uF : Nat -> Int32} (aAr : 0 <= Int32.toInt pR /\ Int32.toInt pR <= 12) (aBU : ∀ k : Nat, 0 <= Int32.toInt (uF k) /\ Int32.toInt (uF k) <= 1) (hpost : ∀ (aBa : Int32) (aHq : Nat -> Int32), (0 <= Int32.toInt aBa /\ Int32.toInt aBa <= 0) -> (∀ k : Nat, 0 <= Int32.toInt (aHq k) /\ Int32.toInt (aHq k) <= 1) -> post aBa aHq) : wp_X4_forgetAll post pR uF := by
  have l0 := aE0
  exact ⟨4, tb_X4_forgetAll_7 hpost _ 0 0 uF (by omega) (by omega) aBU (by omega)⟩
set_option maxHeartbeats 8000000 in
set_option maxRecDepth 200000 in
theorem ts_X8_digitHere_24 {post : Int32 -> Prop} (qJ rX : Int32) (qM : Nat -> Int32) (aA0 : 0 <= Int32.toInt qJ /\ Int32.toInt qJ <= 80) (aA2 : 0 <= Int32.toInt rX /\ Int32.toInt rX <= 80) (aAI : ∀ k : Nat, 0 <= Int32.toInt (qM k) /\ Int32.toInt (qM k) <= 65535) (hpost : ∀ (r : Int32) , (-1 <= Int32.toInt r /\ Int32.toInt r <= 9) -> post r) (k0 : Int32) (h_k0 : -1 <= Int32.toInt k0 /\ Int32.toInt k0 <= 65535) : ws_X8_digitHere_24 post qJ rX qM k0 := by
  have l0 := aI2
  have l1 := li_48
  have l2 := li_57
  refine And.intro (fun c1 => ?_) (fun c1 => ?_)
  · skip
    have c1 := (aAd _ _).mp c1
    exact hpost _ (by omega)
  · skip
    have c1 := mt (aAd _ _).mpr c1
    refine And.intro (fun c2 => ?_) (fun c2 => ?_)
    · skip
      have c2 := (aAd _ _).mp c2
      exact hpost _ (by omega)
    · skip
      have c2 := mt (aAd _ _).mpr c2
      intro v3 ev3
      have f4 : Int32.toInt (k0 - 48) = Int32.toInt k0 - Int32.toInt (48 : Int32) := aCA _ _ (by omega)
      rw [<- ev3] at f4
      exact hpost _ (by omega)
set_option maxHeartbeats 8000000 in
set_option maxRecDepth 200000 in
theorem t_X8_digitHere {post : Int32 -> Prop} {qJ rX : Int32} {qM : Nat -> Int32} (aA0 : 0 <= Int32.toInt qJ /\ Int32.toInt qJ <= 80) (aA2 : 0 <= Int32.toInt rX /\ Int32.toInt rX <= 80) (aAI : ∀ k : Nat, 0 <= Int32.toInt (qM k) /\ Int32.toInt (qM k) <= 65535) (hpost : ∀ (r : Int32) , (-1 <= Int32.toInt r /\ Int32.toInt r <= 9) -> post r) : wp_X8_digitHere post qJ rX qM := by
  have l0 := aI2
  refine And.intro (fun c5 => ?_) (fun c5 => ?_)
  · skip
    have c5 := (aAO _ _).mp c5
    exact ts_X8_digitHere_24 qJ rX qM aA0 aA2 aAI hpost (-1) (by omega)
  · skip
    have c5 := mt (aAO _ _).mpr c5
    refine And.intro (aBZ (by omega)) ?_
    intro v6 ev6
    have f7 := aAI qJ.toNatClampNeg
    have hv6 := congrArg Int32.toInt ev6
    exact ts_X8_digitHere_24 qJ rX qM aA0 aA2 aAI hpost v6 (by omega)
set_option maxHeartbeats 8000000 in
set_option maxRecDepth 200000 in
theorem ts_X8_readNumber_18 {post : Int32 -> Int32 -> Prop} {next : Int32 -> Int32 -> Int32 -> Int32 -> Prop} {n18 : Int} (rX : Int32) (qM : Nat -> Int32) (aA2 : 0 <= Int32.toInt rX /\ Int32.toInt rX <= 80) (aAI : ∀ k : Nat, 0 <= Int32.toInt (qM k) /\ Int32.toInt (qM k) <= 65535) (hpost : ∀ (r : Int32) (aBS : Int32), (0 <= Int32.toInt aBS /\ Int32.toInt aBS <= 80) -> post r aBS) (hKn : ∀ (x1 : Int32) (x2 : Int32) (x3 : Int32) (qJ : Int32), (1 <= Int32.toInt x1 /\ Int32.toInt x1 <= 3) -> (1 <= Int32.toInt x3 /\ Int32.toInt x3 <= 3) -> (0 <= Int32.toInt qJ /\ Int32.toInt qJ <= 80) -> (3 - Int32.toInt x3 < n18) -> next x1 x2 x3 qJ) (x1 x2 x3 qJ : Int32) (aBK : 1 <= Int32.toInt x1 /\ Int32.toInt x1 <= 3) (aCH : 1 <= Int32.toInt x3 /\ Int32.toInt x3 <= 3) (aA0 : 0 <= Int32.toInt qJ /\ Int32.toInt qJ <= 80) (hn18 : 3 - Int32.toInt x3 <= n18) : ws_X8_readNumber_18 post next rX qM x1 x2 x3 qJ := by
  have l0 := aI2
  have l1 := aEc
  refine And.intro (fun c1 => ?_) (fun c1 => ?_)
  · skip
    have c1 := (aAO _ _).mp c1
    exact hpost _ _ aA0
  · skip
    have c1 := mt (aAO _ _).mpr c1
    refine t_X8_digitHere aA0 aA2 aAI (fun r2 h_r2 => ?_)
    refine And.intro (fun c3 => ?_) (fun c3 => ?_)
    · skip
      have c3 := mt (zJ _ _).mpr c3
      intro v4 ev4
      have hv4 := congrArg Int32.toInt ev4
      intro v6 ev6
      have hv6 := congrArg Int32.toInt ev6
      refine And.intro (fun c8 => ?_) (fun c8 => ?_)
      · skip
        have c8 := (aAO _ _).mp c8
        intro v9 ev9
        have f10 : Int32.toInt (x3 + 1) = Int32.toInt x3 + Int32.toInt (1 : Int32) := aAD _ _ (by omega)
        rw [<- ev9] at f10
        have f11 := aAT v6
        exact hKn x1 v6 v9 qJ aBK (by omega) aA0 (by omega)
      · skip
        have c8 := mt (aAO _ _).mpr c8
        intro v12 ev12
        have f13 : Int32.toInt (qJ + 1) = Int32.toInt qJ + Int32.toInt (1 : Int32) := aAD _ _ (by omega)
        rw [<- ev12] at f13
        intro v14 ev14
        have f15 : Int32.toInt (x3 + 1) = Int32.toInt x3 + Int32.toInt (1 : Int32) := aAD _ _ (by omega)
        rw [<- ev14] at f15
        have f16 := aAT v6
        exact hKn x1 v6 v14 v12 aBK (by omega) (by omega) (by omega)
    · skip
      have c3 := (zJ _ _).mp c3
      exact hpost _ _ aA0
set_option maxHeartbeats 8000000 in
set_option maxRecDepth 200000 in
theorem tb_X8_readNumber_18 {post : Int32 -> Int32 -> Prop} (rX : Int32) (qM : Nat -> Int32) (aA2 : 0 <= Int32.toInt rX /\ Int32.toInt rX <= 80) (aAI : ∀ k : Nat, 0 <= Int32.toInt (qM k) /\ Int32.toInt (qM k) <= 65535) (hpost : ∀ (r : Int32) (aBS : Int32), (0 <= Int32.toInt aBS /\ Int32.toInt aBS <= 80) -> post r aBS) : ∀ (n : Nat) (x1 x2 x3 qJ : Int32), (1 <= Int32.toInt x1 /\ Int32.toInt x1 <= 3) -> (1 <= Int32.toInt x3 /\ Int32.toInt x3 <= 3) -> (0 <= Int32.toInt qJ /\ Int32.toInt qJ <= 80) -> (3 - Int32.toInt x3 < (n : Int)) -> wb_X8_readNumber_18 post rX qM n x1 x2 x3 qJ := by
  intro n
  induction n with
  | zero =>
    intro x1 x2 x3 qJ aBK aCH aA0 hm
    exfalso; omega
  | succ n ih =>
    intro x1 x2 x3 qJ aBK aCH aA0 hm
    exact ts_X8_readNumber_18 rX qM aA2 aAI hpost ih x1 x2 x3 qJ aBK aCH aA0 (by omega)
set_option maxHeartbeats 8000000 in
set_option maxRecDepth 200000 in
theorem aXN {post : Int32 -> Int32 -> Prop} {p0 qJ rX : Int32} {qM : Nat -> Int32} (h_p0 : 1 <= Int32.toInt p0 /\ Int32.toInt p0 <= 3) (aA0 : 0 <= Int32.toInt qJ /\ Int32.toInt qJ <= 80) (aA2 : 0 <= Int32.toInt rX /\ Int32.toInt rX <= 80) (aAI : ∀ k : Nat, 0 <= Int32.toInt (qM k) /\ Int32.toInt (qM k) <= 65535) (hpost : ∀ (r : Int32) (aBS : Int32), (0 <= Int32.toInt aBS /\ Int32.toInt aBS <= 80) -> post r aBS) : aMm post p0 qJ rX qM := by
  have l0 := aI2
  have l1 := aEc
  refine t_X8_digitHere aA0 aA2 aAI (fun r17 h_r17 => ?_)
  refine And.intro (fun c18 => ?_) (fun c18 => ?_)
  · skip
    have c18 := mt (zJ _ _).mpr c18
    refine And.intro (fun c19 => ?_) (fun c19 => ?_)
    · skip
      have c19 := (aAO _ _).mp c19
      exact ⟨4, tb_X8_readNumber_18 rX qM aA2 aAI hpost _ p0 r17 1 qJ h_p0 (by omega) aA0 (by omega)⟩
    · skip
      have c19 := mt (aAO _ _).mpr c19
      intro v20 ev20
      have f21 : Int32.toInt (qJ + 1) = Int32.toInt qJ + Int32.toInt (1 : Int32) := aAD _ _ (by omega)
      rw [<- ev20] at f21
      exact ⟨4, tb_X8_readNumber_18 rX qM aA2 aAI hpost _ p0 r17 1 v20 h_p0 (by omega) (by omega) (by omega)⟩
  · skip
    have c18 := (zJ _ _).mp c18
    exact hpost _ _ aA0
set_option maxHeartbeats 8000000 in
set_option maxRecDepth 200000 in
theorem ts_X3_readFruit_82 {post : Int32 -> Int32 -> Int32 -> (Nat -> Int32) -> (Nat -> Int32) -> (Nat -> Int32) -> (Nat -> Int32) -> Prop} (rX : Int32) (qM : Nat -> Int32) (aA2 : 1 <= Int32.toInt rX /\ Int32.toInt rX <= 79) (aAI : ∀ k : Nat, 0 <= Int32.toInt (qM k) /\ Int32.toInt (qM k) <= 65535) (hpost : ∀ (r : Int32) (aBS : Int32) (aCR : Int32) (tr_x' : Nat -> Int32) (aNV : Nat -> Int32) (aJW : Nat -> Int32) (aXi : Nat -> Int32), (0 <= Int32.toInt r /\ Int32.toInt r <= 1) -> (0 <= Int32.toInt aBS /\ Int32.toInt aBS <= 80) -> (0 <= Int32.toInt aCR /\ Int32.toInt aCR <= 16) -> post r aBS aCR tr_x' aNV aJW aXi) (x2 k1 k2 qJ bJ : Int32) (uU gF pL qF : Nat -> Int32) (aBN : 0 <= Int32.toInt x2 /\ Int32.toInt x2 <= 15) (h_k1 : 0 <= Int32.toInt k1 /\ Int32.toInt k1 <= 15) (aA0 : 0 <= Int32.toInt qJ /\ Int32.toInt qJ <= 80) (aAU : 0 <= Int32.toInt bJ /\ Int32.toInt bJ <= 15) : aYi post rX qM x2 k1 k2 qJ bJ uU gF pL qF := by
  have l0 := aI2
  have l1 := aE0
  have l2 := aEc
  refine And.intro (aBZ (by omega)) ?_
  refine And.intro (aBZ (by omega)) ?_
  intro v1 ev1
  have hv1 := congrArg Int32.toInt ev1
  have f4 := aAT v1
  refine And.intro (fun c3 => ?_) (fun c3 => ?_)
  · skip
    have c3 := mt (zJ _ _).mpr c3
    intro v5 ev5
    have f6 : Int32.toInt (bJ + 1) = Int32.toInt bJ + Int32.toInt (1 : Int32) := aAD _ _ (by omega)
    rw [<- ev5] at f6
    exact hpost _ _ _ _ _ _ _ (by omega) aA0 (by omega)
  · skip
    have c3 := (zJ _ _).mp c3
    exact hpost _ _ _ _ _ _ _ (by omega) aA0 (by omega)
set_option maxHeartbeats 8000000 in
set_option maxRecDepth 200000 in
theorem ts_X3_readFruit_46 {post : Int32 -> Int32 -> Int32 -> (Nat -> Int32) -> (Nat -> Int32) -> (Nat -> Int32) -> (Nat -> Int32) -> Prop} (rX : Int32) (qM : Nat -> Int32) (aA2 : 1 <= Int32.toInt rX /\ Int32.toInt rX <= 79) (aAI : ∀ k : Nat, 0 <= Int32.toInt (qM k) /\ Int32.toInt (qM k) <= 65535) (hpost : ∀ (r : Int32) (aBS : Int32) (aCR : Int32) (tr_x' : Nat -> Int32) (aNV : Nat -> Int32) (aJW : Nat -> Int32) (aXi : Nat -> Int32), (0 <= Int32.toInt r /\ Int32.toInt r <= 1) -> (0 <= Int32.toInt aBS /\ Int32.toInt aBS <= 80) -> (0 <= Int32.toInt aCR /\ Int32.toInt aCR <= 16) -> post r aBS aCR tr_x' aNV aJW aXi) (x2 k1 k2 qJ bJ : Int32) (uU gF pL qF : Nat -> Int32) (aBN : 0 <= Int32.toInt x2 /\ Int32.toInt x2 <= 15) (h_k1 : 0 <= Int32.toInt k1 /\ Int32.toInt k1 <= 15) (aA0 : 0 <= Int32.toInt qJ /\ Int32.toInt qJ <= 80) (aAU : 0 <= Int32.toInt bJ /\ Int32.toInt bJ <= 15) : ws_X3_readFruit_46 post rX qM x2 k1 k2 qJ bJ uU gF pL qF := by
  have l0 := aI2
  have l1 := aE0
  have l2 := aEc
  have l3 := li_64
  refine And.intro (aBZ (by omega)) ?_
  refine And.intro (aBZ (by omega)) ?_
  intro v7 ev7
  have hv7 := congrArg Int32.toInt ev7
  have f10 := aAT v7
  refine And.intro (fun c9 => ?_) (fun c9 => ?_)
  · skip
    have c9 := mt (zJ _ _).mpr c9
    refine And.intro (fun c11 => ?_) (fun c11 => ?_)
    · skip
      have c11 := (aAO _ _).mp c11
      refine And.intro (fun h9 => absurd h9 (by decide)) (fun _ => ?_)
      refine And.intro (fun _ => ?_) (fun h9 => absurd h9 (by decide))
      exact ts_X3_readFruit_82 rX qM aA2 aAI hpost x2 x2 0 qJ bJ uU gF (upd pL k1.toNatClampNeg k2) qF aBN aBN aA0 aAU
    · skip
      have c11 := mt (aAO _ _).mpr c11
      refine And.intro (aBZ (by omega)) ?_
      intro v12 ev12
      have f13 := aAI qJ.toNatClampNeg
      have hv12 := congrArg Int32.toInt ev12
      refine And.intro (fun c14 => ?_) (fun c14 => ?_)
      · skip
        have c14 := (zJ _ _).mp c14
        intro v15 ev15
        have f16 : Int32.toInt (qJ + 1) = Int32.toInt qJ + Int32.toInt (1 : Int32) := aAD _ _ (by omega)
        rw [<- ev15] at f16
        refine And.intro (fun h9 => absurd h9 (by decide)) (fun _ => ?_)
        refine aXN (by omega) (by omega) (by omega) aAI (fun r18 tx_place_17 h_tx_place_17 => ?_)
        have f19 := aAT r18
        exact ts_X3_readFruit_82 rX qM aA2 aAI hpost x2 x2 r18 tx_place_17 bJ uU gF (upd pL k1.toNatClampNeg k2) qF aBN aBN h_tx_place_17 aAU
      · skip
        have c14 := mt (zJ _ _).mpr c14
        refine And.intro (fun _ => ?_) (fun h9 => absurd h9 (by decide))
        exact ts_X3_readFruit_82 rX qM aA2 aAI hpost x2 x2 0 qJ bJ uU gF (upd pL k1.toNatClampNeg k2) qF aBN aBN aA0 aAU
  · skip
    have c9 := (zJ _ _).mp c9
    exact hpost _ _ _ _ _ _ _ (by omega) aA0 (by omega)
set_option maxHeartbeats 8000000 in
set_option maxRecDepth 200000 in
theorem t_X3_readFruit {post : Int32 -> Int32 -> Int32 -> (Nat -> Int32) -> (Nat -> Int32) -> (Nat -> Int32) -> (Nat -> Int32) -> Prop} {qJ rX : Int32} {qM : Nat -> Int32} {bJ : Int32} {uU gF pL qF : Nat -> Int32} (aA0 : 1 <= Int32.toInt qJ /\ Int32.toInt qJ <= 79) (aA2 : 1 <= Int32.toInt rX /\ Int32.toInt rX <= 79) (aAI : ∀ k : Nat, 0 <= Int32.toInt (qM k) /\ Int32.toInt (qM k) <= 65535) (aAU : 0 <= Int32.toInt bJ /\ Int32.toInt bJ <= 15) (hpost : ∀ (r : Int32) (aBS : Int32) (aCR : Int32) (tr_x' : Nat -> Int32) (aNV : Nat -> Int32) (aJW : Nat -> Int32) (aXi : Nat -> Int32), (0 <= Int32.toInt r /\ Int32.toInt r <= 1) -> (0 <= Int32.toInt aBS /\ Int32.toInt aBS <= 80) -> (0 <= Int32.toInt aCR /\ Int32.toInt aCR <= 16) -> post r aBS aCR tr_x' aNV aJW aXi) : wp_X3_readFruit post qJ rX qM bJ uU gF pL qF := by
  have l0 := aI2
  have l1 := aE0
  have l2 := aEc
  have l3 := li_16
  have l4 := li_2
  have l5 := li_42
  have l6 := li_44
  refine aXN (by omega) (by omega) (by omega) aAI (fun r21 tx_place_20 h_tx_place_20 => ?_)
  have f23 := aAT r21
  refine And.intro (fun c22 => ?_) (fun c22 => ?_)
  · skip
    have c22 := (zJ _ _).mp c22
    refine And.intro (fun h9 => absurd h9 (by decide)) (fun _ => ?_)
    exact hpost _ _ _ _ _ _ _ (by omega) h_tx_place_20 (by omega)
  · skip
    have c22 := mt (zJ _ _).mpr c22
    refine And.intro (fun c24 => ?_) (fun c24 => ?_)
    · skip
      have c24 := (aAO _ _).mp c24
      refine And.intro (fun h9 => absurd h9 (by decide)) (fun _ => ?_)
      refine And.intro (fun h9 => absurd h9 (by decide)) (fun _ => ?_)
      refine And.intro (fun h9 => absurd h9 (by decide)) (fun _ => ?_)
      exact hpost _ _ _ _ _ _ _ (by omega) h_tx_place_20 (by omega)
    · skip
      have c24 := mt (aAO _ _).mpr c24
      refine And.intro (aBZ (by omega)) ?_
      intro v25 ev25
      have f26 := aAI tx_place_20.toNatClampNeg
      have hv25 := congrArg Int32.toInt ev25
      refine And.intro (fun c27 => ?_) (fun c27 => ?_)
      · skip
        have c27 := (zJ _ _).mp c27
        intro v28 ev28
        have f29 : Int32.toInt (tx_place_20 + 1) = Int32.toInt tx_place_20 + Int32.toInt (1 : Int32) := aAD _ _ (by omega)
        rw [<- ev28] at f29
        refine And.intro (fun _ => ?_) (fun h9 => absurd h9 (by decide))
        refine aXN (by omega) (by omega) (by omega) aAI (fun r31 tx_place_30 h_tx_place_30 => ?_)
        have f33 := aAT r31
        refine And.intro (fun c32 => ?_) (fun c32 => ?_)
        · skip
          have c32 := (zJ _ _).mp c32
          refine And.intro (fun h9 => absurd h9 (by decide)) (fun _ => ?_)
          exact hpost _ _ _ _ _ _ _ (by omega) h_tx_place_30 (by omega)
        · skip
          have c32 := mt (zJ _ _).mpr c32
          refine And.intro (fun c34 => ?_) (fun c34 => ?_)
          · skip
            have c34 := (aAd _ _).mp c34
            exfalso; omega
          · skip
            have c34 := mt (aAd _ _).mpr c34
            refine And.intro (fun c35 => ?_) (fun c35 => ?_)
            · skip
              have c35 := (aAO _ _).mp c35
              exfalso; omega
            · skip
              have c35 := mt (aAO _ _).mpr c35
              refine And.intro (fun c36 => ?_) (fun c36 => ?_)
              · skip
                have c36 := (aAd _ _).mp c36
                refine And.intro (aBZ (by omega)) ?_
                refine And.intro (aBZ (by omega)) ?_
                refine And.intro (fun _ => ?_) (fun h9 => absurd h9 (by decide))
                refine And.intro (fun c37 => ?_) (fun c37 => ?_)
                · skip
                  have c37 := (aAO _ _).mp c37
                  refine And.intro (fun h9 => absurd h9 (by decide)) (fun _ => ?_)
                  refine And.intro (fun _ => ?_) (fun h9 => absurd h9 (by decide))
                  exact ts_X3_readFruit_46 rX qM aA2 aAI hpost bJ bJ 1 tx_place_30 bJ (upd uU bJ.toNatClampNeg r21) (upd gF bJ.toNatClampNeg r31) pL qF aAU aAU h_tx_place_30 aAU
                · skip
                  have c37 := mt (aAO _ _).mpr c37
                  refine And.intro (aBZ (by omega)) ?_
                  intro v38 ev38
                  have f39 := aAI tx_place_30.toNatClampNeg
                  have hv38 := congrArg Int32.toInt ev38
                  refine And.intro (fun c40 => ?_) (fun c40 => ?_)
                  · skip
                    have c40 := (zJ _ _).mp c40
                    intro v41 ev41
                    have f42 : Int32.toInt (tx_place_30 + 1) = Int32.toInt tx_place_30 + Int32.toInt (1 : Int32) := aAD _ _ (by omega)
                    rw [<- ev41] at f42
                    refine And.intro (fun h9 => absurd h9 (by decide)) (fun _ => ?_)
                    refine aXN (by omega) (by omega) (by omega) aAI (fun r44 tx_place_43 h_tx_place_43 => ?_)
                    have f45 := aAT r44
                    exact ts_X3_readFruit_46 rX qM aA2 aAI hpost bJ bJ r44 tx_place_43 bJ (upd uU bJ.toNatClampNeg r21) (upd gF bJ.toNatClampNeg r31) pL qF aAU aAU h_tx_place_43 aAU
                  · skip
                    have c40 := mt (zJ _ _).mpr c40
                    refine And.intro (fun _ => ?_) (fun h9 => absurd h9 (by decide))
                    exact ts_X3_readFruit_46 rX qM aA2 aAI hpost bJ bJ 1 tx_place_30 bJ (upd uU bJ.toNatClampNeg r21) (upd gF bJ.toNatClampNeg r31) pL qF aAU aAU h_tx_place_30 aAU
              · skip
                have c36 := mt (aAd _ _).mpr c36
                exfalso; omega
      · skip
        have c27 := mt (zJ _ _).mpr c27
        refine And.intro (fun h9 => absurd h9 (by decide)) (fun _ => ?_)
        refine And.intro (fun h9 => absurd h9 (by decide)) (fun _ => ?_)
        exact hpost _ _ _ _ _ _ _ (by omega) h_tx_place_20 (by omega)
set_option maxHeartbeats 8000000 in
set_option maxRecDepth 200000 in
theorem ts_X3_readLine_28 {post : Int32 -> Int32 -> Int32 -> Int32 -> (Nat -> Int32) -> (Nat -> Int32) -> (Nat -> Int32) -> (Nat -> Int32) -> (Nat -> Int32) -> (Nat -> Int32) -> Prop} (rX : Int32) (qM : Nat -> Int32) (aA2 : 0 <= Int32.toInt rX /\ Int32.toInt rX <= 79) (aAI : ∀ k : Nat, 0 <= Int32.toInt (qM k) /\ Int32.toInt (qM k) <= 65535) (hpost : ∀ (r : Int32) (aBS : Int32) (aCR : Int32) (aCc : Int32) (tr_x' : Nat -> Int32) (aNV : Nat -> Int32) (aJW : Nat -> Int32) (aXi : Nat -> Int32) (tr_foot' : Nat -> Int32) (tr_fork' : Nat -> Int32), (0 <= Int32.toInt r /\ Int32.toInt r <= 1) -> (0 <= Int32.toInt aBS /\ Int32.toInt aBS <= 80) -> (0 <= Int32.toInt aCR /\ Int32.toInt aCR <= 16) -> (0 <= Int32.toInt aCc /\ Int32.toInt aCc <= 8) -> post r aBS aCR aCc tr_x' aNV aJW aXi tr_foot' tr_fork') (qJ bJ aI : Int32) (uU gF pL qF mX oE : Nat -> Int32) (aA0 : 0 <= Int32.toInt qJ /\ Int32.toInt qJ <= 79) (aAU : 0 <= Int32.toInt bJ /\ Int32.toInt bJ <= 16) (aAG : 0 <= Int32.toInt aI /\ Int32.toInt aI <= 8) : ws_X3_readLine_28 post rX qM qJ bJ aI uU gF pL qF mX oE := by
  have l0 := aI2
  have l1 := aE0
  have l2 := aEc
  have l3 := li_115
  have l4 := li_2
  have l5 := li_44
  have l6 := li_8
  refine And.intro (fun c1 => ?_) (fun c1 => ?_)
  · skip
    have c1 := (aAO _ _).mp c1
    refine And.intro (fun _ => ?_) (fun h9 => absurd h9 (by decide))
    exact hpost _ _ _ _ _ _ _ _ _ _ (by omega) (by omega) aAU aAG
  · skip
    have c1 := mt (aAO _ _).mpr c1
    refine And.intro (aBZ (by omega)) ?_
    intro v2 ev2
    have f3 := aAI qJ.toNatClampNeg
    have hv2 := congrArg Int32.toInt ev2
    refine And.intro (fun c4 => ?_) (fun c4 => ?_)
    · skip
      have c4 := mt (zJ _ _).mpr c4
      exact hpost _ _ _ _ _ _ _ _ _ _ (by omega) (by omega) aAU aAG
    · skip
      have c4 := (zJ _ _).mp c4
      refine And.intro (fun c5 => ?_) (fun c5 => ?_)
      · skip
        have c5 := (aAO _ _).mp c5
        exact hpost _ _ _ _ _ _ _ _ _ _ (by omega) (by omega) aAU aAG
      · skip
        have c5 := mt (aAO _ _).mpr c5
        refine And.intro (fun c6 => ?_) (fun c6 => ?_)
        · skip
          have c6 := (aAO _ _).mp c6
          refine aXN (by omega) (by omega) (by omega) aAI (fun r8 tx_place_7 h_tx_place_7 => ?_)
          have f10 := aAT r8
          refine And.intro (fun c9 => ?_) (fun c9 => ?_)
          · skip
            have c9 := (zJ _ _).mp c9
            refine And.intro (fun h9 => absurd h9 (by decide)) (fun _ => ?_)
            refine And.intro (aHE (by omega)) ?_
            exact hpost _ _ _ _ _ _ _ _ _ _ (by omega) h_tx_place_7 aAU aAG
          · skip
            have c9 := mt (zJ _ _).mpr c9
            refine And.intro (fun c11 => ?_) (fun c11 => ?_)
            · skip
              have c11 := (aAO _ _).mp c11
              refine And.intro (fun h9 => absurd h9 (by decide)) (fun _ => ?_)
              refine And.intro (fun h9 => absurd h9 (by decide)) (fun _ => ?_)
              refine And.intro (fun h9 => absurd h9 (by decide)) (fun _ => ?_)
              refine And.intro (aHE (by omega)) ?_
              exact hpost _ _ _ _ _ _ _ _ _ _ (by omega) h_tx_place_7 aAU aAG
            · skip
              have c11 := mt (aAO _ _).mpr c11
              refine And.intro (aBZ (by omega)) ?_
              intro v12 ev12
              have f13 := aAI tx_place_7.toNatClampNeg
              have hv12 := congrArg Int32.toInt ev12
              refine And.intro (fun c14 => ?_) (fun c14 => ?_)
              · skip
                have c14 := (zJ _ _).mp c14
                intro v15 ev15
                have f16 : Int32.toInt (tx_place_7 + 1) = Int32.toInt tx_place_7 + Int32.toInt (1 : Int32) := aAD _ _ (by omega)
                rw [<- ev15] at f16
                refine And.intro (fun _ => ?_) (fun h9 => absurd h9 (by decide))
                refine aXN (by omega) (by omega) (by omega) aAI (fun r18 tx_place_17 h_tx_place_17 => ?_)
                have f20 := aAT r18
                refine And.intro (fun c19 => ?_) (fun c19 => ?_)
                · skip
                  have c19 := (zJ _ _).mp c19
                  refine And.intro (fun h9 => absurd h9 (by decide)) (fun _ => ?_)
                  refine And.intro (aHE (by omega)) ?_
                  exact hpost _ _ _ _ _ _ _ _ _ _ (by omega) h_tx_place_17 aAU aAG
                · skip
                  have c19 := mt (zJ _ _).mpr c19
                  refine And.intro (fun c21 => ?_) (fun c21 => ?_)
                  · skip
                    have c21 := (aAd _ _).mp c21
                    exfalso; omega
                  · skip
                    have c21 := mt (aAd _ _).mpr c21
                    refine And.intro (fun c22 => ?_) (fun c22 => ?_)
                    · skip
                      have c22 := (aAO _ _).mp c22
                      exfalso; omega
                    · skip
                      have c22 := mt (aAO _ _).mpr c22
                      refine And.intro (fun c23 => ?_) (fun c23 => ?_)
                      · skip
                        have c23 := (aAd _ _).mp c23
                        refine And.intro (aBZ (by omega)) ?_
                        refine And.intro (aBZ (by omega)) ?_
                        refine And.intro (fun _ => ?_) (fun h9 => absurd h9 (by decide))
                        intro v24 ev24
                        have f25 : Int32.toInt (aI + 1) = Int32.toInt aI + Int32.toInt (1 : Int32) := aAD _ _ (by omega)
                        rw [<- ev24] at f25
                        refine And.intro (aHE (by omega)) ?_
                        exact hpost _ _ _ _ _ _ _ _ _ _ (by omega) h_tx_place_17 aAU (by omega)
                      · skip
                        have c23 := mt (aAd _ _).mpr c23
                        exfalso; omega
              · skip
                have c14 := mt (zJ _ _).mpr c14
                refine And.intro (fun h9 => absurd h9 (by decide)) (fun _ => ?_)
                refine And.intro (fun h9 => absurd h9 (by decide)) (fun _ => ?_)
                refine And.intro (aHE (by omega)) ?_
                exact hpost _ _ _ _ _ _ _ _ _ _ (by omega) h_tx_place_7 aAU aAG
        · skip
          have c6 := mt (aAO _ _).mpr c6
          intro v26 ev26
          have f27 : Int32.toInt (qJ + 1) = Int32.toInt qJ + Int32.toInt (1 : Int32) := aAD _ _ (by omega)
          rw [<- ev26] at f27
          refine aXN (by omega) (by omega) (by omega) aAI (fun r29 tx_place_28 h_tx_place_28 => ?_)
          have f31 := aAT r29
          refine And.intro (fun c30 => ?_) (fun c30 => ?_)
          · skip
            have c30 := (zJ _ _).mp c30
            refine And.intro (fun h9 => absurd h9 (by decide)) (fun _ => ?_)
            refine And.intro (aHE (by omega)) ?_
            exact hpost _ _ _ _ _ _ _ _ _ _ (by omega) h_tx_place_28 aAU aAG
          · skip
            have c30 := mt (zJ _ _).mpr c30
            refine And.intro (fun c32 => ?_) (fun c32 => ?_)
            · skip
              have c32 := (aAO _ _).mp c32
              refine And.intro (fun h9 => absurd h9 (by decide)) (fun _ => ?_)
              refine And.intro (fun h9 => absurd h9 (by decide)) (fun _ => ?_)
              refine And.intro (fun h9 => absurd h9 (by decide)) (fun _ => ?_)
              refine And.intro (aHE (by omega)) ?_
              exact hpost _ _ _ _ _ _ _ _ _ _ (by omega) h_tx_place_28 aAU aAG
            · skip
              have c32 := mt (aAO _ _).mpr c32
              refine And.intro (aBZ (by omega)) ?_
              intro v33 ev33
              have f34 := aAI tx_place_28.toNatClampNeg
              have hv33 := congrArg Int32.toInt ev33
              refine And.intro (fun c35 => ?_) (fun c35 => ?_)
              · skip
                have c35 := (zJ _ _).mp c35
                intro v36 ev36
                have f37 : Int32.toInt (tx_place_28 + 1) = Int32.toInt tx_place_28 + Int32.toInt (1 : Int32) := aAD _ _ (by omega)
                rw [<- ev36] at f37
                refine And.intro (fun _ => ?_) (fun h9 => absurd h9 (by decide))
                refine aXN (by omega) (by omega) (by omega) aAI (fun r39 tx_place_38 h_tx_place_38 => ?_)
                have f41 := aAT r39
                refine And.intro (fun c40 => ?_) (fun c40 => ?_)
                · skip
                  have c40 := (zJ _ _).mp c40
                  refine And.intro (fun h9 => absurd h9 (by decide)) (fun _ => ?_)
                  refine And.intro (aHE (by omega)) ?_
                  exact hpost _ _ _ _ _ _ _ _ _ _ (by omega) h_tx_place_38 aAU aAG
                · skip
                  have c40 := mt (zJ _ _).mpr c40
                  refine And.intro (fun c42 => ?_) (fun c42 => ?_)
                  · skip
                    have c42 := (aAd _ _).mp c42
                    exfalso; omega
                  · skip
                    have c42 := mt (aAd _ _).mpr c42
                    refine And.intro (fun c43 => ?_) (fun c43 => ?_)
                    · skip
                      have c43 := (aAO _ _).mp c43
                      exfalso; omega
                    · skip
                      have c43 := mt (aAO _ _).mpr c43
                      refine And.intro (fun c44 => ?_) (fun c44 => ?_)
                      · skip
                        have c44 := (aAd _ _).mp c44
                        refine And.intro (aBZ (by omega)) ?_
                        refine And.intro (aBZ (by omega)) ?_
                        refine And.intro (fun _ => ?_) (fun h9 => absurd h9 (by decide))
                        intro v45 ev45
                        have f46 : Int32.toInt (aI + 1) = Int32.toInt aI + Int32.toInt (1 : Int32) := aAD _ _ (by omega)
                        rw [<- ev45] at f46
                        refine And.intro (aHE (by omega)) ?_
                        exact hpost _ _ _ _ _ _ _ _ _ _ (by omega) h_tx_place_38 aAU (by omega)
                      · skip
                        have c44 := mt (aAd _ _).mpr c44
                        exfalso; omega
              · skip
                have c35 := mt (zJ _ _).mpr c35
                refine And.intro (fun h9 => absurd h9 (by decide)) (fun _ => ?_)
                refine And.intro (fun h9 => absurd h9 (by decide)) (fun _ => ?_)
                refine And.intro (aHE (by omega)) ?_
                exact hpost _ _ _ _ _ _ _ _ _ _ (by omega) h_tx_place_28 aAU aAG
set_option maxHeartbeats 8000000 in
set_option maxRecDepth 200000 in
theorem t_X3_readLine {post : Int32 -> Int32 -> Int32 -> Int32 -> (Nat -> Int32) -> (Nat -> Int32) -> (Nat -> Int32) -> (Nat -> Int32) -> (Nat -> Int32) -> (Nat -> Int32) -> Prop} {qJ rX : Int32} {qM : Nat -> Int32} {bJ aI : Int32} {uU gF pL qF mX oE : Nat -> Int32} (aA0 : 0 <= Int32.toInt qJ /\ Int32.toInt qJ <= 79) (aA2 : 0 <= Int32.toInt rX /\ Int32.toInt rX <= 79) (aAI : ∀ k : Nat, 0 <= Int32.toInt (qM k) /\ Int32.toInt (qM k) <= 65535) (aAU : 0 <= Int32.toInt bJ /\ Int32.toInt bJ <= 16) (aAG : 0 <= Int32.toInt aI /\ Int32.toInt aI <= 8) (hpost : ∀ (r : Int32) (aBS : Int32) (aCR : Int32) (aCc : Int32) (tr_x' : Nat -> Int32) (aNV : Nat -> Int32) (aJW : Nat -> Int32) (aXi : Nat -> Int32) (tr_foot' : Nat -> Int32) (tr_fork' : Nat -> Int32), (0 <= Int32.toInt r /\ Int32.toInt r <= 1) -> (0 <= Int32.toInt aBS /\ Int32.toInt aBS <= 80) -> (0 <= Int32.toInt aCR /\ Int32.toInt aCR <= 16) -> (0 <= Int32.toInt aCc /\ Int32.toInt aCc <= 8) -> post r aBS aCR aCc tr_x' aNV aJW aXi tr_foot' tr_fork') : wp_X3_readLine post qJ rX qM bJ aI uU gF pL qF mX oE := by
  have l0 := aEc
  have l1 := li_102
  have l2 := li_16
  refine And.intro (fun c47 => ?_) (fun c47 => ?_)
  · skip
    have c47 := (aAO _ _).mp c47
    refine And.intro (fun _ => ?_) (fun h9 => absurd h9 (by decide))
    exact ts_X3_readLine_28 rX qM aA2 aAI hpost qJ bJ aI uU gF pL qF mX oE aA0 aAU aAG
  · skip
    have c47 := mt (aAO _ _).mpr c47
    refine And.intro (aBZ (by omega)) ?_
    intro v48 ev48
    have f49 := aAI qJ.toNatClampNeg
    have hv48 := congrArg Int32.toInt ev48
    refine And.intro (fun c50 => ?_) (fun c50 => ?_)
    · skip
      have c50 := mt (zJ _ _).mpr c50
      exact ts_X3_readLine_28 rX qM aA2 aAI hpost qJ bJ aI uU gF pL qF mX oE aA0 aAU aAG
    · skip
      have c50 := (zJ _ _).mp c50
      refine And.intro (fun c51 => ?_) (fun c51 => ?_)
      · skip
        have c51 := (aAO _ _).mp c51
        exact ts_X3_readLine_28 rX qM aA2 aAI hpost qJ bJ aI uU gF pL qF mX oE aA0 aAU aAG
      · skip
        have c51 := mt (aAO _ _).mpr c51
        refine And.intro (fun c52 => ?_) (fun c52 => ?_)
        · skip
          have c52 := (aAO _ _).mp c52
          refine t_X3_readFruit (by omega) (by omega) aAI (by omega) (fun r59 tx_place_53 tr_comingFruits_54 tr_x_55 tr_height_56 tr_worth_57 tr_ripe_58 h_r59 h_tx_place_53 h_tr_comingFruits_54 => ?_)
          refine And.intro (aHE (by omega)) ?_
          exact hpost _ _ _ _ _ _ _ _ _ _ h_r59 h_tx_place_53 h_tr_comingFruits_54 aAG
        · skip
          have c52 := mt (aAO _ _).mpr c52
          intro v60 ev60
          have f61 : Int32.toInt (qJ + 1) = Int32.toInt qJ + Int32.toInt (1 : Int32) := aAD _ _ (by omega)
          rw [<- ev60] at f61
          refine t_X3_readFruit (by omega) (by omega) aAI (by omega) (fun r68 tx_place_62 tr_comingFruits_63 tr_x_64 tr_height_65 tr_worth_66 tr_ripe_67 h_r68 h_tx_place_62 h_tr_comingFruits_63 => ?_)
          refine And.intro (aHE (by omega)) ?_
          exact hpost _ _ _ _ _ _ _ _ _ _ h_r68 h_tx_place_62 h_tr_comingFruits_63 aAG
set_option maxHeartbeats 8000000 in
set_option maxRecDepth 200000 in
theorem ts_X3_readLines_18 {post next : Int32 -> Int32 -> Int32 -> Int32 -> (Nat -> Int32) -> (Nat -> Int32) -> (Nat -> Int32) -> (Nat -> Int32) -> (Nat -> Int32) -> (Nat -> Int32) -> Prop} {n18 : Int} (rX : Int32) (qM : Nat -> Int32) (dN bD : Int32) (aA2 : 0 <= Int32.toInt rX /\ Int32.toInt rX <= 79) (aAI : ∀ k : Nat, 0 <= Int32.toInt (qM k) /\ Int32.toInt (qM k) <= 65535) (xL : 0 <= Int32.toInt dN /\ Int32.toInt dN <= 16) (wX : 0 <= Int32.toInt bD /\ Int32.toInt bD <= 8) (hpost : ∀ (r : Int32) (aBS : Int32) (aCR : Int32) (aCc : Int32) (tr_x' : Nat -> Int32) (aNV : Nat -> Int32) (aJW : Nat -> Int32) (aXi : Nat -> Int32) (tr_foot' : Nat -> Int32) (tr_fork' : Nat -> Int32), (-1 <= Int32.toInt r /\ Int32.toInt r <= 79) -> (0 <= Int32.toInt aBS /\ Int32.toInt aBS <= 80) -> (0 <= Int32.toInt aCR /\ Int32.toInt aCR <= 16) -> (0 <= Int32.toInt aCc /\ Int32.toInt aCc <= 8) -> post r aBS aCR aCc tr_x' aNV aJW aXi tr_foot' tr_fork') (hKn : ∀ (x2 : Int32) (qJ : Int32) (bJ : Int32) (aI : Int32) (uU : Nat -> Int32) (gF : Nat -> Int32) (pL : Nat -> Int32) (qF : Nat -> Int32) (mX : Nat -> Int32) (oE : Nat -> Int32), (1 <= Int32.toInt x2 /\ Int32.toInt x2 <= 79) -> (0 <= Int32.toInt qJ /\ Int32.toInt qJ <= 79) -> (0 <= Int32.toInt bJ /\ Int32.toInt bJ <= 16) -> (0 <= Int32.toInt aI /\ Int32.toInt aI <= 8) -> (79 - Int32.toInt x2 < n18) -> next x2 qJ bJ aI uU gF pL qF mX oE) (x2 qJ bJ aI : Int32) (uU gF pL qF mX oE : Nat -> Int32) (aBN : 1 <= Int32.toInt x2 /\ Int32.toInt x2 <= 79) (aA0 : 0 <= Int32.toInt qJ /\ Int32.toInt qJ <= 79) (aAU : 0 <= Int32.toInt bJ /\ Int32.toInt bJ <= 16) (aAG : 0 <= Int32.toInt aI /\ Int32.toInt aI <= 8) (hn18 : 79 - Int32.toInt x2 <= n18) : ws_X3_readLines_18 post next rX qM dN bD x2 qJ bJ aI uU gF pL qF mX oE := by
  have l0 := aI2
  have l1 := aE0
  have l2 := aEc
  have l3 := li_59
  have l4 := li_76
  refine And.intro (fun c1 => ?_) (fun c1 => ?_)
  · skip
    have c1 := (aAd _ _).mp c1
    exact hpost _ _ _ _ _ _ _ _ _ _ (by omega) (by omega) aAU aAG
  · skip
    have c1 := mt (aAd _ _).mpr c1
    refine t_X3_readLine aA0 aA2 aAI aAU aAG (fun r11 aCK aUz aOr tr_x_5 tr_height_6 tr_worth_7 tr_ripe_8 tr_foot_9 tr_fork_10 h_r11 h_tx_place_2 h_tr_comingFruits_3 h_tr_comingStandings_4 => ?_)
    refine And.intro (fun c12 => ?_) (fun c12 => ?_)
    · skip
      have c12 := mt (zJ _ _).mpr c12
      refine And.intro (fun c13 => ?_) (fun c13 => ?_)
      · skip
        have c13 := (aAO _ _).mp c13
        refine And.intro (fun h9 => absurd h9 (by decide)) (fun _ => ?_)
        refine And.intro (fun h9 => absurd h9 (by decide)) (fun _ => ?_)
        exact hpost _ _ _ _ _ _ _ _ _ _ (by omega) h_tx_place_2 h_tr_comingFruits_3 h_tr_comingStandings_4
      · skip
        have c13 := mt (aAO _ _).mpr c13
        refine And.intro (aBZ (by omega)) ?_
        intro v14 ev14
        have f15 := aAI aCK.toNatClampNeg
        have hv14 := congrArg Int32.toInt ev14
        refine And.intro (fun c16 => ?_) (fun c16 => ?_)
        · skip
          have c16 := (zJ _ _).mp c16
          intro v17 ev17
          have f18 : Int32.toInt (aCK + 1) = Int32.toInt aCK + Int32.toInt (1 : Int32) := aAD _ _ (by omega)
          rw [<- ev17] at f18
          refine And.intro (fun _ => ?_) (fun h9 => absurd h9 (by decide))
          intro v19 ev19
          have f20 : Int32.toInt (x2 + 1) = Int32.toInt x2 + Int32.toInt (1 : Int32) := aAD _ _ (by omega)
          rw [<- ev19] at f20
          exact hKn v19 v17 aUz aOr tr_x_5 tr_height_6 tr_worth_7 tr_ripe_8 tr_foot_9 tr_fork_10 (by omega) (by omega) h_tr_comingFruits_3 h_tr_comingStandings_4 (by omega)
        · skip
          have c16 := mt (zJ _ _).mpr c16
          refine And.intro (fun h9 => absurd h9 (by decide)) (fun _ => ?_)
          exact hpost _ _ _ _ _ _ _ _ _ _ (by omega) h_tx_place_2 h_tr_comingFruits_3 h_tr_comingStandings_4
    · skip
      have c12 := (zJ _ _).mp c12
      exact hpost _ _ _ _ _ _ _ _ _ _ (by omega) h_tx_place_2 h_tr_comingFruits_3 h_tr_comingStandings_4
set_option maxHeartbeats 8000000 in
set_option maxRecDepth 200000 in
theorem tb_X3_readLines_18 {post : Int32 -> Int32 -> Int32 -> Int32 -> (Nat -> Int32) -> (Nat -> Int32) -> (Nat -> Int32) -> (Nat -> Int32) -> (Nat -> Int32) -> (Nat -> Int32) -> Prop} (rX : Int32) (qM : Nat -> Int32) (dN bD : Int32) (aA2 : 0 <= Int32.toInt rX /\ Int32.toInt rX <= 79) (aAI : ∀ k : Nat, 0 <= Int32.toInt (qM k) /\ Int32.toInt (qM k) <= 65535) (xL : 0 <= Int32.toInt dN /\ Int32.toInt dN <= 16) (wX : 0 <= Int32.toInt bD /\ Int32.toInt bD <= 8) (hpost : ∀ (r : Int32) (aBS : Int32) (aCR : Int32) (aCc : Int32) (tr_x' : Nat -> Int32) (aNV : Nat -> Int32) (aJW : Nat -> Int32) (aXi : Nat -> Int32) (tr_foot' : Nat -> Int32) (tr_fork' : Nat -> Int32), (-1 <= Int32.toInt r /\ Int32.toInt r <= 79) -> (0 <= Int32.toInt aBS /\ Int32.toInt aBS <= 80) -> (0 <= Int32.toInt aCR /\ Int32.toInt aCR <= 16) -> (0 <= Int32.toInt aCc /\ Int32.toInt aCc <= 8) -> post r aBS aCR aCc tr_x' aNV aJW aXi tr_foot' tr_fork') : ∀ (n : Nat) (x2 qJ bJ aI : Int32) (uU gF pL qF mX oE : Nat -> Int32), (1 <= Int32.toInt x2 /\ Int32.toInt x2 <= 79) -> (0 <= Int32.toInt qJ /\ Int32.toInt qJ <= 79) -> (0 <= Int32.toInt bJ /\ Int32.toInt bJ <= 16) -> (0 <= Int32.toInt aI /\ Int32.toInt aI <= 8) -> (79 - Int32.toInt x2 < (n : Int)) -> wb_X3_readLines_18 post rX qM dN bD n x2 qJ bJ aI uU gF pL qF mX oE := by
  intro n
  induction n with
  | zero =>
    intro x2 qJ bJ aI uU gF pL qF mX oE aBN aA0 aAU aAG hm
    exfalso; omega
  | succ n ih =>
    intro x2 qJ bJ aI uU gF pL qF mX oE aBN aA0 aAU aAG hm
    exact ts_X3_readLines_18 rX qM dN bD aA2 aAI xL wX hpost ih x2 qJ bJ aI uU gF pL qF mX oE aBN aA0 aAU aAG (by omega)
set_option maxHeartbeats 8000000 in
set_option maxRecDepth 200000 in
theorem t_X3_readLines {post : Int32 -> Int32 -> Int32 -> Int32 -> (Nat -> Int32) -> (Nat -> Int32) -> (Nat -> Int32) -> (Nat -> Int32) -> (Nat -> Int32) -> (Nat -> Int32) -> Prop} {qJ rX : Int32} {qM : Nat -> Int32} {dN bD bJ aI : Int32} {uU gF pL qF mX oE : Nat -> Int32} (aA0 : 0 <= Int32.toInt qJ /\ Int32.toInt qJ <= 0) (aA2 : 0 <= Int32.toInt rX /\ Int32.toInt rX <= 79) (aAI : ∀ k : Nat, 0 <= Int32.toInt (qM k) /\ Int32.toInt (qM k) <= 65535) (xL : 0 <= Int32.toInt dN /\ Int32.toInt dN <= 16) (wX : 0 <= Int32.toInt bD /\ Int32.toInt bD <= 8) (aAU : 0 <= Int32.toInt bJ /\ Int32.toInt bJ <= 16) (aAG : 0 <= Int32.toInt aI /\ Int32.toInt aI <= 8) (hpost : ∀ (r : Int32) (aBS : Int32) (aCR : Int32) (aCc : Int32) (tr_x' : Nat -> Int32) (aNV : Nat -> Int32) (aJW : Nat -> Int32) (aXi : Nat -> Int32) (tr_foot' : Nat -> Int32) (tr_fork' : Nat -> Int32), (-1 <= Int32.toInt r /\ Int32.toInt r <= 79) -> (0 <= Int32.toInt aBS /\ Int32.toInt aBS <= 80) -> (0 <= Int32.toInt aCR /\ Int32.toInt aCR <= 16) -> (0 <= Int32.toInt aCc /\ Int32.toInt aCc <= 8) -> post r aBS aCR aCc tr_x' aNV aJW aXi tr_foot' tr_fork') : wp_X3_readLines post qJ rX qM dN bD bJ aI uU gF pL qF mX oE := by
  have l0 := aEc
  exact ⟨80, tb_X3_readLines_18 rX qM dN bD aA2 aAI xL wX hpost _ 1 qJ dN bD uU gF pL qF mX oE (by omega) (by omega) xL wX (by omega)⟩
set_option maxHeartbeats 8000000 in
set_option maxRecDepth 200000 in
theorem ts_X9_orchard_94 {post : Int32 -> Int32 -> Int32 -> Int32 -> Int32 -> Int32 -> Int32 -> Int32 -> (Nat -> Int32) -> (Nat -> Int32) -> (Nat -> Int32) -> (Nat -> Int32) -> (Nat -> Int32) -> (Nat -> Int32) -> Int32 -> (Nat -> Int32) -> Prop} (qM : Nat -> Int32) (aAI : ∀ k : Nat, 0 <= Int32.toInt (qM k) /\ Int32.toInt (qM k) <= 65535) (hpost : ∀ (r : Int32) (aCZ : Int32) (aBS : Int32) (aGd : Int32) (aR4 : Int32) (aKJ : Int32) (aCR : Int32) (aCc : Int32) (tr_x' : Nat -> Int32) (aNV : Nat -> Int32) (aJW : Nat -> Int32) (aXi : Nat -> Int32) (tr_foot' : Nat -> Int32) (tr_fork' : Nat -> Int32) (aBa : Int32) (aHq : Nat -> Int32), (-100 <= Int32.toInt r /\ Int32.toInt r <= 79) -> (0 <= Int32.toInt aCZ /\ Int32.toInt aCZ <= 0) -> (0 <= Int32.toInt aBS /\ Int32.toInt aBS <= 80) -> (0 <= Int32.toInt aGd /\ Int32.toInt aGd <= 79) -> (0 <= Int32.toInt aR4 /\ Int32.toInt aR4 <= 16) -> (0 <= Int32.toInt aKJ /\ Int32.toInt aKJ <= 8) -> (0 <= Int32.toInt aCR /\ Int32.toInt aCR <= 16) -> (0 <= Int32.toInt aCc /\ Int32.toInt aCc <= 8) -> (0 <= Int32.toInt aBa /\ Int32.toInt aBa <= 12) -> (∀ k : Nat, 0 <= Int32.toInt (aHq k) /\ Int32.toInt (aHq k) <= 1) -> post r aCZ aBS aGd aR4 aKJ aCR aCc tr_x' aNV aJW aXi tr_foot' tr_fork' aBa aHq) (x3 qL qJ rX dN bD bJ aI : Int32) (uU gF pL qF mX oE : Nat -> Int32) (pR : Int32) (uF : Nat -> Int32) (aCH : -100 <= Int32.toInt x3 /\ Int32.toInt x3 <= 79) (aBH : 0 <= Int32.toInt qL /\ Int32.toInt qL <= 80) (aA0 : 0 <= Int32.toInt qJ /\ Int32.toInt qJ <= 80) (aA2 : 0 <= Int32.toInt rX /\ Int32.toInt rX <= 79) (xL : 0 <= Int32.toInt dN /\ Int32.toInt dN <= 16) (wX : 0 <= Int32.toInt bD /\ Int32.toInt bD <= 8) (aAU : 0 <= Int32.toInt bJ /\ Int32.toInt bJ <= 16) (aAG : 0 <= Int32.toInt aI /\ Int32.toInt aI <= 8) (aAr : 0 <= Int32.toInt pR /\ Int32.toInt pR <= 12) (aBU : ∀ k : Nat, 0 <= Int32.toInt (uF k) /\ Int32.toInt (uF k) <= 1) : aDC post qM x3 qL qJ rX dN bD bJ aI uU gF pL qF mX oE pR uF := by
  have l0 := aE0
  exact hpost _ _ _ _ _ _ _ _ _ _ _ _ _ _ _ _ aCH (by omega) aA0 aA2 xL wX aAU aAG aAr aBU
set_option maxHeartbeats 8000000 in
set_option maxRecDepth 200000 in
theorem ts_X9_orchard_71 {post : Int32 -> Int32 -> Int32 -> Int32 -> Int32 -> Int32 -> Int32 -> Int32 -> (Nat -> Int32) -> (Nat -> Int32) -> (Nat -> Int32) -> (Nat -> Int32) -> (Nat -> Int32) -> (Nat -> Int32) -> Int32 -> (Nat -> Int32) -> Prop} (qM : Nat -> Int32) (aAI : ∀ k : Nat, 0 <= Int32.toInt (qM k) /\ Int32.toInt (qM k) <= 65535) (hpost : ∀ (r : Int32) (aCZ : Int32) (aBS : Int32) (aGd : Int32) (aR4 : Int32) (aKJ : Int32) (aCR : Int32) (aCc : Int32) (tr_x' : Nat -> Int32) (aNV : Nat -> Int32) (aJW : Nat -> Int32) (aXi : Nat -> Int32) (tr_foot' : Nat -> Int32) (tr_fork' : Nat -> Int32) (aBa : Int32) (aHq : Nat -> Int32), (-100 <= Int32.toInt r /\ Int32.toInt r <= 79) -> (0 <= Int32.toInt aCZ /\ Int32.toInt aCZ <= 0) -> (0 <= Int32.toInt aBS /\ Int32.toInt aBS <= 80) -> (0 <= Int32.toInt aGd /\ Int32.toInt aGd <= 79) -> (0 <= Int32.toInt aR4 /\ Int32.toInt aR4 <= 16) -> (0 <= Int32.toInt aKJ /\ Int32.toInt aKJ <= 8) -> (0 <= Int32.toInt aCR /\ Int32.toInt aCR <= 16) -> (0 <= Int32.toInt aCc /\ Int32.toInt aCc <= 8) -> (0 <= Int32.toInt aBa /\ Int32.toInt aBa <= 12) -> (∀ k : Nat, 0 <= Int32.toInt (aHq k) /\ Int32.toInt (aHq k) <= 1) -> post r aCZ aBS aGd aR4 aKJ aCR aCc tr_x' aNV aJW aXi tr_foot' tr_fork' aBa aHq) (x1 x2 k0 qL qJ rX dN bD bJ aI : Int32) (uU gF pL qF mX oE : Nat -> Int32) (pR : Int32) (uF : Nat -> Int32) (aBK : -1 <= Int32.toInt x1 /\ Int32.toInt x1 <= 79) (aBN : 0 <= Int32.toInt x2 /\ Int32.toInt x2 <= 1) (h_k0 : -100 <= Int32.toInt k0 /\ Int32.toInt k0 <= 79) (aBH : 0 <= Int32.toInt qL /\ Int32.toInt qL <= 80) (aA0 : 0 <= Int32.toInt qJ /\ Int32.toInt qJ <= 80) (aA2 : 0 <= Int32.toInt rX /\ Int32.toInt rX <= 79) (xL : 0 <= Int32.toInt dN /\ Int32.toInt dN <= 16) (wX : 0 <= Int32.toInt bD /\ Int32.toInt bD <= 8) (aAU : 0 <= Int32.toInt bJ /\ Int32.toInt bJ <= 16) (aAG : 0 <= Int32.toInt aI /\ Int32.toInt aI <= 8) (aAr : 0 <= Int32.toInt pR /\ Int32.toInt pR <= 12) (aBU : ∀ k : Nat, 0 <= Int32.toInt (uF k) /\ Int32.toInt (uF k) <= 1) : aLL post qM x1 x2 k0 qL qJ rX dN bD bJ aI uU gF pL qF mX oE pR uF := by
  have l0 := aE0
  refine And.intro (fun c1 => ?_) (fun c1 => ?_)
  · skip
    have c1 := (zJ _ _).mp c1
    exact ts_X9_orchard_94 qM aAI hpost k0 qL qJ rX dN bD bJ aI uU gF pL qF mX oE pR uF h_k0 aBH aA0 aA2 xL wX aAU aAG aAr aBU
  · skip
    have c1 := mt (zJ _ _).mpr c1
    refine And.intro (fun c2 => ?_) (fun c2 => ?_)
    · skip
      have c2 := (aAO _ _).mp c2
      exact ts_X9_orchard_94 qM aAI hpost k0 qL qJ rX dN bD bJ aI uU gF pL qF mX oE pR uF h_k0 aBH aA0 aA2 xL wX aAU aAG aAr aBU
    · skip
      have c2 := mt (aAO _ _).mpr c2
      refine t_X4_forgetAll aAr aBU (fun pa_undoable_3 pa_isKept_4 h_pa_undoable_3 h_pa_isKept_4 => ?_)
      exact ts_X9_orchard_94 qM aAI hpost k0 qL qJ rX bJ aI bJ aI uU gF pL qF mX oE pa_undoable_3 pa_isKept_4 h_k0 aBH aA0 aA2 aAU aAG aAU aAG (by omega) h_pa_isKept_4
set_option maxHeartbeats 8000000 in
set_option maxRecDepth 200000 in
theorem ts_X9_orchard_55 {post : Int32 -> Int32 -> Int32 -> Int32 -> Int32 -> Int32 -> Int32 -> Int32 -> (Nat -> Int32) -> (Nat -> Int32) -> (Nat -> Int32) -> (Nat -> Int32) -> (Nat -> Int32) -> (Nat -> Int32) -> Int32 -> (Nat -> Int32) -> Prop} (qM : Nat -> Int32) (aAI : ∀ k : Nat, 0 <= Int32.toInt (qM k) /\ Int32.toInt (qM k) <= 65535) (hpost : ∀ (r : Int32) (aCZ : Int32) (aBS : Int32) (aGd : Int32) (aR4 : Int32) (aKJ : Int32) (aCR : Int32) (aCc : Int32) (tr_x' : Nat -> Int32) (aNV : Nat -> Int32) (aJW : Nat -> Int32) (aXi : Nat -> Int32) (tr_foot' : Nat -> Int32) (tr_fork' : Nat -> Int32) (aBa : Int32) (aHq : Nat -> Int32), (-100 <= Int32.toInt r /\ Int32.toInt r <= 79) -> (0 <= Int32.toInt aCZ /\ Int32.toInt aCZ <= 0) -> (0 <= Int32.toInt aBS /\ Int32.toInt aBS <= 80) -> (0 <= Int32.toInt aGd /\ Int32.toInt aGd <= 79) -> (0 <= Int32.toInt aR4 /\ Int32.toInt aR4 <= 16) -> (0 <= Int32.toInt aKJ /\ Int32.toInt aKJ <= 8) -> (0 <= Int32.toInt aCR /\ Int32.toInt aCR <= 16) -> (0 <= Int32.toInt aCc /\ Int32.toInt aCc <= 8) -> (0 <= Int32.toInt aBa /\ Int32.toInt aBa <= 12) -> (∀ k : Nat, 0 <= Int32.toInt (aHq k) /\ Int32.toInt (aHq k) <= 1) -> post r aCZ aBS aGd aR4 aKJ aCR aCc tr_x' aNV aJW aXi tr_foot' tr_fork' aBa aHq) (x1 k0 qL qJ rX dN bD bJ aI : Int32) (uU gF pL qF mX oE : Nat -> Int32) (pR : Int32) (uF : Nat -> Int32) (aBK : -1 <= Int32.toInt x1 /\ Int32.toInt x1 <= 79) (h_k0 : 0 <= Int32.toInt k0 /\ Int32.toInt k0 <= 1) (aBH : 0 <= Int32.toInt qL /\ Int32.toInt qL <= 80) (aA0 : 0 <= Int32.toInt qJ /\ Int32.toInt qJ <= 80) (aA2 : 0 <= Int32.toInt rX /\ Int32.toInt rX <= 79) (xL : 0 <= Int32.toInt dN /\ Int32.toInt dN <= 16) (wX : 0 <= Int32.toInt bD /\ Int32.toInt bD <= 8) (aAU : 0 <= Int32.toInt bJ /\ Int32.toInt bJ <= 16) (aAG : 0 <= Int32.toInt aI /\ Int32.toInt aI <= 8) (aAr : 0 <= Int32.toInt pR /\ Int32.toInt pR <= 12) (aBU : ∀ k : Nat, 0 <= Int32.toInt (uF k) /\ Int32.toInt (uF k) <= 1) : aXn post qM x1 k0 qL qJ rX dN bD bJ aI uU gF pL qF mX oE pR uF := by
  have l0 := aI2
  have l1 := aE0
  refine And.intro (fun c5 => ?_) (fun c5 => ?_)
  · skip
    have c5 := (zJ _ _).mp c5
    have f6 : Int32.toInt ((-1) - qJ) = Int32.toInt ((-1) : Int32) - Int32.toInt qJ := aCA _ _ (by omega)
    obtain ⟨w7, ew7⟩ : ∃ w9 : Int32, w9 = (-1) - qJ := ⟨_, rfl⟩
    rw [<- ew7] at f6
    have key9 := ts_X9_orchard_71 qM aAI hpost x1 k0 w7 qL qJ rX dN bD bJ aI uU gF pL qF mX oE pR uF aBK h_k0 (by omega) aBH aA0 aA2 xL wX aAU aAG aAr aBU
    subst ew7
    exact key9
  · skip
    have c5 := mt (zJ _ _).mpr c5
    exact ts_X9_orchard_71 qM aAI hpost x1 k0 x1 qL qJ rX dN bD bJ aI uU gF pL qF mX oE pR uF aBK h_k0 (by omega) aBH aA0 aA2 xL wX aAU aAG aAr aBU
set_option maxHeartbeats 8000000 in
set_option maxRecDepth 200000 in
theorem ts_X9_orchard_54 {post : Int32 -> Int32 -> Int32 -> Int32 -> Int32 -> Int32 -> Int32 -> Int32 -> (Nat -> Int32) -> (Nat -> Int32) -> (Nat -> Int32) -> (Nat -> Int32) -> (Nat -> Int32) -> (Nat -> Int32) -> Int32 -> (Nat -> Int32) -> Prop} (qM : Nat -> Int32) (aAI : ∀ k : Nat, 0 <= Int32.toInt (qM k) /\ Int32.toInt (qM k) <= 65535) (hpost : ∀ (r : Int32) (aCZ : Int32) (aBS : Int32) (aGd : Int32) (aR4 : Int32) (aKJ : Int32) (aCR : Int32) (aCc : Int32) (tr_x' : Nat -> Int32) (aNV : Nat -> Int32) (aJW : Nat -> Int32) (aXi : Nat -> Int32) (tr_foot' : Nat -> Int32) (tr_fork' : Nat -> Int32) (aBa : Int32) (aHq : Nat -> Int32), (-100 <= Int32.toInt r /\ Int32.toInt r <= 79) -> (0 <= Int32.toInt aCZ /\ Int32.toInt aCZ <= 0) -> (0 <= Int32.toInt aBS /\ Int32.toInt aBS <= 80) -> (0 <= Int32.toInt aGd /\ Int32.toInt aGd <= 79) -> (0 <= Int32.toInt aR4 /\ Int32.toInt aR4 <= 16) -> (0 <= Int32.toInt aKJ /\ Int32.toInt aKJ <= 8) -> (0 <= Int32.toInt aCR /\ Int32.toInt aCR <= 16) -> (0 <= Int32.toInt aCc /\ Int32.toInt aCc <= 8) -> (0 <= Int32.toInt aBa /\ Int32.toInt aBa <= 12) -> (∀ k : Nat, 0 <= Int32.toInt (aHq k) /\ Int32.toInt (aHq k) <= 1) -> post r aCZ aBS aGd aR4 aKJ aCR aCc tr_x' aNV aJW aXi tr_foot' tr_fork' aBa aHq) (x1 qL qJ rX dN bD bJ aI : Int32) (uU gF pL qF mX oE : Nat -> Int32) (pR : Int32) (uF : Nat -> Int32) (aBK : -1 <= Int32.toInt x1 /\ Int32.toInt x1 <= 79) (aBH : 0 <= Int32.toInt qL /\ Int32.toInt qL <= 80) (aA0 : 0 <= Int32.toInt qJ /\ Int32.toInt qJ <= 80) (aA2 : 0 <= Int32.toInt rX /\ Int32.toInt rX <= 79) (xL : 0 <= Int32.toInt dN /\ Int32.toInt dN <= 16) (wX : 0 <= Int32.toInt bD /\ Int32.toInt bD <= 8) (aAU : 0 <= Int32.toInt bJ /\ Int32.toInt bJ <= 16) (aAG : 0 <= Int32.toInt aI /\ Int32.toInt aI <= 8) (aAr : 0 <= Int32.toInt pR /\ Int32.toInt pR <= 12) (aBU : ∀ k : Nat, 0 <= Int32.toInt (uF k) /\ Int32.toInt (uF k) <= 1) : bCb post qM x1 qL qJ rX dN bD bJ aI uU gF pL qF mX oE pR uF := by
  have l0 := aE0
  exact ts_X9_orchard_55 qM aAI hpost x1 0 qL qJ rX dN bD bJ aI uU gF pL qF mX oE pR uF aBK (by omega) aBH aA0 aA2 xL wX aAU aAG aAr aBU
set_option maxHeartbeats 8000000 in
set_option maxRecDepth 200000 in
theorem ts_X9_orchard_34 {post : Int32 -> Int32 -> Int32 -> Int32 -> Int32 -> Int32 -> Int32 -> Int32 -> (Nat -> Int32) -> (Nat -> Int32) -> (Nat -> Int32) -> (Nat -> Int32) -> (Nat -> Int32) -> (Nat -> Int32) -> Int32 -> (Nat -> Int32) -> Prop} (qM : Nat -> Int32) (aAI : ∀ k : Nat, 0 <= Int32.toInt (qM k) /\ Int32.toInt (qM k) <= 65535) (hpost : ∀ (r : Int32) (aCZ : Int32) (aBS : Int32) (aGd : Int32) (aR4 : Int32) (aKJ : Int32) (aCR : Int32) (aCc : Int32) (tr_x' : Nat -> Int32) (aNV : Nat -> Int32) (aJW : Nat -> Int32) (aXi : Nat -> Int32) (tr_foot' : Nat -> Int32) (tr_fork' : Nat -> Int32) (aBa : Int32) (aHq : Nat -> Int32), (-100 <= Int32.toInt r /\ Int32.toInt r <= 79) -> (0 <= Int32.toInt aCZ /\ Int32.toInt aCZ <= 0) -> (0 <= Int32.toInt aBS /\ Int32.toInt aBS <= 80) -> (0 <= Int32.toInt aGd /\ Int32.toInt aGd <= 79) -> (0 <= Int32.toInt aR4 /\ Int32.toInt aR4 <= 16) -> (0 <= Int32.toInt aKJ /\ Int32.toInt aKJ <= 8) -> (0 <= Int32.toInt aCR /\ Int32.toInt aCR <= 16) -> (0 <= Int32.toInt aCc /\ Int32.toInt aCc <= 8) -> (0 <= Int32.toInt aBa /\ Int32.toInt aBa <= 12) -> (∀ k : Nat, 0 <= Int32.toInt (aHq k) /\ Int32.toInt (aHq k) <= 1) -> post r aCZ aBS aGd aR4 aKJ aCR aCc tr_x' aNV aJW aXi tr_foot' tr_fork' aBa aHq) (k0 qL qJ rX dN bD bJ aI : Int32) (uU gF pL qF mX oE : Nat -> Int32) (pR : Int32) (uF : Nat -> Int32) (h_k0 : -1 <= Int32.toInt k0 /\ Int32.toInt k0 <= 79) (aBH : 0 <= Int32.toInt qL /\ Int32.toInt qL <= 80) (aA0 : 0 <= Int32.toInt qJ /\ Int32.toInt qJ <= 80) (aA2 : 0 <= Int32.toInt rX /\ Int32.toInt rX <= 79) (xL : 0 <= Int32.toInt dN /\ Int32.toInt dN <= 16) (wX : 0 <= Int32.toInt bD /\ Int32.toInt bD <= 8) (aAU : 0 <= Int32.toInt bJ /\ Int32.toInt bJ <= 16) (aAG : 0 <= Int32.toInt aI /\ Int32.toInt aI <= 8) (aAr : 0 <= Int32.toInt pR /\ Int32.toInt pR <= 12) (aBU : ∀ k : Nat, 0 <= Int32.toInt (uF k) /\ Int32.toInt (uF k) <= 1) : ws_X9_orchard_34 post qM k0 qL qJ rX dN bD bJ aI uU gF pL qF mX oE pR uF := by
  have l0 := aI2
  have l1 := aEc
  refine And.intro (fun c8 => ?_) (fun c8 => ?_)
  · skip
    have c8 := (zJ _ _).mp c8
    exact ts_X9_orchard_54 qM aAI hpost k0 qL qJ rX dN bD bJ aI uU gF pL qF mX oE pR uF h_k0 aBH aA0 aA2 xL wX aAU aAG aAr aBU
  · skip
    have c8 := mt (zJ _ _).mpr c8
    refine And.intro (fun c9 => ?_) (fun c9 => ?_)
    · skip
      have c9 := mt (zJ _ _).mpr c9
      refine And.intro (fun _ => ?_) (fun h9 => absurd h9 (by decide))
      exact ts_X9_orchard_54 qM aAI hpost k0 qL qJ rX dN bD bJ aI uU gF pL qF mX oE pR uF h_k0 aBH aA0 aA2 xL wX aAU aAG aAr aBU
    · skip
      have c9 := (zJ _ _).mp c9
      refine And.intro (fun h9 => absurd h9 (by decide)) (fun _ => ?_)
      exact ts_X9_orchard_55 qM aAI hpost k0 1 qL qJ rX dN bD bJ aI uU gF pL qF mX oE pR uF h_k0 (by omega) aBH aA0 aA2 xL wX aAU aAG aAr aBU
set_option maxHeartbeats 8000000 in
set_option maxRecDepth 200000 in
theorem t_X9_orchard {post : Int32 -> Int32 -> Int32 -> Int32 -> Int32 -> Int32 -> Int32 -> Int32 -> (Nat -> Int32) -> (Nat -> Int32) -> (Nat -> Int32) -> (Nat -> Int32) -> (Nat -> Int32) -> (Nat -> Int32) -> Int32 -> (Nat -> Int32) -> Prop} {qL qJ rX : Int32} {qM : Nat -> Int32} {dN bD bJ aI : Int32} {uU gF pL qF mX oE : Nat -> Int32} {pR : Int32} {uF : Nat -> Int32} (aBH : 0 <= Int32.toInt qL /\ Int32.toInt qL <= 80) (aA0 : 0 <= Int32.toInt qJ /\ Int32.toInt qJ <= 80) (aA2 : 0 <= Int32.toInt rX /\ Int32.toInt rX <= 80) (aAI : ∀ k : Nat, 0 <= Int32.toInt (qM k) /\ Int32.toInt (qM k) <= 65535) (xL : 0 <= Int32.toInt dN /\ Int32.toInt dN <= 16) (wX : 0 <= Int32.toInt bD /\ Int32.toInt bD <= 8) (aAU : 0 <= Int32.toInt bJ /\ Int32.toInt bJ <= 16) (aAG : 0 <= Int32.toInt aI /\ Int32.toInt aI <= 8) (aAr : 0 <= Int32.toInt pR /\ Int32.toInt pR <= 12) (aBU : ∀ k : Nat, 0 <= Int32.toInt (uF k) /\ Int32.toInt (uF k) <= 1) (hpost : ∀ (r : Int32) (aCZ : Int32) (aBS : Int32) (aGd : Int32) (aR4 : Int32) (aKJ : Int32) (aCR : Int32) (aCc : Int32) (tr_x' : Nat -> Int32) (aNV : Nat -> Int32) (aJW : Nat -> Int32) (aXi : Nat -> Int32) (tr_foot' : Nat -> Int32) (tr_fork' : Nat -> Int32) (aBa : Int32) (aHq : Nat -> Int32), (-100 <= Int32.toInt r /\ Int32.toInt r <= 79) -> (0 <= Int32.toInt aCZ /\ Int32.toInt aCZ <= 0) -> (0 <= Int32.toInt aBS /\ Int32.toInt aBS <= 80) -> (0 <= Int32.toInt aGd /\ Int32.toInt aGd <= 79) -> (0 <= Int32.toInt aR4 /\ Int32.toInt aR4 <= 16) -> (0 <= Int32.toInt aKJ /\ Int32.toInt aKJ <= 8) -> (0 <= Int32.toInt aCR /\ Int32.toInt aCR <= 16) -> (0 <= Int32.toInt aCc /\ Int32.toInt aCc <= 8) -> (0 <= Int32.toInt aBa /\ Int32.toInt aBa <= 12) -> (∀ k : Nat, 0 <= Int32.toInt (aHq k) /\ Int32.toInt (aHq k) <= 1) -> post r aCZ aBS aGd aR4 aKJ aCR aCc tr_x' aNV aJW aXi tr_foot' tr_fork' aBa aHq) : wp_X9_orchard post qL qJ rX qM dN bD bJ aI uU gF pL qF mX oE pR uF := by
  have l0 := aE0
  have l1 := li_76
  intro v10 ev10
  have f11 := ti_min qL (76 : Int32)
  have hv10 := congrArg Int32.toInt ev10
  refine And.intro (fun c12 => ?_) (fun c12 => ?_)
  · skip
    have c12 := mt (zJ _ _).mpr c12
    refine t_X3_readLines (by omega) (by omega) aAI xL wX aAU aAG (fun r22 tx_place_13 tr_comingFruits_14 tr_comingStandings_15 tr_x_16 tr_height_17 tr_worth_18 tr_ripe_19 tr_foot_20 tr_fork_21 h_r22 h_tx_place_13 h_tr_comingFruits_14 h_tr_comingStandings_15 => ?_)
    exact ts_X9_orchard_34 qM aAI hpost r22 qL tx_place_13 v10 dN bD tr_comingFruits_14 tr_comingStandings_15 tr_x_16 tr_height_17 tr_worth_18 tr_ripe_19 tr_foot_20 tr_fork_21 pR uF h_r22 aBH h_tx_place_13 (by omega) xL wX h_tr_comingFruits_14 h_tr_comingStandings_15 aAr aBU
  · skip
    have c12 := (zJ _ _).mp c12
    exact ts_X9_orchard_34 qM aAI hpost 0 qL 0 v10 dN bD bJ aI uU gF pL qF mX oE pR uF (by omega) aBH (by omega) (by omega) xL wX aAU aAG aAr aBU
set_option maxHeartbeats 8000000 in
set_option maxRecDepth 200000 in
theorem ts_X7_readPlainThing_38 {post : Int32 -> Int32 -> Int32 -> Int32 -> (Nat -> Int32) -> Prop} (rX : Int32) (qM : Nat -> Int32) (aA2 : 1 <= Int32.toInt rX /\ Int32.toInt rX <= 40) (aAI : ∀ k : Nat, 0 <= Int32.toInt (qM k) /\ Int32.toInt (qM k) <= 65535) (hpost : ∀ (r : Int32) (aBS : Int32) (aDA : Int32) (aCy : Int32) (aMl : Nat -> Int32), (0 <= Int32.toInt r /\ Int32.toInt r <= 1) -> (0 <= Int32.toInt aBS /\ Int32.toInt aBS <= 80) -> (0 <= Int32.toInt aDA /\ Int32.toInt aDA <= 40) -> (0 <= Int32.toInt aCy /\ Int32.toInt aCy <= 1) -> post r aBS aDA aCy aMl) (x2 qJ qI nJ : Int32) (uW : Nat -> Int32) (aA0 : 0 <= Int32.toInt qJ /\ Int32.toInt qJ <= 80) (aA8 : 0 <= Int32.toInt qI /\ Int32.toInt qI <= 40) (aAs : 1 <= Int32.toInt nJ /\ Int32.toInt nJ <= 1) : ws_X7_readPlainThing_38 post rX qM x2 qJ qI nJ uW := by
  have l0 := aE0
  have l1 := aEc
  have l2 := li_40
  refine And.intro (fun c1 => ?_) (fun c1 => ?_)
  · skip
    have c1 := (aAO _ _).mp c1
    exact hpost _ _ _ _ _ (by omega) aA0 aA8 (by omega)
  · skip
    have c1 := mt (aAO _ _).mpr c1
    refine And.intro (aBZ (by omega)) ?_
    intro v2 ev2
    have f3 : Int32.toInt (qI + 1) = Int32.toInt qI + Int32.toInt (1 : Int32) := aAD _ _ (by omega)
    rw [<- ev2] at f3
    exact hpost _ _ _ _ _ (by omega) aA0 (by omega) (by omega)
set_option maxHeartbeats 8000000 in
set_option maxRecDepth 200000 in
theorem t_X7_readPlainThing {post : Int32 -> Int32 -> Int32 -> Int32 -> (Nat -> Int32) -> Prop} {qJ rX : Int32} {qM : Nat -> Int32} {qI nJ : Int32} {uW : Nat -> Int32} (aA0 : 0 <= Int32.toInt qJ /\ Int32.toInt qJ <= 40) (aA2 : 1 <= Int32.toInt rX /\ Int32.toInt rX <= 40) (aAI : ∀ k : Nat, 0 <= Int32.toInt (qM k) /\ Int32.toInt (qM k) <= 65535) (aA8 : 0 <= Int32.toInt qI /\ Int32.toInt qI <= 40) (aAs : 1 <= Int32.toInt nJ /\ Int32.toInt nJ <= 1) (hpost : ∀ (r : Int32) (aBS : Int32) (aDA : Int32) (aCy : Int32) (aMl : Nat -> Int32), (0 <= Int32.toInt r /\ Int32.toInt r <= 1) -> (0 <= Int32.toInt aBS /\ Int32.toInt aBS <= 80) -> (0 <= Int32.toInt aDA /\ Int32.toInt aDA <= 40) -> (0 <= Int32.toInt aCy /\ Int32.toInt aCy <= 1) -> post r aBS aDA aCy aMl) : wp_X7_readPlainThing post qJ rX qM qI nJ uW := by
  have l0 := aI2
  have l1 := aE0
  have l2 := aEc
  have l3 := li_1000
  have l4 := li_3
  refine aXN (by omega) (by omega) (by omega) aAI (fun r5 aDB h_tx_place_4 => ?_)
  have f7 := aAT r5
  refine And.intro (fun c6 => ?_) (fun c6 => ?_)
  · skip
    have c6 := mt (zJ _ _).mpr c6
    exact ts_X7_readPlainThing_38 rX qM aA2 aAI hpost r5 aDB qI nJ uW h_tx_place_4 aA8 aAs
  · skip
    have c6 := (zJ _ _).mp c6
    refine And.intro (fun c8 => ?_) (fun c8 => ?_)
    · skip
      have c8 := (aAO _ _).mp c8
      intro v9 ev9
      have hv9 := ti_i2c (-1)
      rw [<- ev9] at hv9
      intro v10 ev10
      have f11 := ti_lix v9
      have hv10 := congrArg Int32.toInt ev10
      refine And.intro (fun c12 => ?_) (fun c12 => ?_)
      · skip
        have c12 := (aAO _ _).mp c12
        intro v13 ev13
        have f14 : Int32.toInt (1000 + v10) = Int32.toInt (1000 : Int32) + Int32.toInt v10 := aAD _ _ (by omega)
        rw [<- ev13] at f14
        refine And.intro (fun c15 => ?_) (fun c15 => ?_)
        · skip
          have c15 := (aAO _ _).mp c15
          exact ts_X7_readPlainThing_38 rX qM aA2 aAI hpost v13 aDB qI nJ uW h_tx_place_4 aA8 aAs
        · skip
          have c15 := mt (aAO _ _).mpr c15
          intro v16 ev16
          have f17 : Int32.toInt (aDB + 1) = Int32.toInt aDB + Int32.toInt (1 : Int32) := aAD _ _ (by omega)
          rw [<- ev16] at f17
          exact ts_X7_readPlainThing_38 rX qM aA2 aAI hpost v13 v16 qI nJ uW (by omega) aA8 aAs
      · skip
        have c12 := mt (aAO _ _).mpr c12
        exact hpost _ _ _ _ _ (by omega) h_tx_place_4 aA8 (by omega)
    · skip
      have c8 := mt (aAO _ _).mpr c8
      refine And.intro (aBZ (by omega)) ?_
      intro v18 ev18
      have f19 := aAI aDB.toNatClampNeg
      have hv18 := congrArg Int32.toInt ev18
      intro v20 ev20
      have hv20 := ti_i2c v18
      rw [<- ev20] at hv20
      intro v21 ev21
      have f22 := ti_lix v20
      have hv21 := congrArg Int32.toInt ev21
      refine And.intro (fun c23 => ?_) (fun c23 => ?_)
      · skip
        have c23 := (aAO _ _).mp c23
        intro v24 ev24
        have f25 : Int32.toInt (1000 + v21) = Int32.toInt (1000 : Int32) + Int32.toInt v21 := aAD _ _ (by omega)
        rw [<- ev24] at f25
        refine And.intro (fun c26 => ?_) (fun c26 => ?_)
        · skip
          have c26 := (aAO _ _).mp c26
          exact ts_X7_readPlainThing_38 rX qM aA2 aAI hpost v24 aDB qI nJ uW h_tx_place_4 aA8 aAs
        · skip
          have c26 := mt (aAO _ _).mpr c26
          intro v27 ev27
          have f28 : Int32.toInt (aDB + 1) = Int32.toInt aDB + Int32.toInt (1 : Int32) := aAD _ _ (by omega)
          rw [<- ev27] at f28
          exact ts_X7_readPlainThing_38 rX qM aA2 aAI hpost v24 v27 qI nJ uW (by omega) aA8 aAs
      · skip
        have c23 := mt (aAO _ _).mpr c23
        exact hpost _ _ _ _ _ (by omega) h_tx_place_4 aA8 (by omega)
set_option maxHeartbeats 8000000 in
set_option maxRecDepth 200000 in
theorem ts_X7_readThing_78 {post : Int32 -> Int32 -> Int32 -> Int32 -> Int32 -> Int32 -> Int32 -> (Nat -> Int32) -> (Nat -> Int32) -> Prop} (rX : Int32) (qM : Nat -> Int32) (aA2 : 1 <= Int32.toInt rX /\ Int32.toInt rX <= 40) (aAI : ∀ k : Nat, 0 <= Int32.toInt (qM k) /\ Int32.toInt (qM k) <= 65535) (hpost : ∀ (r : Int32) (aBS : Int32) (aDA : Int32) (aFS : Int32) (aI6 : Int32) (aEO : Int32) (aCy : Int32) (aFD : Nat -> Int32) (aMl : Nat -> Int32), (0 <= Int32.toInt r /\ Int32.toInt r <= 1) -> (0 <= Int32.toInt aBS /\ Int32.toInt aBS <= 80) -> (0 <= Int32.toInt aDA /\ Int32.toInt aDA <= 40) -> (0 <= Int32.toInt aFS /\ Int32.toInt aFS <= 40) -> (0 <= Int32.toInt aI6 /\ Int32.toInt aI6 <= 4) -> (0 <= Int32.toInt aEO /\ Int32.toInt aEO <= 31) -> (0 <= Int32.toInt aCy /\ Int32.toInt aCy <= 1) -> (∀ k : Nat, 0 <= Int32.toInt (aFD k) /\ Int32.toInt (aFD k) <= 256) -> post r aBS aDA aFS aI6 aEO aCy aFD aMl) (qJ qI sY uG pY nJ : Int32) (tW uW : Nat -> Int32) (aA0 : 0 <= Int32.toInt qJ /\ Int32.toInt qJ <= 40) (aA8 : 0 <= Int32.toInt qI /\ Int32.toInt qI <= 40) (aBi : 1 <= Int32.toInt sY /\ Int32.toInt sY <= 40) (aB6 : 0 <= Int32.toInt uG /\ Int32.toInt uG <= 4) (aBB : 0 <= Int32.toInt pY /\ Int32.toInt pY <= 31) (aAs : 1 <= Int32.toInt nJ /\ Int32.toInt nJ <= 1) (aAj : ∀ k : Nat, 0 <= Int32.toInt (tW k) /\ Int32.toInt (tW k) <= 256) : ws_X7_readThing_78 post rX qM qJ qI sY uG pY nJ tW uW := by
  have l0 := aEc
  refine And.intro (fun c1 => ?_) (fun c1 => ?_)
  · skip
    have c1 := (aAO _ _).mp c1
    exact hpost _ _ _ _ _ _ _ _ _ (by omega) (by omega) aA8 (by omega) aB6 aBB (by omega) aAj
  · skip
    have c1 := mt (aAO _ _).mpr c1
    intro v2 ev2
    have f3 : Int32.toInt (qJ + 1) = Int32.toInt qJ + Int32.toInt (1 : Int32) := aAD _ _ (by omega)
    rw [<- ev2] at f3
    exact hpost _ _ _ _ _ _ _ _ _ (by omega) (by omega) aA8 (by omega) aB6 aBB (by omega) aAj
set_option maxHeartbeats 8000000 in
set_option maxRecDepth 200000 in
theorem t_X7_readThing {post : Int32 -> Int32 -> Int32 -> Int32 -> Int32 -> Int32 -> Int32 -> (Nat -> Int32) -> (Nat -> Int32) -> Prop} {qJ rX : Int32} {qM : Nat -> Int32} {qI sY uG pY nJ : Int32} {tW uW : Nat -> Int32} (aA0 : 0 <= Int32.toInt qJ /\ Int32.toInt qJ <= 40) (aA2 : 1 <= Int32.toInt rX /\ Int32.toInt rX <= 40) (aAI : ∀ k : Nat, 0 <= Int32.toInt (qM k) /\ Int32.toInt (qM k) <= 65535) (aA8 : 0 <= Int32.toInt qI /\ Int32.toInt qI <= 40) (aBi : 0 <= Int32.toInt sY /\ Int32.toInt sY <= 40) (aB6 : 0 <= Int32.toInt uG /\ Int32.toInt uG <= 4) (aBB : 0 <= Int32.toInt pY /\ Int32.toInt pY <= 31) (aAs : 1 <= Int32.toInt nJ /\ Int32.toInt nJ <= 1) (aAj : ∀ k : Nat, 0 <= Int32.toInt (tW k) /\ Int32.toInt (tW k) <= 256) (hpost : ∀ (r : Int32) (aBS : Int32) (aDA : Int32) (aFS : Int32) (aI6 : Int32) (aEO : Int32) (aCy : Int32) (aFD : Nat -> Int32) (aMl : Nat -> Int32), (0 <= Int32.toInt r /\ Int32.toInt r <= 1) -> (0 <= Int32.toInt aBS /\ Int32.toInt aBS <= 80) -> (0 <= Int32.toInt aDA /\ Int32.toInt aDA <= 40) -> (0 <= Int32.toInt aFS /\ Int32.toInt aFS <= 40) -> (0 <= Int32.toInt aI6 /\ Int32.toInt aI6 <= 4) -> (0 <= Int32.toInt aEO /\ Int32.toInt aEO <= 31) -> (0 <= Int32.toInt aCy /\ Int32.toInt aCy <= 1) -> (∀ k : Nat, 0 <= Int32.toInt (aFD k) /\ Int32.toInt (aFD k) <= 256) -> post r aBS aDA aFS aI6 aEO aCy aFD aMl) : wp_X7_readThing post qJ rX qM qI sY uG pY nJ tW uW := by
  have l0 := aE0
  have l1 := aEc
  have l2 := li_256
  have l3 := li_4
  have l4 := li_40
  have l5 := li_45
  refine And.intro (fun c4 => ?_) (fun c4 => ?_)
  · skip
    have c4 := (aAO _ _).mp c4
    refine And.intro (fun _ => ?_) (fun h9 => absurd h9 (by decide))
    refine And.intro (fun _ => ?_) (fun h9 => absurd h9 (by decide))
    refine t_X7_readPlainThing aA0 aA2 aAI aA8 aAs (fun r9 aR5 aW9 ru_wantsThing_7 ru_draft_8 h_r9 h_tx_place_5 h_ru_drafted_6 h_ru_wantsThing_7 => ?_)
    refine And.intro (aHE (by omega)) ?_
    exact hpost _ _ _ _ _ _ _ _ _ h_r9 h_tx_place_5 h_ru_drafted_6 aBi aB6 aBB h_ru_wantsThing_7 aAj
  · skip
    have c4 := mt (aAO _ _).mpr c4
    refine And.intro (aBZ (by omega)) ?_
    intro v10 ev10
    have f11 := aAI qJ.toNatClampNeg
    have hv10 := congrArg Int32.toInt ev10
    refine And.intro (fun c12 => ?_) (fun c12 => ?_)
    · skip
      have c12 := mt (zJ _ _).mpr c12
      refine And.intro (fun c13 => ?_) (fun c13 => ?_)
      · skip
        have c13 := mt (zJ _ _).mpr c13
        refine t_X7_readPlainThing aA0 aA2 aAI aA8 aAs (fun r18 tx_place_14 ru_drafted_15 ru_wantsThing_16 ru_draft_17 h_r18 h_tx_place_14 h_ru_drafted_15 h_ru_wantsThing_16 => ?_)
        refine And.intro (aHE (by omega)) ?_
        exact hpost _ _ _ _ _ _ _ _ _ h_r18 h_tx_place_14 h_ru_drafted_15 aBi aB6 aBB h_ru_wantsThing_16 aAj
      · skip
        have c13 := (zJ _ _).mp c13
        refine And.intro (fun c19 => ?_) (fun c19 => ?_)
        · skip
          have c19 := (aAd _ _).mp c19
          intro v20 ev20
          have f21 : Int32.toInt (uG + 1) = Int32.toInt uG + Int32.toInt (1 : Int32) := aAD _ _ (by omega)
          rw [<- ev20] at f21
          intro v22 ev22
          have f23 := aDv 4 16 v20 (by decide) (by omega)
          have hv22 := congrArg Int32.toInt ev22
          intro v24 ev24
          have f26 := aBx pY (v22 ^^^ (-1)) (by omega)
          have hv24 := congrArg Int32.toInt ev24
          refine And.intro (fun c27 => ?_) (fun c27 => ?_)
          · skip
            have c27 := (aAO _ _).mp c27
            exact ts_X7_readThing_78 rX qM aA2 aAI hpost qJ qI sY v20 v24 nJ tW uW aA0 aA8 (by omega) (by omega) (by omega) aAs aAj
          · skip
            have c27 := mt (aAO _ _).mpr c27
            refine And.intro (aBZ (by omega)) ?_
            have a28 : ∀ k : Nat, 0 <= Int32.toInt ((upd tW sY.toNatClampNeg v10) k) /\ Int32.toInt ((upd tW sY.toNatClampNeg v10) k) <= 256 := t_upd (fun k => by have q9 := aAj k; omega) (by omega)
            intro v29 ev29
            have f30 : Int32.toInt (sY + 1) = Int32.toInt sY + Int32.toInt (1 : Int32) := aAD _ _ (by omega)
            rw [<- ev29] at f30
            exact ts_X7_readThing_78 rX qM aA2 aAI hpost qJ qI v29 v20 v24 nJ (upd tW sY.toNatClampNeg v10) uW aA0 aA8 (by omega) (by omega) (by omega) aAs (fun k => by have q9 := a28 k; omega)
        · skip
          have c19 := mt (aAd _ _).mpr c19
          exact hpost _ _ _ _ _ _ _ _ _ (by omega) (by omega) aA8 aBi aB6 aBB (by omega) aAj
    · skip
      have c12 := (zJ _ _).mp c12
      refine And.intro (fun c31 => ?_) (fun c31 => ?_)
      · skip
        have c31 := (aAO _ _).mp c31
        exact ts_X7_readThing_78 rX qM aA2 aAI hpost qJ qI sY uG pY nJ tW uW aA0 aA8 (by omega) aB6 aBB aAs aAj
      · skip
        have c31 := mt (aAO _ _).mpr c31
        refine And.intro (aBZ (by omega)) ?_
        have a32 : ∀ k : Nat, 0 <= Int32.toInt ((upd tW sY.toNatClampNeg 256) k) /\ Int32.toInt ((upd tW sY.toNatClampNeg 256) k) <= 256 := t_upd (fun k => by have q9 := aAj k; omega) (by omega)
        intro v33 ev33
        have f34 : Int32.toInt (sY + 1) = Int32.toInt sY + Int32.toInt (1 : Int32) := aAD _ _ (by omega)
        rw [<- ev33] at f34
        exact ts_X7_readThing_78 rX qM aA2 aAI hpost qJ qI v33 uG pY nJ (upd tW sY.toNatClampNeg 256) uW aA0 aA8 (by omega) aB6 aBB aAs (fun k => by have q9 := a32 k; omega)
set_option maxHeartbeats 8000000 in
set_option maxRecDepth 200000 in
theorem ts_X7_settle_0 {post : Int32 -> Int32 -> (Nat -> Int32) -> Prop} {next : Int32 -> Int32 -> Int32 -> (Nat -> Int32) -> Prop} {n0 : Int} (tW : Nat -> Int32) (aAj : ∀ k : Nat, 0 <= Int32.toInt (tW k) /\ Int32.toInt (tW k) <= 256) (hpost : ∀ (aDA : Int32) (aFS : Int32) (aMl : Nat -> Int32), (0 <= Int32.toInt aDA /\ Int32.toInt aDA <= 40) -> (0 <= Int32.toInt aFS /\ Int32.toInt aFS <= 40) -> post aDA aFS aMl) (hKn : ∀ (x1 : Int32) (qI : Int32) (sY : Int32) (uW : Nat -> Int32), (1 <= Int32.toInt x1 /\ Int32.toInt x1 <= 4) -> (0 <= Int32.toInt qI /\ Int32.toInt qI <= 40) -> (0 <= Int32.toInt sY /\ Int32.toInt sY <= 40) -> (Int32.toInt sY < n0) -> next x1 qI sY uW) (x1 qI sY : Int32) (uW : Nat -> Int32) (aBK : 1 <= Int32.toInt x1 /\ Int32.toInt x1 <= 4) (aA8 : 0 <= Int32.toInt qI /\ Int32.toInt qI <= 40) (aBi : 0 <= Int32.toInt sY /\ Int32.toInt sY <= 40) (hn0 : Int32.toInt sY <= n0) : ws_X7_settle_0 post next tW x1 qI sY uW := by
  have l0 := aE0
  have l1 := aEc
  have l2 := li_2
  have l3 := li_2000
  have l4 := li_256
  have l5 := li_3
  have l6 := li_4
  have l7 := li_40
  have l8 := li_42
  have l9 := li_43
  have l10 := li_45
  have l11 := li_47
  have l12 := li_60
  have l13 := li_61
  have l14 := li_62
  refine And.intro (fun c1 => ?_) (fun c1 => ?_)
  · skip
    have c1 := (aAO _ _).mp c1
    exact hpost _ _ _ aA8 aBi
  · skip
    have c1 := mt (aAO _ _).mpr c1
    intro v2 ev2
    have f3 : Int32.toInt (sY - 1) = Int32.toInt sY - Int32.toInt (1 : Int32) := aCA _ _ (by omega)
    rw [<- ev2] at f3
    refine And.intro (aBZ (by omega)) ?_
    intro v4 ev4
    have f5 := aAj v2.toNatClampNeg
    have hv4 := congrArg Int32.toInt ev4
    refine And.intro (fun c6 => ?_) ?_
    · skip
      have c6 := (zJ _ _).mp c6
      refine And.intro (fun c7 => ?_) (fun c7 => ?_)
      · skip
        have c7 := (aAd _ _).mp c7
        exact hpost _ _ _ aA8 aBi
      · skip
        have c7 := mt (aAd _ _).mpr c7
        intro v8 ev8
        have hv8 := congrArg Int32.toInt (ev8.trans ev2.symm)
        refine And.intro (aBZ (by omega)) ?_
        intro v9 ev9
        have f11 := aAj v8.toNatClampNeg
        have f10 : Int32.toInt (2000 + (tW v8.toNatClampNeg)) = Int32.toInt (2000 : Int32) + Int32.toInt (tW v8.toNatClampNeg) := aAD _ _ (by omega)
        rw [<- ev9] at f10
        refine And.intro (fun c12 => ?_) (fun c12 => ?_)
        · skip
          have c12 := (aAO _ _).mp c12
          exact hKn x1 qI v8 uW aBK aA8 (by omega) (by omega)
        · skip
          have c12 := mt (aAO _ _).mpr c12
          refine And.intro (aBZ (by omega)) ?_
          intro v13 ev13
          have f14 : Int32.toInt (qI + 1) = Int32.toInt qI + Int32.toInt (1 : Int32) := aAD _ _ (by omega)
          rw [<- ev13] at f14
          exact hKn x1 v13 v8 (upd uW qI.toNatClampNeg v9) aBK (by omega) (by omega) (by omega)
    refine And.intro (fun c15 => ?_) ?_
    · skip
      have c15 := (zJ _ _).mp c15
      refine And.intro (fun c16 => ?_) (fun c16 => ?_)
      · skip
        have c16 := (aAd _ _).mp c16
        exact hpost _ _ _ aA8 aBi
      · skip
        have c16 := mt (aAd _ _).mpr c16
        intro v17 ev17
        have hv17 := congrArg Int32.toInt (ev17.trans ev2.symm)
        refine And.intro (aBZ (by omega)) ?_
        intro v18 ev18
        have f20 := aAj v17.toNatClampNeg
        have f19 : Int32.toInt (2000 + (tW v17.toNatClampNeg)) = Int32.toInt (2000 : Int32) + Int32.toInt (tW v17.toNatClampNeg) := aAD _ _ (by omega)
        rw [<- ev18] at f19
        refine And.intro (fun c21 => ?_) (fun c21 => ?_)
        · skip
          have c21 := (aAO _ _).mp c21
          exact hKn x1 qI v17 uW aBK aA8 (by omega) (by omega)
        · skip
          have c21 := mt (aAO _ _).mpr c21
          refine And.intro (aBZ (by omega)) ?_
          intro v22 ev22
          have f23 : Int32.toInt (qI + 1) = Int32.toInt qI + Int32.toInt (1 : Int32) := aAD _ _ (by omega)
          rw [<- ev22] at f23
          exact hKn x1 v22 v17 (upd uW qI.toNatClampNeg v18) aBK (by omega) (by omega) (by omega)
    refine And.intro (fun c24 => ?_) ?_
    · skip
      have c24 := (zJ _ _).mp c24
      refine And.intro (fun c25 => ?_) (fun c25 => ?_)
      · skip
        have c25 := (aAd _ _).mp c25
        exact hpost _ _ _ aA8 aBi
      · skip
        have c25 := mt (aAd _ _).mpr c25
        intro v26 ev26
        have hv26 := congrArg Int32.toInt (ev26.trans ev2.symm)
        refine And.intro (aBZ (by omega)) ?_
        intro v27 ev27
        have f29 := aAj v26.toNatClampNeg
        have f28 : Int32.toInt (2000 + (tW v26.toNatClampNeg)) = Int32.toInt (2000 : Int32) + Int32.toInt (tW v26.toNatClampNeg) := aAD _ _ (by omega)
        rw [<- ev27] at f28
        refine And.intro (fun c30 => ?_) (fun c30 => ?_)
        · skip
          have c30 := (aAO _ _).mp c30
          exact hKn x1 qI v26 uW aBK aA8 (by omega) (by omega)
        · skip
          have c30 := mt (aAO _ _).mpr c30
          refine And.intro (aBZ (by omega)) ?_
          intro v31 ev31
          have f32 : Int32.toInt (qI + 1) = Int32.toInt qI + Int32.toInt (1 : Int32) := aAD _ _ (by omega)
          rw [<- ev31] at f32
          exact hKn x1 v31 v26 (upd uW qI.toNatClampNeg v27) aBK (by omega) (by omega) (by omega)
    refine And.intro (fun c33 => ?_) ?_
    · skip
      have c33 := (zJ _ _).mp c33
      refine And.intro (fun c34 => ?_) (fun c34 => ?_)
      · skip
        have c34 := (aAd _ _).mp c34
        exact hpost _ _ _ aA8 aBi
      · skip
        have c34 := mt (aAd _ _).mpr c34
        intro v35 ev35
        have hv35 := congrArg Int32.toInt (ev35.trans ev2.symm)
        refine And.intro (aBZ (by omega)) ?_
        intro v36 ev36
        have f38 := aAj v35.toNatClampNeg
        have f37 : Int32.toInt (2000 + (tW v35.toNatClampNeg)) = Int32.toInt (2000 : Int32) + Int32.toInt (tW v35.toNatClampNeg) := aAD _ _ (by omega)
        rw [<- ev36] at f37
        refine And.intro (fun c39 => ?_) (fun c39 => ?_)
        · skip
          have c39 := (aAO _ _).mp c39
          exact hKn x1 qI v35 uW aBK aA8 (by omega) (by omega)
        · skip
          have c39 := mt (aAO _ _).mpr c39
          refine And.intro (aBZ (by omega)) ?_
          intro v40 ev40
          have f41 : Int32.toInt (qI + 1) = Int32.toInt qI + Int32.toInt (1 : Int32) := aAD _ _ (by omega)
          rw [<- ev40] at f41
          exact hKn x1 v40 v35 (upd uW qI.toNatClampNeg v36) aBK (by omega) (by omega) (by omega)
    refine And.intro (fun c42 => ?_) ?_
    · skip
      have c42 := (zJ _ _).mp c42
      refine And.intro (fun c43 => ?_) (fun c43 => ?_)
      · skip
        have c43 := (aAd _ _).mp c43
        exact hpost _ _ _ aA8 aBi
      · skip
        have c43 := mt (aAd _ _).mpr c43
        intro v44 ev44
        have hv44 := congrArg Int32.toInt (ev44.trans ev2.symm)
        refine And.intro (aBZ (by omega)) ?_
        intro v45 ev45
        have f47 := aAj v44.toNatClampNeg
        have f46 : Int32.toInt (2000 + (tW v44.toNatClampNeg)) = Int32.toInt (2000 : Int32) + Int32.toInt (tW v44.toNatClampNeg) := aAD _ _ (by omega)
        rw [<- ev45] at f46
        refine And.intro (fun c48 => ?_) (fun c48 => ?_)
        · skip
          have c48 := (aAO _ _).mp c48
          exact hKn x1 qI v44 uW aBK aA8 (by omega) (by omega)
        · skip
          have c48 := mt (aAO _ _).mpr c48
          refine And.intro (aBZ (by omega)) ?_
          intro v49 ev49
          have f50 : Int32.toInt (qI + 1) = Int32.toInt qI + Int32.toInt (1 : Int32) := aAD _ _ (by omega)
          rw [<- ev49] at f50
          exact hKn x1 v49 v44 (upd uW qI.toNatClampNeg v45) aBK (by omega) (by omega) (by omega)
    refine And.intro (fun c51 => ?_) ?_
    · skip
      have c51 := (zJ _ _).mp c51
      refine And.intro (fun c52 => ?_) (fun c52 => ?_)
      · skip
        have c52 := (aAd _ _).mp c52
        exact hpost _ _ _ aA8 aBi
      · skip
        have c52 := mt (aAd _ _).mpr c52
        intro v53 ev53
        have hv53 := congrArg Int32.toInt (ev53.trans ev2.symm)
        refine And.intro (aBZ (by omega)) ?_
        intro v54 ev54
        have f56 := aAj v53.toNatClampNeg
        have f55 : Int32.toInt (2000 + (tW v53.toNatClampNeg)) = Int32.toInt (2000 : Int32) + Int32.toInt (tW v53.toNatClampNeg) := aAD _ _ (by omega)
        rw [<- ev54] at f55
        refine And.intro (fun c57 => ?_) (fun c57 => ?_)
        · skip
          have c57 := (aAO _ _).mp c57
          exact hKn x1 qI v53 uW aBK aA8 (by omega) (by omega)
        · skip
          have c57 := mt (aAO _ _).mpr c57
          refine And.intro (aBZ (by omega)) ?_
          intro v58 ev58
          have f59 : Int32.toInt (qI + 1) = Int32.toInt qI + Int32.toInt (1 : Int32) := aAD _ _ (by omega)
          rw [<- ev58] at f59
          exact hKn x1 v58 v53 (upd uW qI.toNatClampNeg v54) aBK (by omega) (by omega) (by omega)
    refine And.intro (fun c60 => ?_) ?_
    · skip
      have c60 := (zJ _ _).mp c60
      refine And.intro (fun c61 => ?_) (fun c61 => ?_)
      · skip
        have c61 := (aAd _ _).mp c61
        exact hpost _ _ _ aA8 aBi
      · skip
        have c61 := mt (aAd _ _).mpr c61
        intro v62 ev62
        have hv62 := congrArg Int32.toInt (ev62.trans ev2.symm)
        refine And.intro (aBZ (by omega)) ?_
        intro v63 ev63
        have f65 := aAj v62.toNatClampNeg
        have f64 : Int32.toInt (2000 + (tW v62.toNatClampNeg)) = Int32.toInt (2000 : Int32) + Int32.toInt (tW v62.toNatClampNeg) := aAD _ _ (by omega)
        rw [<- ev63] at f64
        refine And.intro (fun c66 => ?_) (fun c66 => ?_)
        · skip
          have c66 := (aAO _ _).mp c66
          exact hKn x1 qI v62 uW aBK aA8 (by omega) (by omega)
        · skip
          have c66 := mt (aAO _ _).mpr c66
          refine And.intro (aBZ (by omega)) ?_
          intro v67 ev67
          have f68 : Int32.toInt (qI + 1) = Int32.toInt qI + Int32.toInt (1 : Int32) := aAD _ _ (by omega)
          rw [<- ev67] at f68
          exact hKn x1 v67 v62 (upd uW qI.toNatClampNeg v63) aBK (by omega) (by omega) (by omega)
    refine And.intro (fun c69 => ?_) ?_
    · skip
      have c69 := (zJ _ _).mp c69
      refine And.intro (fun c70 => ?_) (fun c70 => ?_)
      · skip
        have c70 := (aAd _ _).mp c70
        exfalso; omega
      · skip
        have c70 := mt (aAd _ _).mpr c70
        intro v71 ev71
        have hv71 := congrArg Int32.toInt (ev71.trans ev2.symm)
        refine And.intro (aBZ (by omega)) ?_
        intro v72 ev72
        have f74 := aAj v71.toNatClampNeg
        have f73 : Int32.toInt (2000 + (tW v71.toNatClampNeg)) = Int32.toInt (2000 : Int32) + Int32.toInt (tW v71.toNatClampNeg) := aAD _ _ (by omega)
        rw [<- ev72] at f73
        refine And.intro (fun c75 => ?_) (fun c75 => ?_)
        · skip
          have c75 := (aAO _ _).mp c75
          exact hKn x1 qI v71 uW aBK aA8 (by omega) (by omega)
        · skip
          have c75 := mt (aAO _ _).mpr c75
          refine And.intro (aBZ (by omega)) ?_
          intro v76 ev76
          have f77 : Int32.toInt (qI + 1) = Int32.toInt qI + Int32.toInt (1 : Int32) := aAD _ _ (by omega)
          rw [<- ev76] at f77
          exact hKn x1 v76 v71 (upd uW qI.toNatClampNeg v72) aBK (by omega) (by omega) (by omega)
    intro c78 c79 c80 c81 c82 c83 c84 c85
    have c78 := mt (zJ _ _).mpr c78
    have c79 := mt (zJ _ _).mpr c79
    have c80 := mt (zJ _ _).mpr c80
    have c81 := mt (zJ _ _).mpr c81
    have c82 := mt (zJ _ _).mpr c82
    have c83 := mt (zJ _ _).mpr c83
    have c84 := mt (zJ _ _).mpr c84
    have c85 := mt (zJ _ _).mpr c85
    refine And.intro (fun c86 => ?_) (fun c86 => ?_)
    · skip
      have c86 := (aAd _ _).mp c86
      exact hpost _ _ _ aA8 aBi
    · skip
      have c86 := mt (aAd _ _).mpr c86
      exfalso; omega
set_option maxHeartbeats 8000000 in
set_option maxRecDepth 200000 in
theorem tb_X7_settle_0 {post : Int32 -> Int32 -> (Nat -> Int32) -> Prop} (tW : Nat -> Int32) (aAj : ∀ k : Nat, 0 <= Int32.toInt (tW k) /\ Int32.toInt (tW k) <= 256) (hpost : ∀ (aDA : Int32) (aFS : Int32) (aMl : Nat -> Int32), (0 <= Int32.toInt aDA /\ Int32.toInt aDA <= 40) -> (0 <= Int32.toInt aFS /\ Int32.toInt aFS <= 40) -> post aDA aFS aMl) : ∀ (n : Nat) (x1 qI sY : Int32) (uW : Nat -> Int32), (1 <= Int32.toInt x1 /\ Int32.toInt x1 <= 4) -> (0 <= Int32.toInt qI /\ Int32.toInt qI <= 40) -> (0 <= Int32.toInt sY /\ Int32.toInt sY <= 40) -> (Int32.toInt sY < (n : Int)) -> wb_X7_settle_0 post tW n x1 qI sY uW := by
  intro n
  induction n with
  | zero =>
    intro x1 qI sY uW aBK aA8 aBi hm
    exfalso; omega
  | succ n ih =>
    intro x1 qI sY uW aBK aA8 aBi hm
    exact ts_X7_settle_0 tW aAj hpost ih x1 qI sY uW aBK aA8 aBi (by omega)
set_option maxHeartbeats 8000000 in
set_option maxRecDepth 200000 in
theorem t_X7_settle {post : Int32 -> Int32 -> (Nat -> Int32) -> Prop} {p0 qI sY : Int32} {tW uW : Nat -> Int32} (h_p0 : 1 <= Int32.toInt p0 /\ Int32.toInt p0 <= 4) (aA8 : 0 <= Int32.toInt qI /\ Int32.toInt qI <= 40) (aBi : 0 <= Int32.toInt sY /\ Int32.toInt sY <= 40) (aAj : ∀ k : Nat, 0 <= Int32.toInt (tW k) /\ Int32.toInt (tW k) <= 256) (hpost : ∀ (aDA : Int32) (aFS : Int32) (aMl : Nat -> Int32), (0 <= Int32.toInt aDA /\ Int32.toInt aDA <= 40) -> (0 <= Int32.toInt aFS /\ Int32.toInt aFS <= 40) -> post aDA aFS aMl) : wp_X7_settle post p0 qI sY tW uW := by
  exact ⟨42, tb_X7_settle_0 tW aAj hpost _ p0 qI sY uW h_p0 aA8 aBi (by omega)⟩
set_option maxHeartbeats 8000000 in
set_option maxRecDepth 200000 in
theorem ts_X7_readBehindThing_105 {post : Int32 -> Int32 -> Int32 -> Int32 -> Int32 -> Int32 -> Int32 -> (Nat -> Int32) -> (Nat -> Int32) -> Prop} (rX : Int32) (qM : Nat -> Int32) (aA2 : 1 <= Int32.toInt rX /\ Int32.toInt rX <= 40) (aAI : ∀ k : Nat, 0 <= Int32.toInt (qM k) /\ Int32.toInt (qM k) <= 65535) (hpost : ∀ (r : Int32) (aBS : Int32) (aDA : Int32) (aFS : Int32) (aI6 : Int32) (aEO : Int32) (aCy : Int32) (aFD : Nat -> Int32) (aMl : Nat -> Int32), (0 <= Int32.toInt r /\ Int32.toInt r <= 1) -> (0 <= Int32.toInt aBS /\ Int32.toInt aBS <= 40) -> (0 <= Int32.toInt aDA /\ Int32.toInt aDA <= 40) -> (0 <= Int32.toInt aFS /\ Int32.toInt aFS <= 40) -> (0 <= Int32.toInt aI6 /\ Int32.toInt aI6 <= 4) -> (0 <= Int32.toInt aEO /\ Int32.toInt aEO <= 31) -> (0 <= Int32.toInt aCy /\ Int32.toInt aCy <= 1) -> (∀ k : Nat, 0 <= Int32.toInt (aFD k) /\ Int32.toInt (aFD k) <= 256) -> post r aBS aDA aFS aI6 aEO aCy aFD aMl) (x2 x3 qJ qI sY uG pY nJ : Int32) (tW uW : Nat -> Int32) (aBN : 42 <= Int32.toInt x2 /\ Int32.toInt x2 <= 256) (aCH : 1 <= Int32.toInt x3 /\ Int32.toInt x3 <= 4) (aA0 : 0 <= Int32.toInt qJ /\ Int32.toInt qJ <= 40) (aA8 : 0 <= Int32.toInt qI /\ Int32.toInt qI <= 40) (aBi : 0 <= Int32.toInt sY /\ Int32.toInt sY <= 40) (aB6 : 0 <= Int32.toInt uG /\ Int32.toInt uG <= 4) (aBB : 0 <= Int32.toInt pY /\ Int32.toInt pY <= 31) (aAs : 0 <= Int32.toInt nJ /\ Int32.toInt nJ <= 0) (aAj : ∀ k : Nat, 0 <= Int32.toInt (tW k) /\ Int32.toInt (tW k) <= 256) : bCe post rX qM x2 x3 qJ qI sY uG pY nJ tW uW := by
  have l0 := aEc
  have l1 := li_40
  refine t_X7_settle aCH aA8 aBi aAj (fun ru_drafted_1 ru_waits_2 ru_draft_3 h_ru_drafted_1 h_ru_waits_2 => ?_)
  refine And.intro (fun c4 => ?_) (fun c4 => ?_)
  · skip
    have c4 := (aAO _ _).mp c4
    refine And.intro (fun c5 => ?_) (fun c5 => ?_)
    · skip
      have c5 := (aAO _ _).mp c5
      exact hpost _ _ _ _ _ _ _ _ _ (by omega) aA0 h_ru_drafted_1 h_ru_waits_2 aB6 aBB (by omega) aAj
    · skip
      have c5 := mt (aAO _ _).mpr c5
      intro v6 ev6
      have f7 : Int32.toInt (qJ + 1) = Int32.toInt qJ + Int32.toInt (1 : Int32) := aAD _ _ (by omega)
      rw [<- ev6] at f7
      exact hpost _ _ _ _ _ _ _ _ _ (by omega) (by omega) h_ru_drafted_1 h_ru_waits_2 aB6 aBB (by omega) aAj
  · skip
    have c4 := mt (aAO _ _).mpr c4
    refine And.intro (aBZ (by omega)) ?_
    have a8 : ∀ k : Nat, 0 <= Int32.toInt ((upd tW ru_waits_2.toNatClampNeg x2) k) /\ Int32.toInt ((upd tW ru_waits_2.toNatClampNeg x2) k) <= 256 := t_upd (fun k => by have q9 := aAj k; omega) (by omega)
    intro v9 ev9
    have f10 : Int32.toInt (ru_waits_2 + 1) = Int32.toInt ru_waits_2 + Int32.toInt (1 : Int32) := aAD _ _ (by omega)
    rw [<- ev9] at f10
    refine And.intro (fun c11 => ?_) (fun c11 => ?_)
    · skip
      have c11 := (aAO _ _).mp c11
      exact hpost _ _ _ _ _ _ _ _ _ (by omega) aA0 h_ru_drafted_1 (by omega) aB6 aBB (by omega) (fun k => by have q9 := a8 k; omega)
    · skip
      have c11 := mt (aAO _ _).mpr c11
      intro v12 ev12
      have f13 : Int32.toInt (qJ + 1) = Int32.toInt qJ + Int32.toInt (1 : Int32) := aAD _ _ (by omega)
      rw [<- ev12] at f13
      exact hpost _ _ _ _ _ _ _ _ _ (by omega) (by omega) h_ru_drafted_1 (by omega) aB6 aBB (by omega) (fun k => by have q9 := a8 k; omega)
set_option maxHeartbeats 8000000 in
set_option maxRecDepth 200000 in
theorem aRS {post : Int32 -> Int32 -> Int32 -> Int32 -> Int32 -> Int32 -> Int32 -> (Nat -> Int32) -> (Nat -> Int32) -> Prop} (rX : Int32) (qM : Nat -> Int32) (aA2 : 1 <= Int32.toInt rX /\ Int32.toInt rX <= 40) (aAI : ∀ k : Nat, 0 <= Int32.toInt (qM k) /\ Int32.toInt (qM k) <= 65535) (hpost : ∀ (r : Int32) (aBS : Int32) (aDA : Int32) (aFS : Int32) (aI6 : Int32) (aEO : Int32) (aCy : Int32) (aFD : Nat -> Int32) (aMl : Nat -> Int32), (0 <= Int32.toInt r /\ Int32.toInt r <= 1) -> (0 <= Int32.toInt aBS /\ Int32.toInt aBS <= 40) -> (0 <= Int32.toInt aDA /\ Int32.toInt aDA <= 40) -> (0 <= Int32.toInt aFS /\ Int32.toInt aFS <= 40) -> (0 <= Int32.toInt aI6 /\ Int32.toInt aI6 <= 4) -> (0 <= Int32.toInt aEO /\ Int32.toInt aEO <= 31) -> (0 <= Int32.toInt aCy /\ Int32.toInt aCy <= 1) -> (∀ k : Nat, 0 <= Int32.toInt (aFD k) /\ Int32.toInt (aFD k) <= 256) -> post r aBS aDA aFS aI6 aEO aCy aFD aMl) (x2 x3 qJ qI sY uG pY nJ : Int32) (tW uW : Nat -> Int32) (aBN : 42 <= Int32.toInt x2 /\ Int32.toInt x2 <= 256) (aCH : 1 <= Int32.toInt x3 /\ Int32.toInt x3 <= 4) (aA0 : 0 <= Int32.toInt qJ /\ Int32.toInt qJ <= 40) (aA8 : 0 <= Int32.toInt qI /\ Int32.toInt qI <= 40) (aBi : 0 <= Int32.toInt sY /\ Int32.toInt sY <= 40) (aB6 : 0 <= Int32.toInt uG /\ Int32.toInt uG <= 4) (aBB : 0 <= Int32.toInt pY /\ Int32.toInt pY <= 31) (aAs : 0 <= Int32.toInt nJ /\ Int32.toInt nJ <= 0) (aAj : ∀ k : Nat, 0 <= Int32.toInt (tW k) /\ Int32.toInt (tW k) <= 256) : ws_X7_readBehindThing_85 post rX qM x2 x3 qJ qI sY uG pY nJ tW uW := by
  have l0 := aEc
  refine And.intro (fun c14 => ?_) (fun c14 => ?_)
  · skip
    have c14 := mt (zJ _ _).mpr c14
    exact ts_X7_readBehindThing_105 rX qM aA2 aAI hpost x2 x3 qJ qI sY uG pY nJ tW uW aBN aCH aA0 aA8 aBi aB6 aBB aAs aAj
  · skip
    have c14 := (zJ _ _).mp c14
    intro v15 ev15
    have f17 := aDv 4 16 uG (by decide) (by omega)
    have f16 := ti_or 5 32 pY (1 <<< (uG &&& 31)) (by decide) (by omega) (by omega)
    have hv15 := congrArg Int32.toInt ev15
    exact ts_X7_readBehindThing_105 rX qM aA2 aAI hpost x2 x3 qJ qI sY uG v15 nJ tW uW aBN aCH aA0 aA8 aBi aB6 (by omega) aAs aAj
set_option maxHeartbeats 8000000 in
set_option maxRecDepth 200000 in
theorem t_X7_readBehindThing {post : Int32 -> Int32 -> Int32 -> Int32 -> Int32 -> Int32 -> Int32 -> (Nat -> Int32) -> (Nat -> Int32) -> Prop} {qJ rX : Int32} {qM : Nat -> Int32} {qI sY uG pY nJ : Int32} {tW uW : Nat -> Int32} (aA0 : 0 <= Int32.toInt qJ /\ Int32.toInt qJ <= 40) (aA2 : 1 <= Int32.toInt rX /\ Int32.toInt rX <= 40) (aAI : ∀ k : Nat, 0 <= Int32.toInt (qM k) /\ Int32.toInt (qM k) <= 65535) (aA8 : 0 <= Int32.toInt qI /\ Int32.toInt qI <= 40) (aBi : 0 <= Int32.toInt sY /\ Int32.toInt sY <= 40) (aB6 : 0 <= Int32.toInt uG /\ Int32.toInt uG <= 4) (aBB : 0 <= Int32.toInt pY /\ Int32.toInt pY <= 31) (aAs : 0 <= Int32.toInt nJ /\ Int32.toInt nJ <= 0) (aAj : ∀ k : Nat, 0 <= Int32.toInt (tW k) /\ Int32.toInt (tW k) <= 256) (hpost : ∀ (r : Int32) (aBS : Int32) (aDA : Int32) (aFS : Int32) (aI6 : Int32) (aEO : Int32) (aCy : Int32) (aFD : Nat -> Int32) (aMl : Nat -> Int32), (0 <= Int32.toInt r /\ Int32.toInt r <= 1) -> (0 <= Int32.toInt aBS /\ Int32.toInt aBS <= 40) -> (0 <= Int32.toInt aDA /\ Int32.toInt aDA <= 40) -> (0 <= Int32.toInt aFS /\ Int32.toInt aFS <= 40) -> (0 <= Int32.toInt aI6 /\ Int32.toInt aI6 <= 4) -> (0 <= Int32.toInt aEO /\ Int32.toInt aEO <= 31) -> (0 <= Int32.toInt aCy /\ Int32.toInt aCy <= 1) -> (∀ k : Nat, 0 <= Int32.toInt (aFD k) /\ Int32.toInt (aFD k) <= 256) -> post r aBS aDA aFS aI6 aEO aCy aFD aMl) : wp_X7_readBehindThing post qJ rX qM qI sY uG pY nJ tW uW := by
  have l0 := aI2
  have l1 := aE0
  have l2 := aEc
  have l3 := li_2
  have l4 := li_256
  have l5 := li_3
  have l6 := li_4
  have l7 := li_41
  have l8 := li_42
  have l9 := li_43
  have l10 := li_45
  have l11 := li_47
  have l12 := li_60
  have l13 := li_61
  have l14 := li_62
  refine And.intro (fun c18 => ?_) (fun c18 => ?_)
  · skip
    have c18 := (aAO _ _).mp c18
    refine And.intro (fun _ => ?_) (fun h9 => absurd h9 (by decide))
    refine And.intro (fun c19 => ?_) ?_
    · skip
      have c19 := (zJ _ _).mp c19
      exfalso; omega
    refine And.intro (fun c20 => ?_) ?_
    · skip
      have c20 := (zJ _ _).mp c20
      exfalso; omega
    refine And.intro (fun c21 => ?_) ?_
    · skip
      have c21 := (zJ _ _).mp c21
      exfalso; omega
    refine And.intro (fun c22 => ?_) ?_
    · skip
      have c22 := (zJ _ _).mp c22
      exfalso; omega
    refine And.intro (fun c23 => ?_) ?_
    · skip
      have c23 := (zJ _ _).mp c23
      exfalso; omega
    refine And.intro (fun c24 => ?_) ?_
    · skip
      have c24 := (zJ _ _).mp c24
      exfalso; omega
    refine And.intro (fun c25 => ?_) ?_
    · skip
      have c25 := (zJ _ _).mp c25
      exfalso; omega
    refine And.intro (fun c26 => ?_) ?_
    · skip
      have c26 := (zJ _ _).mp c26
      exfalso; omega
    intro c27 c28 c29 c30 c31 c32 c33 c34
    have c27 := mt (zJ _ _).mpr c27
    have c28 := mt (zJ _ _).mpr c28
    have c29 := mt (zJ _ _).mpr c29
    have c30 := mt (zJ _ _).mpr c30
    have c31 := mt (zJ _ _).mpr c31
    have c32 := mt (zJ _ _).mpr c32
    have c33 := mt (zJ _ _).mpr c33
    have c34 := mt (zJ _ _).mpr c34
    refine And.intro (fun _ => ?_) (fun h9 => absurd h9 (by decide))
    exact hpost _ _ _ _ _ _ _ _ _ (by omega) aA0 aA8 aBi aB6 aBB (by omega) aAj
  · skip
    have c18 := mt (aAO _ _).mpr c18
    refine And.intro (aBZ (by omega)) ?_
    intro v35 ev35
    have f36 := aAI qJ.toNatClampNeg
    have hv35 := congrArg Int32.toInt ev35
    refine And.intro (fun c37 => ?_) (fun c37 => ?_)
    · skip
      have c37 := mt (zJ _ _).mpr c37
      refine And.intro (fun c38 => ?_) ?_
      · skip
        have c38 := (zJ _ _).mp c38
        refine And.intro (fun h9 => absurd h9 (by decide)) (fun _ => ?_)
        refine And.intro (fun _ => ?_) (fun h9 => absurd h9 (by decide))
        exact aRS rX qM aA2 aAI hpost v35 3 qJ qI sY uG pY nJ tW uW (by omega) (by omega) aA0 aA8 aBi aB6 aBB aAs aAj
      refine And.intro (fun c39 => ?_) ?_
      · skip
        have c39 := (zJ _ _).mp c39
        refine And.intro (fun h9 => absurd h9 (by decide)) (fun _ => ?_)
        refine And.intro (fun _ => ?_) (fun h9 => absurd h9 (by decide))
        exact aRS rX qM aA2 aAI hpost v35 2 qJ qI sY uG pY nJ tW uW (by omega) (by omega) aA0 aA8 aBi aB6 aBB aAs aAj
      refine And.intro (fun c40 => ?_) ?_
      · skip
        have c40 := (zJ _ _).mp c40
        refine And.intro (fun h9 => absurd h9 (by decide)) (fun _ => ?_)
        refine And.intro (fun _ => ?_) (fun h9 => absurd h9 (by decide))
        exact aRS rX qM aA2 aAI hpost v35 2 qJ qI sY uG pY nJ tW uW (by omega) (by omega) aA0 aA8 aBi aB6 aBB aAs aAj
      refine And.intro (fun c41 => ?_) ?_
      · skip
        have c41 := (zJ _ _).mp c41
        refine And.intro (fun h9 => absurd h9 (by decide)) (fun _ => ?_)
        refine And.intro (fun _ => ?_) (fun h9 => absurd h9 (by decide))
        exact aRS rX qM aA2 aAI hpost v35 3 qJ qI sY uG pY nJ tW uW (by omega) (by omega) aA0 aA8 aBi aB6 aBB aAs aAj
      refine And.intro (fun c42 => ?_) ?_
      · skip
        have c42 := (zJ _ _).mp c42
        refine And.intro (fun h9 => absurd h9 (by decide)) (fun _ => ?_)
        refine And.intro (fun h9 => absurd h9 (by decide)) (fun _ => ?_)
        intro v43 ev43
        have f44 := aRJ pY uG (by omega)
        have hv43 := congrArg Int32.toInt ev43
        have f46 := aAQ v43 1 (by omega)
        have f47 := aBx v43 1 (by omega)
        refine And.intro (fun c45 => ?_) (fun c45 => ?_)
        · skip
          have c45 := (zJ _ _).mp c45
          exact aRS rX qM aA2 aAI hpost v35 1 qJ qI sY uG pY nJ tW uW (by omega) (by omega) aA0 aA8 aBi aB6 aBB aAs aAj
        · skip
          have c45 := mt (zJ _ _).mpr c45
          exact hpost _ _ _ _ _ _ _ _ _ (by omega) aA0 aA8 aBi aB6 aBB (by omega) aAj
      refine And.intro (fun c48 => ?_) ?_
      · skip
        have c48 := (zJ _ _).mp c48
        refine And.intro (fun h9 => absurd h9 (by decide)) (fun _ => ?_)
        refine And.intro (fun h9 => absurd h9 (by decide)) (fun _ => ?_)
        intro v49 ev49
        have f50 := aRJ pY uG (by omega)
        have hv49 := congrArg Int32.toInt ev49
        have f52 := aAQ v49 1 (by omega)
        have f53 := aBx v49 1 (by omega)
        refine And.intro (fun c51 => ?_) (fun c51 => ?_)
        · skip
          have c51 := (zJ _ _).mp c51
          exact aRS rX qM aA2 aAI hpost v35 1 qJ qI sY uG pY nJ tW uW (by omega) (by omega) aA0 aA8 aBi aB6 aBB aAs aAj
        · skip
          have c51 := mt (zJ _ _).mpr c51
          exact hpost _ _ _ _ _ _ _ _ _ (by omega) aA0 aA8 aBi aB6 aBB (by omega) aAj
      refine And.intro (fun c54 => ?_) ?_
      · skip
        have c54 := (zJ _ _).mp c54
        refine And.intro (fun h9 => absurd h9 (by decide)) (fun _ => ?_)
        refine And.intro (fun h9 => absurd h9 (by decide)) (fun _ => ?_)
        intro v55 ev55
        have f56 := aRJ pY uG (by omega)
        have hv55 := congrArg Int32.toInt ev55
        have f58 := aAQ v55 1 (by omega)
        have f59 := aBx v55 1 (by omega)
        refine And.intro (fun c57 => ?_) (fun c57 => ?_)
        · skip
          have c57 := (zJ _ _).mp c57
          exact aRS rX qM aA2 aAI hpost v35 1 qJ qI sY uG pY nJ tW uW (by omega) (by omega) aA0 aA8 aBi aB6 aBB aAs aAj
        · skip
          have c57 := mt (zJ _ _).mpr c57
          exact hpost _ _ _ _ _ _ _ _ _ (by omega) aA0 aA8 aBi aB6 aBB (by omega) aAj
      refine And.intro (fun c60 => ?_) ?_
      · skip
        have c60 := (zJ _ _).mp c60
        refine And.intro (fun h9 => absurd h9 (by decide)) (fun _ => ?_)
        refine And.intro (fun _ => ?_) (fun h9 => absurd h9 (by decide))
        exact aRS rX qM aA2 aAI hpost v35 4 qJ qI sY uG pY nJ tW uW (by omega) (by omega) aA0 aA8 aBi aB6 aBB aAs aAj
      intro c61 c62 c63 c64 c65 c66 c67 c68
      have c61 := mt (zJ _ _).mpr c61
      have c62 := mt (zJ _ _).mpr c62
      have c63 := mt (zJ _ _).mpr c63
      have c64 := mt (zJ _ _).mpr c64
      have c65 := mt (zJ _ _).mpr c65
      have c66 := mt (zJ _ _).mpr c66
      have c67 := mt (zJ _ _).mpr c67
      have c68 := mt (zJ _ _).mpr c68
      refine And.intro (fun _ => ?_) (fun h9 => absurd h9 (by decide))
      exact hpost _ _ _ _ _ _ _ _ _ (by omega) aA0 aA8 aBi aB6 aBB (by omega) aAj
    · skip
      have c37 := (zJ _ _).mp c37
      refine And.intro (fun c69 => ?_) (fun c69 => ?_)
      · skip
        have c69 := mt (zJ _ _).mpr c69
        refine t_X7_settle (by omega) aA8 aBi aAj (fun ru_drafted_70 ru_waits_71 ru_draft_72 h_ru_drafted_70 h_ru_waits_71 => ?_)
        intro v73 ev73
        have f74 : Int32.toInt (ru_waits_71 - 1) = Int32.toInt ru_waits_71 - Int32.toInt (1 : Int32) := aCA _ _ (by omega)
        rw [<- ev73] at f74
        intro v75 ev75
        have f76 := ti_max (0 : Int32) v73
        have hv75 := congrArg Int32.toInt ev75
        intro v77 ev77
        have f78 : Int32.toInt (uG - 1) = Int32.toInt uG - Int32.toInt (1 : Int32) := aCA _ _ (by omega)
        rw [<- ev77] at f78
        refine And.intro (fun c79 => ?_) (fun c79 => ?_)
        · skip
          have c79 := (aAO _ _).mp c79
          exact hpost _ _ _ _ _ _ _ _ _ (by omega) aA0 h_ru_drafted_70 (by omega) (by omega) aBB (by omega) aAj
        · skip
          have c79 := mt (aAO _ _).mpr c79
          intro v80 ev80
          have f81 : Int32.toInt (qJ + 1) = Int32.toInt qJ + Int32.toInt (1 : Int32) := aAD _ _ (by omega)
          rw [<- ev80] at f81
          exact hpost _ _ _ _ _ _ _ _ _ (by omega) (by omega) h_ru_drafted_70 (by omega) (by omega) aBB (by omega) aAj
      · skip
        have c69 := (zJ _ _).mp c69
        exact hpost _ _ _ _ _ _ _ _ _ (by omega) aA0 aA8 aBi aB6 aBB (by omega) aAj
set_option maxHeartbeats 8000000 in
set_option maxRecDepth 200000 in
theorem ts_X7_read_75 {post : Int32 -> Int32 -> Int32 -> Int32 -> Int32 -> Int32 -> Int32 -> Int32 -> (Nat -> Int32) -> (Nat -> Int32) -> (Nat -> Int32) -> Prop} (qL rX : Int32) (qM : Nat -> Int32) (aBH : 1 <= Int32.toInt qL /\ Int32.toInt qL <= 80) (aA2 : 0 <= Int32.toInt rX /\ Int32.toInt rX <= 40) (aAI : ∀ k : Nat, 0 <= Int32.toInt (qM k) /\ Int32.toInt (qM k) <= 65535) (hpost : ∀ (r : Int32) (aBS : Int32) (aNT : Int32) (aDA : Int32) (aFS : Int32) (aI6 : Int32) (aEO : Int32) (aCy : Int32) (aFD : Nat -> Int32) (ru_program' : Nat -> Int32) (aMl : Nat -> Int32), (0 <= Int32.toInt r /\ Int32.toInt r <= 1) -> (0 <= Int32.toInt aBS /\ Int32.toInt aBS <= 80) -> (0 <= Int32.toInt aNT /\ Int32.toInt aNT <= 40) -> (0 <= Int32.toInt aDA /\ Int32.toInt aDA <= 40) -> (0 <= Int32.toInt aFS /\ Int32.toInt aFS <= 40) -> (0 <= Int32.toInt aI6 /\ Int32.toInt aI6 <= 4) -> (0 <= Int32.toInt aEO /\ Int32.toInt aEO <= 31) -> (0 <= Int32.toInt aCy /\ Int32.toInt aCy <= 1) -> (∀ k : Nat, 0 <= Int32.toInt (aFD k) /\ Int32.toInt (aFD k) <= 256) -> post r aBS aNT aDA aFS aI6 aEO aCy aFD ru_program' aMl) (qJ pQ qI sY uG pY nJ : Int32) (tW pN uW : Nat -> Int32) (aA0 : 0 <= Int32.toInt qJ /\ Int32.toInt qJ <= 80) (zU : 0 <= Int32.toInt pQ /\ Int32.toInt pQ <= 40) (aA8 : 0 <= Int32.toInt qI /\ Int32.toInt qI <= 40) (aBi : 0 <= Int32.toInt sY /\ Int32.toInt sY <= 40) (aB6 : 0 <= Int32.toInt uG /\ Int32.toInt uG <= 4) (aBB : 0 <= Int32.toInt pY /\ Int32.toInt pY <= 31) (aAs : 0 <= Int32.toInt nJ /\ Int32.toInt nJ <= 1) (aAj : ∀ k : Nat, 0 <= Int32.toInt (tW k) /\ Int32.toInt (tW k) <= 256) : ws_X7_read_75 post qL rX qM qJ pQ qI sY uG pY nJ tW pN uW := by
  have l0 := aE0
  have l1 := aEc
  refine And.intro (fun c1 => ?_) (fun c1 => ?_)
  · skip
    have c1 := mt (zJ _ _).mpr c1
    exact hpost _ _ _ _ _ _ _ _ _ _ _ (by omega) aA0 zU aA8 aBi aB6 aBB aAs aAj
  · skip
    have c1 := (zJ _ _).mp c1
    refine And.intro (fun c2 => ?_) (fun c2 => ?_)
    · skip
      have c2 := (aAd _ _).mp c2
      exact hpost _ _ _ _ _ _ _ _ _ _ _ (by omega) aA0 zU aA8 aBi aB6 aBB aAs aAj
    · skip
      have c2 := mt (aAd _ _).mpr c2
      refine And.intro (fun c3 => ?_) (fun c3 => ?_)
      · skip
        have c3 := mt (zJ _ _).mpr c3
        refine And.intro (fun h9 => absurd h9 (by decide)) (fun _ => ?_)
        exact hpost _ _ _ _ _ _ _ _ _ _ _ (by omega) aA0 zU aA8 aBi aB6 aBB aAs aAj
      · skip
        have c3 := (zJ _ _).mp c3
        refine And.intro (fun _ => ?_) (fun h9 => absurd h9 (by decide))
        refine t_X7_settle (by omega) aA8 aBi aAj (fun ru_drafted_4 ru_waits_5 ru_draft_6 h_ru_drafted_4 h_ru_waits_5 => ?_)
        exact hpost _ _ _ _ _ _ _ _ _ _ _ (by omega) aA0 h_ru_drafted_4 h_ru_drafted_4 h_ru_waits_5 aB6 aBB aAs aAj
set_option maxHeartbeats 8000000 in
set_option maxRecDepth 200000 in
theorem ts_X7_read_69 {post K27 : Int32 -> Int32 -> Int32 -> Int32 -> Int32 -> Int32 -> Int32 -> Int32 -> (Nat -> Int32) -> (Nat -> Int32) -> (Nat -> Int32) -> Prop} {n27 : Int} (qL rX : Int32) (qM : Nat -> Int32) (aBH : 1 <= Int32.toInt qL /\ Int32.toInt qL <= 80) (aA2 : 0 <= Int32.toInt rX /\ Int32.toInt rX <= 40) (aAI : ∀ k : Nat, 0 <= Int32.toInt (qM k) /\ Int32.toInt (qM k) <= 65535) (hpost : ∀ (r : Int32) (aBS : Int32) (aNT : Int32) (aDA : Int32) (aFS : Int32) (aI6 : Int32) (aEO : Int32) (aCy : Int32) (aFD : Nat -> Int32) (ru_program' : Nat -> Int32) (aMl : Nat -> Int32), (0 <= Int32.toInt r /\ Int32.toInt r <= 1) -> (0 <= Int32.toInt aBS /\ Int32.toInt aBS <= 80) -> (0 <= Int32.toInt aNT /\ Int32.toInt aNT <= 40) -> (0 <= Int32.toInt aDA /\ Int32.toInt aDA <= 40) -> (0 <= Int32.toInt aFS /\ Int32.toInt aFS <= 40) -> (0 <= Int32.toInt aI6 /\ Int32.toInt aI6 <= 4) -> (0 <= Int32.toInt aEO /\ Int32.toInt aEO <= 31) -> (0 <= Int32.toInt aCy /\ Int32.toInt aCy <= 1) -> (∀ k : Nat, 0 <= Int32.toInt (aFD k) /\ Int32.toInt (aFD k) <= 256) -> post r aBS aNT aDA aFS aI6 aEO aCy aFD ru_program' aMl) (hK27 : ∀ (x2 : Int32) (qJ : Int32) (pQ : Int32) (qI : Int32) (sY : Int32) (uG : Int32) (pY : Int32) (nJ : Int32) (tW : Nat -> Int32) (pN : Nat -> Int32) (uW : Nat -> Int32), (0 <= Int32.toInt x2 /\ Int32.toInt x2 <= 48) -> (0 <= Int32.toInt qJ /\ Int32.toInt qJ <= 80) -> (0 <= Int32.toInt pQ /\ Int32.toInt pQ <= 40) -> (0 <= Int32.toInt qI /\ Int32.toInt qI <= 40) -> (0 <= Int32.toInt sY /\ Int32.toInt sY <= 40) -> (0 <= Int32.toInt uG /\ Int32.toInt uG <= 4) -> (0 <= Int32.toInt pY /\ Int32.toInt pY <= 31) -> (0 <= Int32.toInt nJ /\ Int32.toInt nJ <= 1) -> (∀ k : Nat, 0 <= Int32.toInt (tW k) /\ Int32.toInt (tW k) <= 256) -> (48 - Int32.toInt x2 < n27) -> K27 x2 qJ pQ qI sY uG pY nJ tW pN uW) (x2 qJ pQ qI sY uG pY nJ : Int32) (tW pN uW : Nat -> Int32) (aBN : 0 <= Int32.toInt x2 /\ Int32.toInt x2 <= 40) (aA0 : 0 <= Int32.toInt qJ /\ Int32.toInt qJ <= 80) (zU : 0 <= Int32.toInt pQ /\ Int32.toInt pQ <= 40) (aA8 : 0 <= Int32.toInt qI /\ Int32.toInt qI <= 40) (aBi : 0 <= Int32.toInt sY /\ Int32.toInt sY <= 40) (aB6 : 0 <= Int32.toInt uG /\ Int32.toInt uG <= 4) (aBB : 0 <= Int32.toInt pY /\ Int32.toInt pY <= 31) (aAs : 0 <= Int32.toInt nJ /\ Int32.toInt nJ <= 1) (aAj : ∀ k : Nat, 0 <= Int32.toInt (tW k) /\ Int32.toInt (tW k) <= 256) (hn27 : 48 - Int32.toInt x2 <= n27) : ws_X7_read_69 post K27 qL rX qM x2 qJ pQ qI sY uG pY nJ tW pN uW := by
  have l0 := aEc
  intro v7 ev7
  have f8 : Int32.toInt (x2 + 1) = Int32.toInt x2 + Int32.toInt (1 : Int32) := aAD _ _ (by omega)
  rw [<- ev7] at f8
  exact hK27 v7 qJ pQ qI sY uG pY nJ tW pN uW (by omega) aA0 zU aA8 aBi aB6 aBB aAs aAj (by omega)
set_option maxHeartbeats 8000000 in
set_option maxRecDepth 200000 in
theorem ts_X7_read_27 {post next : Int32 -> Int32 -> Int32 -> Int32 -> Int32 -> Int32 -> Int32 -> Int32 -> (Nat -> Int32) -> (Nat -> Int32) -> (Nat -> Int32) -> Prop} {n27 : Int} (qL rX : Int32) (qM : Nat -> Int32) (aBH : 1 <= Int32.toInt qL /\ Int32.toInt qL <= 80) (aA2 : 0 <= Int32.toInt rX /\ Int32.toInt rX <= 40) (aAI : ∀ k : Nat, 0 <= Int32.toInt (qM k) /\ Int32.toInt (qM k) <= 65535) (hpost : ∀ (r : Int32) (aBS : Int32) (aNT : Int32) (aDA : Int32) (aFS : Int32) (aI6 : Int32) (aEO : Int32) (aCy : Int32) (aFD : Nat -> Int32) (ru_program' : Nat -> Int32) (aMl : Nat -> Int32), (0 <= Int32.toInt r /\ Int32.toInt r <= 1) -> (0 <= Int32.toInt aBS /\ Int32.toInt aBS <= 80) -> (0 <= Int32.toInt aNT /\ Int32.toInt aNT <= 40) -> (0 <= Int32.toInt aDA /\ Int32.toInt aDA <= 40) -> (0 <= Int32.toInt aFS /\ Int32.toInt aFS <= 40) -> (0 <= Int32.toInt aI6 /\ Int32.toInt aI6 <= 4) -> (0 <= Int32.toInt aEO /\ Int32.toInt aEO <= 31) -> (0 <= Int32.toInt aCy /\ Int32.toInt aCy <= 1) -> (∀ k : Nat, 0 <= Int32.toInt (aFD k) /\ Int32.toInt (aFD k) <= 256) -> post r aBS aNT aDA aFS aI6 aEO aCy aFD ru_program' aMl) (hKn : ∀ (x2 : Int32) (qJ : Int32) (pQ : Int32) (qI : Int32) (sY : Int32) (uG : Int32) (pY : Int32) (nJ : Int32) (tW : Nat -> Int32) (pN : Nat -> Int32) (uW : Nat -> Int32), (0 <= Int32.toInt x2 /\ Int32.toInt x2 <= 48) -> (0 <= Int32.toInt qJ /\ Int32.toInt qJ <= 80) -> (0 <= Int32.toInt pQ /\ Int32.toInt pQ <= 40) -> (0 <= Int32.toInt qI /\ Int32.toInt qI <= 40) -> (0 <= Int32.toInt sY /\ Int32.toInt sY <= 40) -> (0 <= Int32.toInt uG /\ Int32.toInt uG <= 4) -> (0 <= Int32.toInt pY /\ Int32.toInt pY <= 31) -> (0 <= Int32.toInt nJ /\ Int32.toInt nJ <= 1) -> (∀ k : Nat, 0 <= Int32.toInt (tW k) /\ Int32.toInt (tW k) <= 256) -> (48 - Int32.toInt x2 < n27) -> next x2 qJ pQ qI sY uG pY nJ tW pN uW) (x2 qJ pQ qI sY uG pY nJ : Int32) (tW pN uW : Nat -> Int32) (aBN : 0 <= Int32.toInt x2 /\ Int32.toInt x2 <= 48) (aA0 : 0 <= Int32.toInt qJ /\ Int32.toInt qJ <= 80) (zU : 0 <= Int32.toInt pQ /\ Int32.toInt pQ <= 40) (aA8 : 0 <= Int32.toInt qI /\ Int32.toInt qI <= 40) (aBi : 0 <= Int32.toInt sY /\ Int32.toInt sY <= 40) (aB6 : 0 <= Int32.toInt uG /\ Int32.toInt uG <= 4) (aBB : 0 <= Int32.toInt pY /\ Int32.toInt pY <= 31) (aAs : 0 <= Int32.toInt nJ /\ Int32.toInt nJ <= 1) (aAj : ∀ k : Nat, 0 <= Int32.toInt (tW k) /\ Int32.toInt (tW k) <= 256) (hn27 : 48 - Int32.toInt x2 <= n27) : ws_X7_read_27 post next qL rX qM x2 qJ pQ qI sY uG pY nJ tW pN uW := by
  have l0 := aI2
  have l1 := aE0
  have l2 := li_40
  refine And.intro (fun c9 => ?_) (fun c9 => ?_)
  · skip
    have c9 := (aAO _ _).mp c9
    exact ts_X7_read_75 qL rX qM aBH aA2 aAI hpost qJ pQ qI sY uG pY nJ tW pN uW aA0 zU aA8 aBi aB6 aBB aAs aAj
  · skip
    have c9 := mt (aAO _ _).mpr c9
    refine And.intro (fun c10 => ?_) (fun c10 => ?_)
    · skip
      have c10 := (aAO _ _).mp c10
      refine And.intro (fun _ => ?_) (fun h9 => absurd h9 (by decide))
      exact ts_X7_read_75 qL rX qM aBH aA2 aAI hpost qJ pQ qI sY uG pY nJ tW pN uW aA0 zU aA8 aBi aB6 aBB aAs aAj
    · skip
      have c10 := mt (aAO _ _).mpr c10
      refine And.intro (aBZ (by omega)) ?_
      intro v11 ev11
      have f12 := aAI qJ.toNatClampNeg
      have hv11 := congrArg Int32.toInt ev11
      refine And.intro (fun c13 => ?_) (fun c13 => ?_)
      · skip
        have c13 := (zJ _ _).mp c13
        exfalso; omega
      · skip
        have c13 := mt (zJ _ _).mpr c13
        refine And.intro (fun c14 => ?_) (fun c14 => ?_)
        · skip
          have c14 := (zJ _ _).mp c14
          refine t_X7_readBehindThing (by omega) (by omega) aAI aA8 aBi aB6 aBB (by omega) aAj (fun r23 tx_place_15 ru_drafted_16 ru_waits_17 ru_open_18 ru_compared_19 ru_wantsThing_20 ru_waiting_21 ru_draft_22 h_r23 h_tx_place_15 h_ru_drafted_16 h_ru_waits_17 h_ru_open_18 h_ru_compared_19 h_ru_wantsThing_20 h_ru_waiting_21 => ?_)
          refine And.intro (fun c24 => ?_) (fun c24 => ?_)
          · skip
            have c24 := mt (zJ _ _).mpr c24
            exact ts_X7_read_69 qL rX qM aBH aA2 aAI hpost hKn x2 tx_place_15 pQ ru_drafted_16 ru_waits_17 ru_open_18 ru_compared_19 ru_wantsThing_20 ru_waiting_21 pN ru_draft_22 (by omega) (by omega) zU h_ru_drafted_16 h_ru_waits_17 h_ru_open_18 h_ru_compared_19 h_ru_wantsThing_20 h_ru_waiting_21 hn27
          · skip
            have c24 := (zJ _ _).mp c24
            exact hpost _ _ _ _ _ _ _ _ _ _ _ (by omega) (by omega) zU h_ru_drafted_16 h_ru_waits_17 h_ru_open_18 h_ru_compared_19 h_ru_wantsThing_20 h_ru_waiting_21
        · skip
          have c14 := mt (zJ _ _).mpr c14
          refine t_X7_readThing (by omega) (by omega) aAI aA8 aBi aB6 aBB (by omega) aAj (fun r33 tx_place_25 ru_drafted_26 ru_waits_27 ru_open_28 ru_compared_29 ru_wantsThing_30 ru_waiting_31 ru_draft_32 h_r33 h_tx_place_25 h_ru_drafted_26 h_ru_waits_27 h_ru_open_28 h_ru_compared_29 h_ru_wantsThing_30 h_ru_waiting_31 => ?_)
          refine And.intro (fun c34 => ?_) (fun c34 => ?_)
          · skip
            have c34 := (zJ _ _).mp c34
            exact hpost _ _ _ _ _ _ _ _ _ _ _ (by omega) h_tx_place_25 zU h_ru_drafted_26 h_ru_waits_27 h_ru_open_28 h_ru_compared_29 h_ru_wantsThing_30 h_ru_waiting_31
          · skip
            have c34 := mt (zJ _ _).mpr c34
            exact ts_X7_read_69 qL rX qM aBH aA2 aAI hpost hKn x2 tx_place_25 pQ ru_drafted_26 ru_waits_27 ru_open_28 ru_compared_29 ru_wantsThing_30 ru_waiting_31 pN ru_draft_32 (by omega) h_tx_place_25 zU h_ru_drafted_26 h_ru_waits_27 h_ru_open_28 h_ru_compared_29 h_ru_wantsThing_30 h_ru_waiting_31 hn27
set_option maxHeartbeats 8000000 in
set_option maxRecDepth 200000 in
theorem tb_X7_read_27 {post : Int32 -> Int32 -> Int32 -> Int32 -> Int32 -> Int32 -> Int32 -> Int32 -> (Nat -> Int32) -> (Nat -> Int32) -> (Nat -> Int32) -> Prop} (qL rX : Int32) (qM : Nat -> Int32) (aBH : 1 <= Int32.toInt qL /\ Int32.toInt qL <= 80) (aA2 : 0 <= Int32.toInt rX /\ Int32.toInt rX <= 40) (aAI : ∀ k : Nat, 0 <= Int32.toInt (qM k) /\ Int32.toInt (qM k) <= 65535) (hpost : ∀ (r : Int32) (aBS : Int32) (aNT : Int32) (aDA : Int32) (aFS : Int32) (aI6 : Int32) (aEO : Int32) (aCy : Int32) (aFD : Nat -> Int32) (ru_program' : Nat -> Int32) (aMl : Nat -> Int32), (0 <= Int32.toInt r /\ Int32.toInt r <= 1) -> (0 <= Int32.toInt aBS /\ Int32.toInt aBS <= 80) -> (0 <= Int32.toInt aNT /\ Int32.toInt aNT <= 40) -> (0 <= Int32.toInt aDA /\ Int32.toInt aDA <= 40) -> (0 <= Int32.toInt aFS /\ Int32.toInt aFS <= 40) -> (0 <= Int32.toInt aI6 /\ Int32.toInt aI6 <= 4) -> (0 <= Int32.toInt aEO /\ Int32.toInt aEO <= 31) -> (0 <= Int32.toInt aCy /\ Int32.toInt aCy <= 1) -> (∀ k : Nat, 0 <= Int32.toInt (aFD k) /\ Int32.toInt (aFD k) <= 256) -> post r aBS aNT aDA aFS aI6 aEO aCy aFD ru_program' aMl) : ∀ (n : Nat) (x2 qJ pQ qI sY uG pY nJ : Int32) (tW pN uW : Nat -> Int32), (0 <= Int32.toInt x2 /\ Int32.toInt x2 <= 48) -> (0 <= Int32.toInt qJ /\ Int32.toInt qJ <= 80) -> (0 <= Int32.toInt pQ /\ Int32.toInt pQ <= 40) -> (0 <= Int32.toInt qI /\ Int32.toInt qI <= 40) -> (0 <= Int32.toInt sY /\ Int32.toInt sY <= 40) -> (0 <= Int32.toInt uG /\ Int32.toInt uG <= 4) -> (0 <= Int32.toInt pY /\ Int32.toInt pY <= 31) -> (0 <= Int32.toInt nJ /\ Int32.toInt nJ <= 1) -> (∀ k : Nat, 0 <= Int32.toInt (tW k) /\ Int32.toInt (tW k) <= 256) -> (48 - Int32.toInt x2 < (n : Int)) -> wb_X7_read_27 post qL rX qM n x2 qJ pQ qI sY uG pY nJ tW pN uW := by
  intro n
  induction n with
  | zero =>
    intro x2 qJ pQ qI sY uG pY nJ tW pN uW aBN aA0 zU aA8 aBi aB6 aBB aAs aAj hm
    exfalso; omega
  | succ n ih =>
    intro x2 qJ pQ qI sY uG pY nJ tW pN uW aBN aA0 zU aA8 aBi aB6 aBB aAs aAj hm
    exact ts_X7_read_27 qL rX qM aBH aA2 aAI hpost ih x2 qJ pQ qI sY uG pY nJ tW pN uW aBN aA0 zU aA8 aBi aB6 aBB aAs aAj (by omega)
set_option maxHeartbeats 8000000 in
set_option maxRecDepth 200000 in
theorem t_X7_read {post : Int32 -> Int32 -> Int32 -> Int32 -> Int32 -> Int32 -> Int32 -> Int32 -> (Nat -> Int32) -> (Nat -> Int32) -> (Nat -> Int32) -> Prop} {qL qJ rX : Int32} {qM : Nat -> Int32} {pQ qI sY uG pY nJ : Int32} {tW pN uW : Nat -> Int32} (aBH : 1 <= Int32.toInt qL /\ Int32.toInt qL <= 80) (aA0 : 0 <= Int32.toInt qJ /\ Int32.toInt qJ <= 0) (aA2 : 0 <= Int32.toInt rX /\ Int32.toInt rX <= 40) (aAI : ∀ k : Nat, 0 <= Int32.toInt (qM k) /\ Int32.toInt (qM k) <= 65535) (zU : 0 <= Int32.toInt pQ /\ Int32.toInt pQ <= 40) (aA8 : 0 <= Int32.toInt qI /\ Int32.toInt qI <= 40) (aBi : 0 <= Int32.toInt sY /\ Int32.toInt sY <= 40) (aB6 : 0 <= Int32.toInt uG /\ Int32.toInt uG <= 4) (aBB : 0 <= Int32.toInt pY /\ Int32.toInt pY <= 31) (aAs : 0 <= Int32.toInt nJ /\ Int32.toInt nJ <= 1) (aAj : ∀ k : Nat, 0 <= Int32.toInt (tW k) /\ Int32.toInt (tW k) <= 256) (hpost : ∀ (r : Int32) (aBS : Int32) (aNT : Int32) (aDA : Int32) (aFS : Int32) (aI6 : Int32) (aEO : Int32) (aCy : Int32) (aFD : Nat -> Int32) (ru_program' : Nat -> Int32) (aMl : Nat -> Int32), (0 <= Int32.toInt r /\ Int32.toInt r <= 1) -> (0 <= Int32.toInt aBS /\ Int32.toInt aBS <= 80) -> (0 <= Int32.toInt aNT /\ Int32.toInt aNT <= 40) -> (0 <= Int32.toInt aDA /\ Int32.toInt aDA <= 40) -> (0 <= Int32.toInt aFS /\ Int32.toInt aFS <= 40) -> (0 <= Int32.toInt aI6 /\ Int32.toInt aI6 <= 4) -> (0 <= Int32.toInt aEO /\ Int32.toInt aEO <= 31) -> (0 <= Int32.toInt aCy /\ Int32.toInt aCy <= 1) -> (∀ k : Nat, 0 <= Int32.toInt (aFD k) /\ Int32.toInt (aFD k) <= 256) -> post r aBS aNT aDA aFS aI6 aEO aCy aFD ru_program' aMl) : wp_X7_read post qL qJ rX qM pQ qI sY uG pY nJ tW pN uW := by
  have l0 := aE0
  have l1 := aEc
  exact ⟨50, tb_X7_read_27 qL rX qM aBH aA2 aAI hpost _ 0 qJ pQ 0 0 0 0 1 tW pN uW (by omega) (by omega) zU (by omega) (by omega) (by omega) (by omega) (by omega) aAj (by omega)⟩
set_option maxHeartbeats 8000000 in
set_option maxRecDepth 200000 in
theorem ts_X9_rule_59 {post : Int32 -> Int32 -> Int32 -> Int32 -> Int32 -> Int32 -> Int32 -> Int32 -> Int32 -> Int32 -> (Nat -> Int32) -> (Nat -> Int32) -> (Nat -> Int32) -> Prop} (qM : Nat -> Int32) (aAI : ∀ k : Nat, 0 <= Int32.toInt (qM k) /\ Int32.toInt (qM k) <= 65535) (hpost : ∀ (r : Int32) (aCZ : Int32) (aBS : Int32) (aGd : Int32) (aNT : Int32) (aDA : Int32) (aFS : Int32) (aI6 : Int32) (aEO : Int32) (aCy : Int32) (aFD : Nat -> Int32) (ru_program' : Nat -> Int32) (aMl : Nat -> Int32), (-100 <= Int32.toInt r /\ Int32.toInt r <= 0) -> (0 <= Int32.toInt aCZ /\ Int32.toInt aCZ <= 0) -> (0 <= Int32.toInt aBS /\ Int32.toInt aBS <= 80) -> (0 <= Int32.toInt aGd /\ Int32.toInt aGd <= 40) -> (0 <= Int32.toInt aNT /\ Int32.toInt aNT <= 40) -> (0 <= Int32.toInt aDA /\ Int32.toInt aDA <= 40) -> (0 <= Int32.toInt aFS /\ Int32.toInt aFS <= 40) -> (0 <= Int32.toInt aI6 /\ Int32.toInt aI6 <= 4) -> (0 <= Int32.toInt aEO /\ Int32.toInt aEO <= 31) -> (0 <= Int32.toInt aCy /\ Int32.toInt aCy <= 1) -> (∀ k : Nat, 0 <= Int32.toInt (aFD k) /\ Int32.toInt (aFD k) <= 256) -> post r aCZ aBS aGd aNT aDA aFS aI6 aEO aCy aFD ru_program' aMl) (x1 qL qJ rX pQ qI sY uG pY nJ : Int32) (tW pN uW : Nat -> Int32) (aBK : -100 <= Int32.toInt x1 /\ Int32.toInt x1 <= 0) (aBH : 0 <= Int32.toInt qL /\ Int32.toInt qL <= 80) (aA0 : 0 <= Int32.toInt qJ /\ Int32.toInt qJ <= 80) (aA2 : 0 <= Int32.toInt rX /\ Int32.toInt rX <= 40) (zU : 0 <= Int32.toInt pQ /\ Int32.toInt pQ <= 40) (aA8 : 0 <= Int32.toInt qI /\ Int32.toInt qI <= 40) (aBi : 0 <= Int32.toInt sY /\ Int32.toInt sY <= 40) (aB6 : 0 <= Int32.toInt uG /\ Int32.toInt uG <= 4) (aBB : 0 <= Int32.toInt pY /\ Int32.toInt pY <= 31) (aAs : 0 <= Int32.toInt nJ /\ Int32.toInt nJ <= 1) (aAj : ∀ k : Nat, 0 <= Int32.toInt (tW k) /\ Int32.toInt (tW k) <= 256) : ws_X9_rule_59 post qM x1 qL qJ rX pQ qI sY uG pY nJ tW pN uW := by
  have l0 := aE0
  exact hpost _ _ _ _ _ _ _ _ _ _ _ _ _ aBK (by omega) aA0 aA2 zU aA8 aBi aB6 aBB aAs aAj
set_option maxHeartbeats 8000000 in
set_option maxRecDepth 200000 in
theorem t_X9_rule {post : Int32 -> Int32 -> Int32 -> Int32 -> Int32 -> Int32 -> Int32 -> Int32 -> Int32 -> Int32 -> (Nat -> Int32) -> (Nat -> Int32) -> (Nat -> Int32) -> Prop} {qL qJ rX : Int32} {qM : Nat -> Int32} {pQ qI sY uG pY nJ : Int32} {tW pN uW : Nat -> Int32} (aBH : 0 <= Int32.toInt qL /\ Int32.toInt qL <= 80) (aA0 : 0 <= Int32.toInt qJ /\ Int32.toInt qJ <= 80) (aA2 : 0 <= Int32.toInt rX /\ Int32.toInt rX <= 80) (aAI : ∀ k : Nat, 0 <= Int32.toInt (qM k) /\ Int32.toInt (qM k) <= 65535) (zU : 0 <= Int32.toInt pQ /\ Int32.toInt pQ <= 40) (aA8 : 0 <= Int32.toInt qI /\ Int32.toInt qI <= 40) (aBi : 0 <= Int32.toInt sY /\ Int32.toInt sY <= 40) (aB6 : 0 <= Int32.toInt uG /\ Int32.toInt uG <= 4) (aBB : 0 <= Int32.toInt pY /\ Int32.toInt pY <= 31) (aAs : 0 <= Int32.toInt nJ /\ Int32.toInt nJ <= 1) (aAj : ∀ k : Nat, 0 <= Int32.toInt (tW k) /\ Int32.toInt (tW k) <= 256) (hpost : ∀ (r : Int32) (aCZ : Int32) (aBS : Int32) (aGd : Int32) (aNT : Int32) (aDA : Int32) (aFS : Int32) (aI6 : Int32) (aEO : Int32) (aCy : Int32) (aFD : Nat -> Int32) (ru_program' : Nat -> Int32) (aMl : Nat -> Int32), (-100 <= Int32.toInt r /\ Int32.toInt r <= 0) -> (0 <= Int32.toInt aCZ /\ Int32.toInt aCZ <= 0) -> (0 <= Int32.toInt aBS /\ Int32.toInt aBS <= 80) -> (0 <= Int32.toInt aGd /\ Int32.toInt aGd <= 40) -> (0 <= Int32.toInt aNT /\ Int32.toInt aNT <= 40) -> (0 <= Int32.toInt aDA /\ Int32.toInt aDA <= 40) -> (0 <= Int32.toInt aFS /\ Int32.toInt aFS <= 40) -> (0 <= Int32.toInt aI6 /\ Int32.toInt aI6 <= 4) -> (0 <= Int32.toInt aEO /\ Int32.toInt aEO <= 31) -> (0 <= Int32.toInt aCy /\ Int32.toInt aCy <= 1) -> (∀ k : Nat, 0 <= Int32.toInt (aFD k) /\ Int32.toInt (aFD k) <= 256) -> post r aCZ aBS aGd aNT aDA aFS aI6 aEO aCy aFD ru_program' aMl) : wp_X9_rule post qL qJ rX qM pQ qI sY uG pY nJ tW pN uW := by
  have l0 := aI2
  have l1 := aE0
  have l2 := li_40
  intro v1 ev1
  have f2 := ti_min qL (40 : Int32)
  have hv1 := congrArg Int32.toInt ev1
  refine And.intro (fun c3 => ?_) (fun c3 => ?_)
  · skip
    have c3 := mt (zJ _ _).mpr c3
    refine t_X7_read (by omega) (by omega) (by omega) aAI zU aA8 aBi aB6 aBB aAs aAj (fun r14 aDB ru_length_5 aW9 ru_waits_7 ru_open_8 ru_compared_9 aZc aVL ru_program_12 aSa h_r14 h_tx_place_4 h_ru_length_5 h_ru_drafted_6 h_ru_waits_7 h_ru_open_8 h_ru_compared_9 h_ru_wantsThing_10 h_ru_waiting_11 => ?_)
    refine And.intro (fun c15 => ?_) (fun c15 => ?_)
    · skip
      have c15 := mt (zJ _ _).mpr c15
      exact ts_X9_rule_59 qM aAI hpost 0 qL aDB v1 ru_length_5 aW9 ru_waits_7 ru_open_8 ru_compared_9 aZc aVL ru_program_12 aSa (by omega) aBH h_tx_place_4 (by omega) h_ru_length_5 h_ru_drafted_6 h_ru_waits_7 h_ru_open_8 h_ru_compared_9 h_ru_wantsThing_10 h_ru_waiting_11
    · skip
      have c15 := (zJ _ _).mp c15
      have f16 : Int32.toInt ((-1) - aDB) = Int32.toInt ((-1) : Int32) - Int32.toInt aDB := aCA _ _ (by omega)
      obtain ⟨w17, ew17⟩ : ∃ w9 : Int32, w9 = (-1) - aDB := ⟨_, rfl⟩
      rw [<- ew17] at f16
      have key9 := ts_X9_rule_59 qM aAI hpost w17 qL aDB v1 ru_length_5 aW9 ru_waits_7 ru_open_8 ru_compared_9 aZc aVL ru_program_12 aSa (by omega) aBH h_tx_place_4 (by omega) h_ru_length_5 h_ru_drafted_6 h_ru_waits_7 h_ru_open_8 h_ru_compared_9 h_ru_wantsThing_10 h_ru_waiting_11
      subst ew17
      exact key9
  · skip
    have c3 := (zJ _ _).mp c3
    exact ts_X9_rule_59 qM aAI hpost 0 qL 0 v1 0 qI sY uG pY nJ tW pN uW (by omega) aBH (by omega) (by omega) (by omega) aA8 aBi aB6 aBB aAs aAj
set_option maxHeartbeats 8000000 in
set_option maxRecDepth 200000 in
theorem ts_X3_lowerThan_89 {post : Int32 -> Prop} {K15 : Int32 -> Int32 -> Int32 -> Int32 -> Prop} {n15 : Int} (dN : Int32) (uU gF : Nat -> Int32) (xL : 1 <= Int32.toInt dN /\ Int32.toInt dN <= 16) (hpost : ∀ (r : Int32) , (0 <= Int32.toInt r /\ Int32.toInt r <= 65535) -> post r) (hK15 : ∀ (x1 : Int32) (x2 : Int32) (x3 : Int32) (x4 : Int32), (0 <= Int32.toInt x1 /\ Int32.toInt x1 <= 15) -> (0 <= Int32.toInt x2 /\ Int32.toInt x2 <= 65535) -> (0 <= Int32.toInt x3 /\ Int32.toInt x3 <= 65535) -> (0 <= Int32.toInt x4 /\ Int32.toInt x4 <= 16) -> (16 - Int32.toInt x4 < n15) -> K15 x1 x2 x3 x4) (x1 x2 x3 x4 : Int32) (aBK : 0 <= Int32.toInt x1 /\ Int32.toInt x1 <= 15) (aBN : 0 <= Int32.toInt x2 /\ Int32.toInt x2 <= 65535) (aCH : 0 <= Int32.toInt x3 /\ Int32.toInt x3 <= 65535) (aDO : 0 <= Int32.toInt x4 /\ Int32.toInt x4 <= 15) (hn15 : 16 - Int32.toInt x4 <= n15) : aPW post K15 dN uU gF x1 x2 x3 x4 := by
  have l0 := aEc
  intro v1 ev1
  have f2 : Int32.toInt (x4 + 1) = Int32.toInt x4 + Int32.toInt (1 : Int32) := aAD _ _ (by omega)
  rw [<- ev1] at f2
  exact hK15 x1 x2 x3 v1 aBK aBN aCH (by omega) (by omega)
set_option maxHeartbeats 8000000 in
set_option maxRecDepth 200000 in
theorem ts_X3_lowerThan_66 {post : Int32 -> Prop} {K15 : Int32 -> Int32 -> Int32 -> Int32 -> Prop} {n15 : Int} (dN : Int32) (uU gF : Nat -> Int32) (xL : 1 <= Int32.toInt dN /\ Int32.toInt dN <= 16) (hpost : ∀ (r : Int32) , (0 <= Int32.toInt r /\ Int32.toInt r <= 65535) -> post r) (hK15 : ∀ (x1 : Int32) (x2 : Int32) (x3 : Int32) (x4 : Int32), (0 <= Int32.toInt x1 /\ Int32.toInt x1 <= 15) -> (0 <= Int32.toInt x2 /\ Int32.toInt x2 <= 65535) -> (0 <= Int32.toInt x3 /\ Int32.toInt x3 <= 65535) -> (0 <= Int32.toInt x4 /\ Int32.toInt x4 <= 16) -> (16 - Int32.toInt x4 < n15) -> K15 x1 x2 x3 x4) (x1 x2 x3 x4 k0 : Int32) (aBK : 0 <= Int32.toInt x1 /\ Int32.toInt x1 <= 15) (aBN : 0 <= Int32.toInt x2 /\ Int32.toInt x2 <= 65535) (aCH : 0 <= Int32.toInt x3 /\ Int32.toInt x3 <= 65535) (aDO : 0 <= Int32.toInt x4 /\ Int32.toInt x4 <= 15) (h_k0 : 0 <= Int32.toInt k0 /\ Int32.toInt k0 <= 1) (hn15 : 16 - Int32.toInt x4 <= n15) : ws_X3_lowerThan_66 post K15 dN uU gF x1 x2 x3 x4 k0 := by
  have l0 := aE0
  have l1 := aEc
  refine And.intro (fun c3 => ?_) (fun c3 => ?_)
  · skip
    have c3 := (zJ _ _).mp c3
    exact ts_X3_lowerThan_89 dN uU gF xL hpost hK15 x1 x2 x3 x4 aBK aBN aCH aDO hn15
  · skip
    have c3 := mt (zJ _ _).mpr c3
    intro v4 ev4
    have f5 := aRJ x2 x4 (by omega)
    have hv4 := congrArg Int32.toInt ev4
    have f7 := aAQ v4 1 (by omega)
    have f8 := aBx v4 1 (by omega)
    refine And.intro (fun c6 => ?_) (fun c6 => ?_)
    · skip
      have c6 := (zJ _ _).mp c6
      exact ts_X3_lowerThan_89 dN uU gF xL hpost hK15 x1 x2 x3 x4 aBK aBN aCH aDO hn15
    · skip
      have c6 := mt (zJ _ _).mpr c6
      intro v9 ev9
      have f11 := aDv 15 32768 x4 (by decide) (by omega)
      have f10 := ti_or 16 65536 x3 (1 <<< (x4 &&& 31)) (by decide) (by omega) (by omega)
      have hv9 := congrArg Int32.toInt ev9
      exact ts_X3_lowerThan_89 dN uU gF xL hpost hK15 x1 x2 v9 x4 aBK aBN (by omega) aDO hn15
set_option maxHeartbeats 8000000 in
set_option maxRecDepth 200000 in
theorem ts_X3_lowerThan_65 {post : Int32 -> Prop} {K15 : Int32 -> Int32 -> Int32 -> Int32 -> Prop} {n15 : Int} (dN : Int32) (uU gF : Nat -> Int32) (xL : 1 <= Int32.toInt dN /\ Int32.toInt dN <= 16) (hpost : ∀ (r : Int32) , (0 <= Int32.toInt r /\ Int32.toInt r <= 65535) -> post r) (hK15 : ∀ (x1 : Int32) (x2 : Int32) (x3 : Int32) (x4 : Int32), (0 <= Int32.toInt x1 /\ Int32.toInt x1 <= 15) -> (0 <= Int32.toInt x2 /\ Int32.toInt x2 <= 65535) -> (0 <= Int32.toInt x3 /\ Int32.toInt x3 <= 65535) -> (0 <= Int32.toInt x4 /\ Int32.toInt x4 <= 16) -> (16 - Int32.toInt x4 < n15) -> K15 x1 x2 x3 x4) (x1 x2 x3 x4 : Int32) (aBK : 0 <= Int32.toInt x1 /\ Int32.toInt x1 <= 15) (aBN : 0 <= Int32.toInt x2 /\ Int32.toInt x2 <= 65535) (aCH : 0 <= Int32.toInt x3 /\ Int32.toInt x3 <= 65535) (aDO : 0 <= Int32.toInt x4 /\ Int32.toInt x4 <= 15) (hn15 : 16 - Int32.toInt x4 <= n15) : ws_X3_lowerThan_65 post K15 dN uU gF x1 x2 x3 x4 := by
  have l0 := aE0
  exact ts_X3_lowerThan_66 dN uU gF xL hpost hK15 x1 x2 x3 x4 0 aBK aBN aCH aDO (by omega) hn15
set_option maxHeartbeats 8000000 in
set_option maxRecDepth 200000 in
theorem ts_X3_lowerThan_15 {post : Int32 -> Prop} {next : Int32 -> Int32 -> Int32 -> Int32 -> Prop} {n15 : Int} (dN : Int32) (uU gF : Nat -> Int32) (xL : 1 <= Int32.toInt dN /\ Int32.toInt dN <= 16) (hpost : ∀ (r : Int32) , (0 <= Int32.toInt r /\ Int32.toInt r <= 65535) -> post r) (hKn : ∀ (x1 : Int32) (x2 : Int32) (x3 : Int32) (x4 : Int32), (0 <= Int32.toInt x1 /\ Int32.toInt x1 <= 15) -> (0 <= Int32.toInt x2 /\ Int32.toInt x2 <= 65535) -> (0 <= Int32.toInt x3 /\ Int32.toInt x3 <= 65535) -> (0 <= Int32.toInt x4 /\ Int32.toInt x4 <= 16) -> (16 - Int32.toInt x4 < n15) -> next x1 x2 x3 x4) (x1 x2 x3 x4 : Int32) (aBK : 0 <= Int32.toInt x1 /\ Int32.toInt x1 <= 15) (aBN : 0 <= Int32.toInt x2 /\ Int32.toInt x2 <= 65535) (aCH : 0 <= Int32.toInt x3 /\ Int32.toInt x3 <= 65535) (aDO : 0 <= Int32.toInt x4 /\ Int32.toInt x4 <= 16) (hn15 : 16 - Int32.toInt x4 <= n15) : ws_X3_lowerThan_15 post next dN uU gF x1 x2 x3 x4 := by
  have l0 := aEc
  refine And.intro (fun c12 => ?_) (fun c12 => ?_)
  · skip
    have c12 := (aAO _ _).mp c12
    exact hpost _ aCH
  · skip
    have c12 := mt (aAO _ _).mpr c12
    refine And.intro (aBZ (by omega)) ?_
    intro v13 ev13
    have hv13 := congrArg Int32.toInt ev13
    refine And.intro (aBZ (by omega)) ?_
    intro v15 ev15
    have hv15 := congrArg Int32.toInt ev15
    intro v17 ev17
    have hv17 := congrArg Int32.toInt ev17
    have f20 := aAT v17
    refine And.intro (fun c19 => ?_) (fun c19 => ?_)
    · skip
      have c19 := (aAd _ _).mp c19
      exact ts_X3_lowerThan_65 dN uU gF xL hpost hKn x1 x2 x3 x4 aBK aBN aCH (by omega) hn15
    · skip
      have c19 := mt (aAd _ _).mpr c19
      refine And.intro (aBZ (by omega)) ?_
      intro v21 ev21
      have hv21 := congrArg Int32.toInt ev21
      refine And.intro (aBZ (by omega)) ?_
      have f24 := aAT v21
      refine And.intro (fun c23 => ?_) (fun c23 => ?_)
      · skip
        have c23 := (aAO _ _).mp c23
        exact ts_X3_lowerThan_65 dN uU gF xL hpost hKn x1 x2 x3 x4 aBK aBN aCH (by omega) hn15
      · skip
        have c23 := mt (aAO _ _).mpr c23
        exact ts_X3_lowerThan_66 dN uU gF xL hpost hKn x1 x2 x3 x4 1 aBK aBN aCH (by omega) (by omega) hn15
set_option maxHeartbeats 8000000 in
set_option maxRecDepth 200000 in
theorem tb_X3_lowerThan_15 {post : Int32 -> Prop} (dN : Int32) (uU gF : Nat -> Int32) (xL : 1 <= Int32.toInt dN /\ Int32.toInt dN <= 16) (hpost : ∀ (r : Int32) , (0 <= Int32.toInt r /\ Int32.toInt r <= 65535) -> post r) : ∀ (n : Nat) (x1 x2 x3 x4 : Int32), (0 <= Int32.toInt x1 /\ Int32.toInt x1 <= 15) -> (0 <= Int32.toInt x2 /\ Int32.toInt x2 <= 65535) -> (0 <= Int32.toInt x3 /\ Int32.toInt x3 <= 65535) -> (0 <= Int32.toInt x4 /\ Int32.toInt x4 <= 16) -> (16 - Int32.toInt x4 < (n : Int)) -> wb_X3_lowerThan_15 post dN uU gF n x1 x2 x3 x4 := by
  intro n
  induction n with
  | zero =>
    intro x1 x2 x3 x4 aBK aBN aCH aDO hm
    exfalso; omega
  | succ n ih =>
    intro x1 x2 x3 x4 aBK aBN aCH aDO hm
    exact ts_X3_lowerThan_15 dN uU gF xL hpost ih x1 x2 x3 x4 aBK aBN aCH aDO (by omega)
set_option maxHeartbeats 8000000 in
set_option maxRecDepth 200000 in
theorem t_X3_lowerThan {post : Int32 -> Prop} {p0 p1 dN : Int32} {uU gF : Nat -> Int32} (h_p0 : 0 <= Int32.toInt p0 /\ Int32.toInt p0 <= 15) (h_p1 : 0 <= Int32.toInt p1 /\ Int32.toInt p1 <= 65535) (xL : 1 <= Int32.toInt dN /\ Int32.toInt dN <= 16) (hpost : ∀ (r : Int32) , (0 <= Int32.toInt r /\ Int32.toInt r <= 65535) -> post r) : bA6 post p0 p1 dN uU gF := by
  have l0 := aE0
  have l1 := aEc
  intro v26 ev26
  have f27 := aRJ p1 p0 (by omega)
  have hv26 := congrArg Int32.toInt ev26
  have f29 := aAQ v26 1 (by omega)
  have f30 := aBx v26 1 (by omega)
  refine And.intro (fun c28 => ?_) (fun c28 => ?_)
  · skip
    have c28 := mt (zJ _ _).mpr c28
    exact ⟨18, tb_X3_lowerThan_15 dN uU gF xL hpost _ p0 p1 0 0 h_p0 h_p1 (by omega) (by omega) (by omega)⟩
  · skip
    have c28 := (zJ _ _).mp c28
    exact hpost _ (by omega)
set_option maxHeartbeats 8000000 in
set_option maxRecDepth 200000 in
theorem t_X9_fruit {post : Int32 -> Prop} {postx : Prop} {p0 p1 dN : Int32} {uU gF pL qF : Nat -> Int32} {jE eW eY dU : Int32} (xL : 0 <= Int32.toInt dN /\ Int32.toInt dN <= 16) (hpost : ∀ (r : Int32) , post r) (hpx : postx) : wp_X9_fruit post postx p0 p1 dN uU gF pL qF jE eW eY dU := by
  have l0 := aE0
  have l1 := aEc
  have l2 := li_2
  have l3 := li_3
  have l4 := li_4
  have l5 := li_5
  have l6 := li_6
  have f2 := aAT p0
  refine And.intro (fun c1 => ?_) (fun c1 => ?_)
  · skip
    have c1 := (aAd _ _).mp c1
    refine And.intro (fun h9 => absurd h9 (by decide)) (fun _ => ?_)
    exact hpx
  · skip
    have c1 := mt (aAd _ _).mpr c1
    refine And.intro (fun c3 => ?_) (fun c3 => ?_)
    · skip
      have c3 := (aAO _ _).mp c3
      refine And.intro (fun h9 => absurd h9 (by decide)) (fun _ => ?_)
      exact hpx
    · skip
      have c3 := mt (aAO _ _).mpr c3
      refine And.intro (fun _ => ?_) (fun h9 => absurd h9 (by decide))
      have f4 := aAT p1
      refine And.intro (fun c5 => ?_) ?_
      · skip
        have c5 := (zJ _ _).mp c5
        refine And.intro (aBZ (by omega)) ?_
        exact hpost _ 
      refine And.intro (fun c6 => ?_) ?_
      · skip
        have c6 := (zJ _ _).mp c6
        refine And.intro (aBZ (by omega)) ?_
        exact hpost _ 
      refine And.intro (fun c7 => ?_) ?_
      · skip
        have c7 := (zJ _ _).mp c7
        refine And.intro (aBZ (by omega)) ?_
        exact hpost _ 
      refine And.intro (fun c8 => ?_) ?_
      · skip
        have c8 := (zJ _ _).mp c8
        refine And.intro (aBZ (by omega)) ?_
        exact hpost _ 
      refine And.intro (fun c9 => ?_) ?_
      · skip
        have c9 := (zJ _ _).mp c9
        intro v10 ev10
        intro v11 ev11
        have f12 := aAQ v10 1 (by omega)
        have hv11 := congrArg Int32.toInt ev11
        intro v13 ev13
        intro v14 ev14
        have f17 := aAQ v13 1 (by omega)
        have f16 : Int32.toInt (2 * (v13 &&& 1)) = Int32.toInt (v13 &&& 1) * 2 := ta_cmul _ _ (by decide) (by omega)
        have f15 : Int32.toInt (v11 + (2 * (v13 &&& 1))) = Int32.toInt v11 + Int32.toInt (2 * (v13 &&& 1)) := aAD _ _ (by omega)
        rw [<- ev14] at f15
        intro v18 ev18
        exact hpost _ 
      refine And.intro (fun c19 => ?_) ?_
      · skip
        have c19 := (zJ _ _).mp c19
        intro v20 ev20
        exact hpost _ 
      refine And.intro (fun c21 => ?_) ?_
      · skip
        have c21 := (zJ _ _).mp c21
        intro v22 ev22
        have f23 := aDv 16 65536 dN (by decide) (by omega)
        have hv22 := congrArg Int32.toInt ev22
        intro v24 ev24
        intro v25 ev25
        have f28 : Int32.toInt (v22 - 1) = Int32.toInt v22 - Int32.toInt (1 : Int32) := aCA _ _ (by omega)
        have f29 := aBx (v22 - 1) (v25 ^^^ (-1)) (by omega)
        refine t_X3_lowerThan (by omega) (by omega) (by omega) (fun r26 h_r26 => ?_)
        exact hpost _ 
      intro c30 c31 c32 c33 c34 c35 c36
      have c30 := mt (zJ _ _).mpr c30
      have c31 := mt (zJ _ _).mpr c31
      have c32 := mt (zJ _ _).mpr c32
      have c33 := mt (zJ _ _).mpr c33
      have c34 := mt (zJ _ _).mpr c34
      have c35 := mt (zJ _ _).mpr c35
      have c36 := mt (zJ _ _).mpr c36
      exact hpx
set_option maxHeartbeats 8000000 in
set_option maxRecDepth 200000 in
theorem t_X9_standing {post : Int32 -> Prop} {postx : Prop} {p0 p1 bD : Int32} {mX oE : Nat -> Int32} (wX : 0 <= Int32.toInt bD /\ Int32.toInt bD <= 8) (hpost : ∀ (r : Int32) , post r) (hpx : postx) : wp_X9_standing post postx p0 p1 bD mX oE := by
  have l0 := aE0
  have l1 := aEc
  have l2 := li_2
  have f2 := aAT p0
  refine And.intro (fun c1 => ?_) (fun c1 => ?_)
  · skip
    have c1 := (aAd _ _).mp c1
    refine And.intro (fun h9 => absurd h9 (by decide)) (fun _ => ?_)
    exact hpx
  · skip
    have c1 := mt (aAd _ _).mpr c1
    refine And.intro (fun c3 => ?_) (fun c3 => ?_)
    · skip
      have c3 := (aAO _ _).mp c3
      refine And.intro (fun h9 => absurd h9 (by decide)) (fun _ => ?_)
      exact hpx
    · skip
      have c3 := mt (aAO _ _).mpr c3
      refine And.intro (fun _ => ?_) (fun h9 => absurd h9 (by decide))
      have f4 := aAT p1
      refine And.intro (fun c5 => ?_) ?_
      · skip
        have c5 := (zJ _ _).mp c5
        refine And.intro (aBZ (by omega)) ?_
        exact hpost _ 
      refine And.intro (fun c6 => ?_) ?_
      · skip
        have c6 := (zJ _ _).mp c6
        refine And.intro (aBZ (by omega)) ?_
        exact hpost _ 
      refine And.intro (fun c7 => ?_) ?_
      · skip
        have c7 := (zJ _ _).mp c7
        refine And.intro (aBZ (by omega)) ?_
        intro v8 ev8
        have hv8 := congrArg Int32.toInt ev8
        intro v10 ev10
        have hv10 := congrArg Int32.toInt ev10
        exact hpost _ 
      intro c12 c13 c14
      have c12 := mt (zJ _ _).mpr c12
      have c13 := mt (zJ _ _).mpr c13
      have c14 := mt (zJ _ _).mpr c14
      exact hpx
set_option maxHeartbeats 8000000 in
set_option maxRecDepth 200000 in
theorem t_X9_set {post : Int32 -> (Nat -> Int32) -> Prop} {p0 p1 : Int32} {dY : Nat -> Int32} (hpost : ∀ (r : Int32) (tr_settings' : Nat -> Int32), post r tr_settings') : wp_X9_set post p0 p1 dY := by
  have l0 := aE0
  have l1 := li_4
  have f2 := aAT p0
  refine And.intro (fun c1 => ?_) (fun c1 => ?_)
  · skip
    have c1 := (aAd _ _).mp c1
    exact hpost _ _ 
  · skip
    have c1 := mt (aAd _ _).mpr c1
    refine And.intro (fun c3 => ?_) (fun c3 => ?_)
    · skip
      have c3 := (aAd _ _).mp c3
      exact hpost _ _ 
    · skip
      have c3 := mt (aAd _ _).mpr c3
      refine And.intro (aBZ (by omega)) ?_
      have f5 := aAT p1
      refine And.intro (fun c4 => ?_) (fun c4 => ?_)
      · skip
        have c4 := (aAd _ _).mp c4
        exact hpost _ _ 
      · skip
        have c4 := mt (aAd _ _).mpr c4
        refine And.intro (aBZ (by omega)) ?_
        refine And.intro (fun c7 => ?_) (fun c7 => ?_)
        · skip
          have c7 := (aAO _ _).mp c7
          refine And.intro (aBZ (by omega)) ?_
          intro v9 ev9
          have hv9 := congrArg Int32.toInt ev9
          refine And.intro (aBZ (by omega)) ?_
          exact hpost _ _ 
        · skip
          have c7 := mt (aAO _ _).mpr c7
          exact hpost _ _ 
set_option maxHeartbeats 8000000 in
set_option maxRecDepth 200000 in
theorem ts_X3_fillWorths_70 {post : Int32 -> (Nat -> Int32) -> Prop} {K9 : Int32 -> Int32 -> Int32 -> Int32 -> Int32 -> Int32 -> (Nat -> Int32) -> Prop} {n9 : Int} (dN : Int32) (xL : 0 <= Int32.toInt dN /\ Int32.toInt dN <= 16) (hpost : ∀ (r : Int32) (aJW : Nat -> Int32), post r aJW) (hK9 : ∀ (x1 : Int32) (x2 : Int32) (x4 : Int32) (x5 : Int32) (x6 : Int32) (x7 : Int32) (pL : Nat -> Int32), (0 <= Int32.toInt x1 /\ Int32.toInt x1 <= 2) -> (0 <= Int32.toInt x2 /\ Int32.toInt x2 <= 16) -> (0 <= Int32.toInt x7 /\ Int32.toInt x7 <= 16) -> (16 - Int32.toInt x7 < n9) -> K9 x1 x2 x4 x5 x6 x7 pL) (x1 x2 x4 x5 x6 x7 k1 k2 : Int32) (pL : Nat -> Int32) (aBK : 0 <= Int32.toInt x1 /\ Int32.toInt x1 <= 2) (aBN : 0 <= Int32.toInt x2 /\ Int32.toInt x2 <= 16) (h_x7 : 0 <= Int32.toInt x7 /\ Int32.toInt x7 <= 15) (h_k1 : 0 <= Int32.toInt k1 /\ Int32.toInt k1 <= 15) (h_k2 : 0 <= Int32.toInt k2 /\ Int32.toInt k2 <= 9) (hn9 : 16 - Int32.toInt x7 <= n9) : aRF post K9 dN x1 x2 x4 x5 x6 x7 k1 k2 pL := by
  have l0 := aEc
  refine And.intro (aBZ (by omega)) ?_
  refine And.intro (aBZ (by omega)) ?_
  intro v1 ev1
  have hv1 := congrArg Int32.toInt ev1
  intro v3 ev3
  have hv3 := congrArg Int32.toInt ev3
  intro v5 ev5
  have f6 : Int32.toInt (x7 + 1) = Int32.toInt x7 + Int32.toInt (1 : Int32) := aAD _ _ (by omega)
  rw [<- ev5] at f6
  have f7 := aAT x4
  have f8 := aAT v1
  have f9 := aAT v3
  exact hK9 x1 x2 x4 v1 v3 v5 (upd pL k1.toNatClampNeg k2) aBK aBN (by omega) (by omega)
set_option maxHeartbeats 8000000 in
set_option maxRecDepth 200000 in
theorem ts_X3_fillWorths_41 {post : Int32 -> (Nat -> Int32) -> Prop} {K9 : Int32 -> Int32 -> Int32 -> Int32 -> Int32 -> Int32 -> (Nat -> Int32) -> Prop} {n9 : Int} (dN : Int32) (xL : 0 <= Int32.toInt dN /\ Int32.toInt dN <= 16) (hpost : ∀ (r : Int32) (aJW : Nat -> Int32), post r aJW) (hK9 : ∀ (x1 : Int32) (x2 : Int32) (x4 : Int32) (x5 : Int32) (x6 : Int32) (x7 : Int32) (pL : Nat -> Int32), (0 <= Int32.toInt x1 /\ Int32.toInt x1 <= 2) -> (0 <= Int32.toInt x2 /\ Int32.toInt x2 <= 16) -> (0 <= Int32.toInt x7 /\ Int32.toInt x7 <= 16) -> (16 - Int32.toInt x7 < n9) -> K9 x1 x2 x4 x5 x6 x7 pL) (x1 x2 x4 x5 x6 x7 k0 : Int32) (pL : Nat -> Int32) (aBK : 0 <= Int32.toInt x1 /\ Int32.toInt x1 <= 2) (aBN : 0 <= Int32.toInt x2 /\ Int32.toInt x2 <= 16) (h_x7 : 0 <= Int32.toInt x7 /\ Int32.toInt x7 <= 15) (hn9 : 16 - Int32.toInt x7 <= n9) : aXE post K9 dN x1 x2 x4 x5 x6 x7 k0 pL := by
  have l0 := aE0
  have l1 := li_9
  refine And.intro (fun c10 => ?_) (fun c10 => ?_)
  · skip
    have c10 := (aAO _ _).mp c10
    have f11 := aAT x4
    have f12 := aAT x5
    have f13 := aAT x6
    exact ts_X3_fillWorths_70 dN xL hpost hK9 x1 x2 x4 x5 x6 x7 x7 0 pL aBK aBN h_x7 h_x7 (by omega) hn9
  · skip
    have c10 := mt (aAO _ _).mpr c10
    intro v14 ev14
    have f15 := aAT (if k0 < 9 then k0 else 9)
    have f17 := aAT k0
    have f16 := ti_min (9 : Int32) k0
    have hv14 := congrArg Int32.toInt ev14
    intro v18 ev18
    have f20 := aAT v14
    have f19 := ti_max (0 : Int32) v14
    have hv18 := congrArg Int32.toInt ev18
    have f21 := aAT x4
    have f22 := aAT x5
    have f23 := aAT x6
    exact ts_X3_fillWorths_70 dN xL hpost hK9 x1 x2 x4 x5 x6 x7 x7 v18 pL aBK aBN h_x7 h_x7 (by omega) hn9
set_option maxHeartbeats 8000000 in
set_option maxRecDepth 200000 in
theorem ts_X3_fillWorths_9 {post : Int32 -> (Nat -> Int32) -> Prop} {next : Int32 -> Int32 -> Int32 -> Int32 -> Int32 -> Int32 -> (Nat -> Int32) -> Prop} {n9 : Int} (dN : Int32) (xL : 0 <= Int32.toInt dN /\ Int32.toInt dN <= 16) (hpost : ∀ (r : Int32) (aJW : Nat -> Int32), post r aJW) (hKn : ∀ (x1 : Int32) (x2 : Int32) (x4 : Int32) (x5 : Int32) (x6 : Int32) (x7 : Int32) (pL : Nat -> Int32), (0 <= Int32.toInt x1 /\ Int32.toInt x1 <= 2) -> (0 <= Int32.toInt x2 /\ Int32.toInt x2 <= 16) -> (0 <= Int32.toInt x7 /\ Int32.toInt x7 <= 16) -> (16 - Int32.toInt x7 < n9) -> next x1 x2 x4 x5 x6 x7 pL) (x1 x2 x4 x5 x6 x7 : Int32) (pL : Nat -> Int32) (aBK : 0 <= Int32.toInt x1 /\ Int32.toInt x1 <= 2) (aBN : 0 <= Int32.toInt x2 /\ Int32.toInt x2 <= 16) (h_x7 : 0 <= Int32.toInt x7 /\ Int32.toInt x7 <= 16) (hn9 : 16 - Int32.toInt x7 <= n9) : ws_X3_fillWorths_9 post next dN x1 x2 x4 x5 x6 x7 pL := by
  have l0 := aE0
  have l1 := aEc
  refine And.intro (fun c24 => ?_) (fun c24 => ?_)
  · skip
    have c24 := (aAO _ _).mp c24
    exact hpost _ _ 
  · skip
    have c24 := mt (aAO _ _).mpr c24
    refine And.intro (fun c25 => ?_) (fun c25 => ?_)
    · skip
      have c25 := mt (zJ _ _).mpr c25
      refine And.intro (fun c26 => ?_) (fun c26 => ?_)
      · skip
        have c26 := mt (zJ _ _).mpr c26
        have f27 := aAT x4
        have f28 := aAT x5
        have f29 := aAT x6
        exact ts_X3_fillWorths_41 dN xL hpost hKn x1 x2 x4 x5 x6 x7 x6 pL aBK aBN (by omega) hn9
      · skip
        have c26 := (zJ _ _).mp c26
        intro v30 ev30
        have hv30 := ti_i2s x6
        rw [<- ev30] at hv30
        have f31 := aAT x4
        have f32 := aAT x5
        have f33 := aAT x6
        exact ts_X3_fillWorths_41 dN xL hpost hKn x1 x2 x4 x5 x6 x7 v30 pL aBK aBN (by omega) hn9
    · skip
      have c25 := (zJ _ _).mp c25
      intro v34 ev34
      have hv34 := ti_i2b x6
      rw [<- ev34] at hv34
      have f35 := aAT x4
      have f36 := aAT x5
      have f37 := aAT x6
      exact ts_X3_fillWorths_41 dN xL hpost hKn x1 x2 x4 x5 x6 x7 v34 pL aBK aBN (by omega) hn9
set_option maxHeartbeats 8000000 in
set_option maxRecDepth 200000 in
theorem tb_X3_fillWorths_9 {post : Int32 -> (Nat -> Int32) -> Prop} (dN : Int32) (xL : 0 <= Int32.toInt dN /\ Int32.toInt dN <= 16) (hpost : ∀ (r : Int32) (aJW : Nat -> Int32), post r aJW) : ∀ (n : Nat) (x1 x2 x4 x5 x6 x7 : Int32) (pL : Nat -> Int32), (0 <= Int32.toInt x1 /\ Int32.toInt x1 <= 2) -> (0 <= Int32.toInt x2 /\ Int32.toInt x2 <= 16) -> (0 <= Int32.toInt x7 /\ Int32.toInt x7 <= 16) -> (16 - Int32.toInt x7 < (n : Int)) -> wb_X3_fillWorths_9 post dN n x1 x2 x4 x5 x6 x7 pL := by
  intro n
  induction n with
  | zero =>
    intro x1 x2 x4 x5 x6 x7 pL aBK aBN h_x7 hm
    exfalso; omega
  | succ n ih =>
    intro x1 x2 x4 x5 x6 x7 pL aBK aBN h_x7 hm
    exact ts_X3_fillWorths_9 dN xL hpost ih x1 x2 x4 x5 x6 x7 pL aBK aBN h_x7 (by omega)
set_option maxHeartbeats 8000000 in
set_option maxRecDepth 200000 in
theorem t_X3_fillWorths {post : Int32 -> (Nat -> Int32) -> Prop} {p0 p1 p2 p3 dN : Int32} {pL : Nat -> Int32} (h_p0 : 0 <= Int32.toInt p0 /\ Int32.toInt p0 <= 2) (h_p1 : 0 <= Int32.toInt p1 /\ Int32.toInt p1 <= 16) (xL : 0 <= Int32.toInt dN /\ Int32.toInt dN <= 16) (hpost : ∀ (r : Int32) (aJW : Nat -> Int32), post r aJW) : bCX post p0 p1 p2 p3 dN pL := by
  have l0 := aE0
  have f38 := aAT p3
  have f39 := aAT p2
  exact ⟨18, tb_X3_fillWorths_9 dN xL hpost _ p0 p1 p3 0 p2 0 pL h_p0 h_p1 (by omega) (by omega)⟩
set_option maxHeartbeats 8000000 in
set_option maxRecDepth 200000 in
theorem t_X9_sheet {post : Int32 -> (Nat -> Int32) -> Prop} {p0 p1 p2 p3 dN : Int32} {pL : Nat -> Int32} (xL : 0 <= Int32.toInt dN /\ Int32.toInt dN <= 16) (hpost : ∀ (r : Int32) (aJW : Nat -> Int32), post r aJW) : wp_X9_sheet post p0 p1 p2 p3 dN pL := by
  have l0 := aE0
  have l1 := li_16
  have l2 := li_2
  have l3 := li_3
  have f2 := aAT p0
  refine And.intro (fun c1 => ?_) (fun c1 => ?_)
  · skip
    have c1 := (aAd _ _).mp c1
    exact hpost _ _ 
  · skip
    have c1 := mt (aAd _ _).mpr c1
    refine And.intro (fun c3 => ?_) (fun c3 => ?_)
    · skip
      have c3 := (aAd _ _).mp c3
      exact hpost _ _ 
    · skip
      have c3 := mt (aAd _ _).mpr c3
      have f5 := aAT p1
      refine And.intro (fun c4 => ?_) (fun c4 => ?_)
      · skip
        have c4 := (aAO _ _).mp c4
        refine And.intro (fun c6 => ?_) (fun c6 => ?_)
        · skip
          have c6 := mt (zJ _ _).mpr c6
          refine And.intro (fun c7 => ?_) (fun c7 => ?_)
          · skip
            have c7 := (aAO _ _).mp c7
            refine t_X3_fillWorths (by omega) (by omega) xL (fun r9 tr_worth_8 => ?_)
            exact hpost _ _ 
          · skip
            have c7 := mt (aAO _ _).mpr c7
            exact hpost _ _ 
        · skip
          have c6 := (zJ _ _).mp c6
          refine t_X3_fillWorths (by omega) (by omega) xL (fun r11 tr_worth_10 => ?_)
          exact hpost _ _ 
      · skip
        have c4 := mt (aAO _ _).mpr c4
        exact hpost _ _ 
set_option maxHeartbeats 8000000 in
set_option maxRecDepth 200000 in
theorem ts_X0_setLadder_81 {post : Int32 -> Int32 -> Int32 -> Int32 -> Int32 -> Prop} (bD : Int32) (mX oE dY : Nat -> Int32) (wX : 0 <= Int32.toInt bD /\ Int32.toInt bD <= 8) (hpost : ∀ (r : Int32) (aHN : Int32) (aGq : Int32) (aCx : Int32) (aFi : Int32), (-1 <= Int32.toInt aCx /\ Int32.toInt aCx <= 7) -> post r aHN aGq aCx aFi) (x1 x2 jE eW fY nU : Int32) (aBK : 0 <= Int32.toInt x1 /\ Int32.toInt x1 <= 7) (aAC : -1 <= Int32.toInt fY /\ Int32.toInt fY <= 7) : bBw post bD mX oE dY x1 x2 jE eW fY nU := by
  have l0 := li_9999
  intro v1 ev1
  intro v2 ev2
  have hv2 := congrArg Int32.toInt ev2
  intro v4 ev4
  have f5 := aAT (if v2 < 9999 then v2 else 9999)
  have f7 := aAT v2
  have f6 := ti_min (9999 : Int32) v2
  have hv4 := congrArg Int32.toInt ev4
  exact hpost _ _ _ _ _ (by omega)
set_option maxHeartbeats 8000000 in
set_option maxRecDepth 200000 in
theorem t_X0_setLadder {post : Int32 -> Int32 -> Int32 -> Int32 -> Int32 -> Prop} {p0 bD : Int32} {mX oE dY : Nat -> Int32} {jE eW fY nU : Int32} (wX : 0 <= Int32.toInt bD /\ Int32.toInt bD <= 8) (aAC : -1 <= Int32.toInt fY /\ Int32.toInt fY <= 7) (hpost : ∀ (r : Int32) (aHN : Int32) (aGq : Int32) (aCx : Int32) (aFi : Int32), (-1 <= Int32.toInt aCx /\ Int32.toInt aCx <= 7) -> post r aHN aGq aCx aFi) : wp_X0_setLadder post p0 bD mX oE dY jE eW fY nU := by
  have l0 := aI2
  have l1 := aE0
  have l2 := li_3
  have l3 := li_9
  have f9 := aAT p0
  refine And.intro (fun c8 => ?_) (fun c8 => ?_)
  · skip
    have c8 := (aAd _ _).mp c8
    refine And.intro (fun h9 => absurd h9 (by decide)) (fun _ => ?_)
    exact hpost _ _ _ _ _ aAC
  · skip
    have c8 := mt (aAd _ _).mpr c8
    refine And.intro (fun c10 => ?_) (fun c10 => ?_)
    · skip
      have c10 := (aAO _ _).mp c10
      refine And.intro (fun h9 => absurd h9 (by decide)) (fun _ => ?_)
      exact hpost _ _ _ _ _ aAC
    · skip
      have c10 := mt (aAO _ _).mpr c10
      refine And.intro (fun _ => ?_) (fun h9 => absurd h9 (by decide))
      refine And.intro (fun c11 => ?_) (fun c11 => ?_)
      · skip
        have c11 := mt (zJ _ _).mpr c11
        refine And.intro (fun c12 => ?_) (fun c12 => ?_)
        · skip
          have c12 := mt (zJ _ _).mpr c12
          intro v13 ev13
          have hv13 := congrArg Int32.toInt ev13
          refine And.intro (aBZ (by omega)) ?_
          intro v15 ev15
          have hv15 := congrArg Int32.toInt ev15
          refine And.intro (aBZ (by omega)) ?_
          intro v17 ev17
          have hv17 := congrArg Int32.toInt ev17
          intro v19 ev19
          have hv19 := congrArg Int32.toInt ev19
          have f22 := aAT jE
          refine And.intro (fun c21 => ?_) (fun c21 => ?_)
          · skip
            have c21 := (zJ _ _).mp c21
            have f24 := aAT eW
            have f25 := aAT nU
            exact ts_X0_setLadder_81 bD mX oE dY wX hpost p0 (9 + (v13 * v19)) jE eW fY nU (by omega) aAC
          · skip
            have c21 := mt (zJ _ _).mpr c21
            refine And.intro (fun c26 => ?_) (fun c26 => ?_)
            · skip
              have c26 := (zJ _ _).mp c26
              exfalso; omega
            · skip
              have c26 := mt (zJ _ _).mpr c26
              refine And.intro (aBZ (by omega)) ?_
              intro v27 ev27
              have hv27 := congrArg Int32.toInt ev27
              intro v29 ev29
              have hv29 := congrArg Int32.toInt ev29
              intro v31 ev31
              have hv31 := congrArg Int32.toInt ev31
              have f33 := aAT v31
              have f34 := aAT eW
              have f35 := aAT nU
              exact ts_X0_setLadder_81 bD mX oE dY wX hpost p0 v31 jE eW fY nU (by omega) aAC
        · skip
          have c12 := (zJ _ _).mp c12
          have f37 := aAT jE
          refine And.intro (fun c36 => ?_) (fun c36 => ?_)
          · skip
            have c36 := (zJ _ _).mp c36
            have f38 := aAT eW
            have f39 := aAT nU
            exact ts_X0_setLadder_81 bD mX oE dY wX hpost p0 9 jE eW fY nU (by omega) aAC
          · skip
            have c36 := mt (zJ _ _).mpr c36
            refine And.intro (fun c40 => ?_) (fun c40 => ?_)
            · skip
              have c40 := (zJ _ _).mp c40
              have f41 := aAT eW
              have f42 := aAT nU
              exact ts_X0_setLadder_81 bD mX oE dY wX hpost p0 9 jE eW fY nU (by omega) aAC
            · skip
              have c40 := mt (zJ _ _).mpr c40
              exfalso; omega
      · skip
        have c11 := (zJ _ _).mp c11
        exact hpost _ _ _ _ _ aAC
set_option maxHeartbeats 8000000 in
set_option maxRecDepth 200000 in
theorem t_X9_move {post : Int32 -> Int32 -> Int32 -> Int32 -> Int32 -> Int32 -> Int32 -> (Nat -> Int32) -> Prop} {p0 bD : Int32} {mX oE dY : Nat -> Int32} {jE eW eY dU fY gJ jG nU pR uM : Int32} {tD : Nat -> Int32} (wX : 0 <= Int32.toInt bD /\ Int32.toInt bD <= 8) (aAC : -1 <= Int32.toInt fY /\ Int32.toInt fY <= 7) (zK : 0 <= Int32.toInt jG /\ Int32.toInt jG <= 9) (aAr : 0 <= Int32.toInt pR /\ Int32.toInt pR <= 12) (aBy : 0 <= Int32.toInt uM /\ Int32.toInt uM <= 12) (aBF : ∀ k : Nat, k % 8 = 4 -> -1 <= Int32.toInt (tD k) /\ Int32.toInt (tD k) <= 7) (aBG : ∀ k : Nat, k % 8 = 6 -> 0 <= Int32.toInt (tD k) /\ Int32.toInt (tD k) <= 9) (hpost : ∀ (r : Int32) (aHN : Int32) (aGq : Int32) (aCx : Int32) (aFi : Int32) (aBa : Int32) (aEN : Int32) (aCN : Nat -> Int32), (-1 <= Int32.toInt aCx /\ Int32.toInt aCx <= 7) -> (0 <= Int32.toInt aBa /\ Int32.toInt aBa <= 12) -> (0 <= Int32.toInt aEN /\ Int32.toInt aEN <= 12) -> (∀ k : Nat, k % 8 = 4 -> -1 <= Int32.toInt (aCN k) /\ Int32.toInt (aCN k) <= 7) -> (∀ k : Nat, k % 8 = 6 -> 0 <= Int32.toInt (aCN k) /\ Int32.toInt (aCN k) <= 9) -> post r aHN aGq aCx aFi aBa aEN aCN) : wp_X9_move post p0 bD mX oE dY jE eW eY dU fY gJ jG nU pR uM tD := by
  have l0 := aE0
  have l1 := aEc
  have l2 := li_104
  have l3 := li_12
  have l4 := li_13
  have l5 := li_2
  have l6 := li_3
  have l7 := li_4
  have l8 := li_5
  have l9 := li_6
  have l10 := li_7
  have l11 := li_8
  intro v1 ev1
  have f2 : Int32.toInt (uM * 8) = Int32.toInt uM * 8 := ta_mulc _ _ (by decide) (by omega)
  rw [<- ev1] at f2
  refine And.intro (fun c3 => ?_) (fun c3 => ?_)
  · skip
    have c3 := (aAd _ _).mp c3
    exfalso; omega
  · skip
    have c3 := mt (aAd _ _).mpr c3
    have f5 : Int32.toInt (104 - 8) = Int32.toInt (104 : Int32) - Int32.toInt (8 : Int32) := aCA _ _ (by omega)
    refine And.intro (fun c4 => ?_) (fun c4 => ?_)
    · skip
      have c4 := (aAO _ _).mp c4
      refine And.intro (aBZ (by omega)) ?_
      have f7 := aAT jE
      have e6 : ∀ k : Nat, k % 8 = 4 -> -1 <= Int32.toInt ((upd tD v1.toNatClampNeg jE) k) /\ Int32.toInt ((upd tD v1.toNatClampNeg jE) k) <= 7 := aCJ (C := fun k => k % 8 = 4) aBF (fun hk => by have e9 : v1.toNatClampNeg = (Int32.toInt v1).toNat := rfl; have hk : v1.toNatClampNeg % 8 = 4 := hk; omega)
      have e8 : ∀ k : Nat, k % 8 = 6 -> 0 <= Int32.toInt ((upd tD v1.toNatClampNeg jE) k) /\ Int32.toInt ((upd tD v1.toNatClampNeg jE) k) <= 9 := aCJ (C := fun k => k % 8 = 6) aBG (fun hk => by have e9 : v1.toNatClampNeg = (Int32.toInt v1).toNat := rfl; have hk : v1.toNatClampNeg % 8 = 6 := hk; omega)
      intro v9 ev9
      have f10 : Int32.toInt (v1 + 1) = Int32.toInt v1 + Int32.toInt (1 : Int32) := aAD _ _ (by omega)
      rw [<- ev9] at f10
      refine And.intro (aBZ (by omega)) ?_
      have f12 := aAT eW
      have e11 : ∀ k : Nat, k % 8 = 4 -> -1 <= Int32.toInt ((upd (upd tD v1.toNatClampNeg jE) v9.toNatClampNeg eW) k) /\ Int32.toInt ((upd (upd tD v1.toNatClampNeg jE) v9.toNatClampNeg eW) k) <= 7 := aCJ (C := fun k => k % 8 = 4) e6 (fun hk => by have e9 : v9.toNatClampNeg = (Int32.toInt v9).toNat := rfl; have hk : v9.toNatClampNeg % 8 = 4 := hk; omega)
      have e13 : ∀ k : Nat, k % 8 = 6 -> 0 <= Int32.toInt ((upd (upd tD v1.toNatClampNeg jE) v9.toNatClampNeg eW) k) /\ Int32.toInt ((upd (upd tD v1.toNatClampNeg jE) v9.toNatClampNeg eW) k) <= 9 := aCJ (C := fun k => k % 8 = 6) e8 (fun hk => by have e9 : v9.toNatClampNeg = (Int32.toInt v9).toNat := rfl; have hk : v9.toNatClampNeg % 8 = 6 := hk; omega)
      intro v14 ev14
      have f15 : Int32.toInt (v1 + 2) = Int32.toInt v1 + Int32.toInt (2 : Int32) := aAD _ _ (by omega)
      rw [<- ev14] at f15
      refine And.intro (aBZ (by omega)) ?_
      have f17 := aAT eY
      have e16 : ∀ k : Nat, k % 8 = 4 -> -1 <= Int32.toInt ((upd (upd (upd tD v1.toNatClampNeg jE) v9.toNatClampNeg eW) v14.toNatClampNeg eY) k) /\ Int32.toInt ((upd (upd (upd tD v1.toNatClampNeg jE) v9.toNatClampNeg eW) v14.toNatClampNeg eY) k) <= 7 := aCJ (C := fun k => k % 8 = 4) e11 (fun hk => by have e9 : v14.toNatClampNeg = (Int32.toInt v14).toNat := rfl; have hk : v14.toNatClampNeg % 8 = 4 := hk; omega)
      have e18 : ∀ k : Nat, k % 8 = 6 -> 0 <= Int32.toInt ((upd (upd (upd tD v1.toNatClampNeg jE) v9.toNatClampNeg eW) v14.toNatClampNeg eY) k) /\ Int32.toInt ((upd (upd (upd tD v1.toNatClampNeg jE) v9.toNatClampNeg eW) v14.toNatClampNeg eY) k) <= 9 := aCJ (C := fun k => k % 8 = 6) e13 (fun hk => by have e9 : v14.toNatClampNeg = (Int32.toInt v14).toNat := rfl; have hk : v14.toNatClampNeg % 8 = 6 := hk; omega)
      intro v19 ev19
      have f20 : Int32.toInt (v1 + 3) = Int32.toInt v1 + Int32.toInt (3 : Int32) := aAD _ _ (by omega)
      rw [<- ev19] at f20
      refine And.intro (aBZ (by omega)) ?_
      have f22 := aAT dU
      have e21 : ∀ k : Nat, k % 8 = 4 -> -1 <= Int32.toInt ((upd (upd (upd (upd tD v1.toNatClampNeg jE) v9.toNatClampNeg eW) v14.toNatClampNeg eY) v19.toNatClampNeg dU) k) /\ Int32.toInt ((upd (upd (upd (upd tD v1.toNatClampNeg jE) v9.toNatClampNeg eW) v14.toNatClampNeg eY) v19.toNatClampNeg dU) k) <= 7 := aCJ (C := fun k => k % 8 = 4) e16 (fun hk => by have e9 : v19.toNatClampNeg = (Int32.toInt v19).toNat := rfl; have hk : v19.toNatClampNeg % 8 = 4 := hk; omega)
      have e23 : ∀ k : Nat, k % 8 = 6 -> 0 <= Int32.toInt ((upd (upd (upd (upd tD v1.toNatClampNeg jE) v9.toNatClampNeg eW) v14.toNatClampNeg eY) v19.toNatClampNeg dU) k) /\ Int32.toInt ((upd (upd (upd (upd tD v1.toNatClampNeg jE) v9.toNatClampNeg eW) v14.toNatClampNeg eY) v19.toNatClampNeg dU) k) <= 9 := aCJ (C := fun k => k % 8 = 6) e18 (fun hk => by have e9 : v19.toNatClampNeg = (Int32.toInt v19).toNat := rfl; have hk : v19.toNatClampNeg % 8 = 6 := hk; omega)
      intro v24 ev24
      have f25 : Int32.toInt (v1 + 4) = Int32.toInt v1 + Int32.toInt (4 : Int32) := aAD _ _ (by omega)
      rw [<- ev24] at f25
      refine And.intro (aBZ (by omega)) ?_
      have e26 : ∀ k : Nat, k % 8 = 4 -> -1 <= Int32.toInt ((upd (upd (upd (upd (upd tD v1.toNatClampNeg jE) v9.toNatClampNeg eW) v14.toNatClampNeg eY) v19.toNatClampNeg dU) v24.toNatClampNeg fY) k) /\ Int32.toInt ((upd (upd (upd (upd (upd tD v1.toNatClampNeg jE) v9.toNatClampNeg eW) v14.toNatClampNeg eY) v19.toNatClampNeg dU) v24.toNatClampNeg fY) k) <= 7 := aCJ (C := fun k => k % 8 = 4) e21 (fun hk => by have e9 : v24.toNatClampNeg = (Int32.toInt v24).toNat := rfl; have hk : v24.toNatClampNeg % 8 = 4 := hk; omega)
      have e27 : ∀ k : Nat, k % 8 = 6 -> 0 <= Int32.toInt ((upd (upd (upd (upd (upd tD v1.toNatClampNeg jE) v9.toNatClampNeg eW) v14.toNatClampNeg eY) v19.toNatClampNeg dU) v24.toNatClampNeg fY) k) /\ Int32.toInt ((upd (upd (upd (upd (upd tD v1.toNatClampNeg jE) v9.toNatClampNeg eW) v14.toNatClampNeg eY) v19.toNatClampNeg dU) v24.toNatClampNeg fY) k) <= 9 := aCJ (C := fun k => k % 8 = 6) e23 (fun hk => by have e9 : v24.toNatClampNeg = (Int32.toInt v24).toNat := rfl; have hk : v24.toNatClampNeg % 8 = 6 := hk; omega)
      intro v28 ev28
      have f29 : Int32.toInt (v1 + 5) = Int32.toInt v1 + Int32.toInt (5 : Int32) := aAD _ _ (by omega)
      rw [<- ev28] at f29
      refine And.intro (aBZ (by omega)) ?_
      have f31 := aAT gJ
      have e30 : ∀ k : Nat, k % 8 = 4 -> -1 <= Int32.toInt ((upd (upd (upd (upd (upd (upd tD v1.toNatClampNeg jE) v9.toNatClampNeg eW) v14.toNatClampNeg eY) v19.toNatClampNeg dU) v24.toNatClampNeg fY) v28.toNatClampNeg gJ) k) /\ Int32.toInt ((upd (upd (upd (upd (upd (upd tD v1.toNatClampNeg jE) v9.toNatClampNeg eW) v14.toNatClampNeg eY) v19.toNatClampNeg dU) v24.toNatClampNeg fY) v28.toNatClampNeg gJ) k) <= 7 := aCJ (C := fun k => k % 8 = 4) e26 (fun hk => by have e9 : v28.toNatClampNeg = (Int32.toInt v28).toNat := rfl; have hk : v28.toNatClampNeg % 8 = 4 := hk; omega)
      have e32 : ∀ k : Nat, k % 8 = 6 -> 0 <= Int32.toInt ((upd (upd (upd (upd (upd (upd tD v1.toNatClampNeg jE) v9.toNatClampNeg eW) v14.toNatClampNeg eY) v19.toNatClampNeg dU) v24.toNatClampNeg fY) v28.toNatClampNeg gJ) k) /\ Int32.toInt ((upd (upd (upd (upd (upd (upd tD v1.toNatClampNeg jE) v9.toNatClampNeg eW) v14.toNatClampNeg eY) v19.toNatClampNeg dU) v24.toNatClampNeg fY) v28.toNatClampNeg gJ) k) <= 9 := aCJ (C := fun k => k % 8 = 6) e27 (fun hk => by have e9 : v28.toNatClampNeg = (Int32.toInt v28).toNat := rfl; have hk : v28.toNatClampNeg % 8 = 6 := hk; omega)
      intro v33 ev33
      have f34 : Int32.toInt (v1 + 6) = Int32.toInt v1 + Int32.toInt (6 : Int32) := aAD _ _ (by omega)
      rw [<- ev33] at f34
      refine And.intro (aBZ (by omega)) ?_
      have e35 : ∀ k : Nat, k % 8 = 4 -> -1 <= Int32.toInt ((upd (upd (upd (upd (upd (upd (upd tD v1.toNatClampNeg jE) v9.toNatClampNeg eW) v14.toNatClampNeg eY) v19.toNatClampNeg dU) v24.toNatClampNeg fY) v28.toNatClampNeg gJ) v33.toNatClampNeg jG) k) /\ Int32.toInt ((upd (upd (upd (upd (upd (upd (upd tD v1.toNatClampNeg jE) v9.toNatClampNeg eW) v14.toNatClampNeg eY) v19.toNatClampNeg dU) v24.toNatClampNeg fY) v28.toNatClampNeg gJ) v33.toNatClampNeg jG) k) <= 7 := aCJ (C := fun k => k % 8 = 4) e30 (fun hk => by have e9 : v33.toNatClampNeg = (Int32.toInt v33).toNat := rfl; have hk : v33.toNatClampNeg % 8 = 4 := hk; omega)
      have e36 : ∀ k : Nat, k % 8 = 6 -> 0 <= Int32.toInt ((upd (upd (upd (upd (upd (upd (upd tD v1.toNatClampNeg jE) v9.toNatClampNeg eW) v14.toNatClampNeg eY) v19.toNatClampNeg dU) v24.toNatClampNeg fY) v28.toNatClampNeg gJ) v33.toNatClampNeg jG) k) /\ Int32.toInt ((upd (upd (upd (upd (upd (upd (upd tD v1.toNatClampNeg jE) v9.toNatClampNeg eW) v14.toNatClampNeg eY) v19.toNatClampNeg dU) v24.toNatClampNeg fY) v28.toNatClampNeg gJ) v33.toNatClampNeg jG) k) <= 9 := aCJ (C := fun k => k % 8 = 6) e32 (fun hk => by have e9 : v33.toNatClampNeg = (Int32.toInt v33).toNat := rfl; have hk : v33.toNatClampNeg % 8 = 6 := hk; omega)
      intro v37 ev37
      have f38 : Int32.toInt (v1 + 7) = Int32.toInt v1 + Int32.toInt (7 : Int32) := aAD _ _ (by omega)
      rw [<- ev37] at f38
      refine And.intro (aBZ (by omega)) ?_
      have f40 := aAT nU
      have e39 : ∀ k : Nat, k % 8 = 4 -> -1 <= Int32.toInt ((upd (upd (upd (upd (upd (upd (upd (upd tD v1.toNatClampNeg jE) v9.toNatClampNeg eW) v14.toNatClampNeg eY) v19.toNatClampNeg dU) v24.toNatClampNeg fY) v28.toNatClampNeg gJ) v33.toNatClampNeg jG) v37.toNatClampNeg nU) k) /\ Int32.toInt ((upd (upd (upd (upd (upd (upd (upd (upd tD v1.toNatClampNeg jE) v9.toNatClampNeg eW) v14.toNatClampNeg eY) v19.toNatClampNeg dU) v24.toNatClampNeg fY) v28.toNatClampNeg gJ) v33.toNatClampNeg jG) v37.toNatClampNeg nU) k) <= 7 := aCJ (C := fun k => k % 8 = 4) e35 (fun hk => by have e9 : v37.toNatClampNeg = (Int32.toInt v37).toNat := rfl; have hk : v37.toNatClampNeg % 8 = 4 := hk; omega)
      have e41 : ∀ k : Nat, k % 8 = 6 -> 0 <= Int32.toInt ((upd (upd (upd (upd (upd (upd (upd (upd tD v1.toNatClampNeg jE) v9.toNatClampNeg eW) v14.toNatClampNeg eY) v19.toNatClampNeg dU) v24.toNatClampNeg fY) v28.toNatClampNeg gJ) v33.toNatClampNeg jG) v37.toNatClampNeg nU) k) /\ Int32.toInt ((upd (upd (upd (upd (upd (upd (upd (upd tD v1.toNatClampNeg jE) v9.toNatClampNeg eW) v14.toNatClampNeg eY) v19.toNatClampNeg dU) v24.toNatClampNeg fY) v28.toNatClampNeg gJ) v33.toNatClampNeg jG) v37.toNatClampNeg nU) k) <= 9 := aCJ (C := fun k => k % 8 = 6) e36 (fun hk => by have e9 : v37.toNatClampNeg = (Int32.toInt v37).toNat := rfl; have hk : v37.toNatClampNeg % 8 = 6 := hk; omega)
      refine t_X0_setLadder wX aAC (fun r46 no_apron_42 no_basket_43 no_ladder_44 no_clock_45 h_no_ladder_44 => ?_)
      have f48 := aAT r46
      refine And.intro (fun c47 => ?_) (fun c47 => ?_)
      · skip
        have c47 := (aAd _ _).mp c47
        exact hpost _ _ _ _ _ _ _ _ h_no_ladder_44 aAr aBy e39 e41
      · skip
        have c47 := mt (aAd _ _).mpr c47
        intro v49 ev49
        have f50 : Int32.toInt (uM + 1) = Int32.toInt uM + Int32.toInt (1 : Int32) := aAD _ _ (by omega)
        rw [<- ev49] at f50
        intro v51 ev51
        have f52 : Int32.toInt (v49 - v49 / 13 * 13) = Int32.toInt v49 % 13 := ti_rem _ _ (by decide) (by omega) (by decide)
        rw [<- ev51] at f52
        intro v53 ev53
        have f54 : Int32.toInt (pR + 1) = Int32.toInt pR + Int32.toInt (1 : Int32) := aAD _ _ (by omega)
        rw [<- ev53] at f54
        intro v55 ev55
        have f56 := ti_min (12 : Int32) v53
        have hv55 := congrArg Int32.toInt ev55
        exact hpost _ _ _ _ _ _ _ _ h_no_ladder_44 (by omega) (by omega) e39 e41
    · skip
      have c4 := mt (aAO _ _).mpr c4
      exfalso; omega
set_option maxHeartbeats 8000000 in
set_option maxRecDepth 200000 in
theorem ts_X9_isYesOrNo_9 {post : Int32 -> Prop} (hpost : ∀ (r : Int32) , (0 <= Int32.toInt r /\ Int32.toInt r <= 1) -> post r) : ws_X9_isYesOrNo_9 post := by
  have l0 := aEc
  exact hpost _ (by omega)
set_option maxHeartbeats 8000000 in
set_option maxRecDepth 200000 in
theorem t_X9_isYesOrNo {post : Int32 -> Prop} {p0 : Int32} (hpost : ∀ (r : Int32) , (0 <= Int32.toInt r /\ Int32.toInt r <= 1) -> post r) : aY9 post p0 := by
  have l0 := aE0
  have l1 := aEc
  have f2 := aAT p0
  refine And.intro (fun c1 => ?_) (fun c1 => ?_)
  · skip
    have c1 := (zJ _ _).mp c1
    exact ts_X9_isYesOrNo_9 hpost 
  · skip
    have c1 := mt (zJ _ _).mpr c1
    refine And.intro (fun c3 => ?_) (fun c3 => ?_)
    · skip
      have c3 := mt (zJ _ _).mpr c3
      exact hpost _ (by omega)
    · skip
      have c3 := (zJ _ _).mp c3
      exact ts_X9_isYesOrNo_9 hpost 
set_option maxHeartbeats 8000000 in
set_option maxRecDepth 200000 in
theorem t_X9_foot {post : Int32 -> Int32 -> Int32 -> Int32 -> (Nat -> Int32) -> Prop} {p0 jE eW eY dU fY gJ jG nU pR uM : Int32} {tD : Nat -> Int32} (aAC : -1 <= Int32.toInt fY /\ Int32.toInt fY <= 7) (zK : 0 <= Int32.toInt jG /\ Int32.toInt jG <= 9) (aAr : 0 <= Int32.toInt pR /\ Int32.toInt pR <= 12) (aBy : 0 <= Int32.toInt uM /\ Int32.toInt uM <= 12) (aBF : ∀ k : Nat, k % 8 = 4 -> -1 <= Int32.toInt (tD k) /\ Int32.toInt (tD k) <= 7) (aBG : ∀ k : Nat, k % 8 = 6 -> 0 <= Int32.toInt (tD k) /\ Int32.toInt (tD k) <= 9) (hpost : ∀ (r : Int32) (aI5 : Int32) (aBa : Int32) (aEN : Int32) (aCN : Nat -> Int32), (0 <= Int32.toInt aBa /\ Int32.toInt aBa <= 12) -> (0 <= Int32.toInt aEN /\ Int32.toInt aEN <= 12) -> (∀ k : Nat, k % 8 = 4 -> -1 <= Int32.toInt (aCN k) /\ Int32.toInt (aCN k) <= 7) -> (∀ k : Nat, k % 8 = 6 -> 0 <= Int32.toInt (aCN k) /\ Int32.toInt (aCN k) <= 9) -> post r aI5 aBa aEN aCN) : wp_X9_foot post p0 jE eW eY dU fY gJ jG nU pR uM tD := by
  have l0 := aE0
  have l1 := aEc
  have l2 := li_104
  have l3 := li_12
  have l4 := li_13
  have l5 := li_2
  have l6 := li_3
  have l7 := li_4
  have l8 := li_5
  have l9 := li_6
  have l10 := li_7
  have l11 := li_8
  intro v1 ev1
  have f2 : Int32.toInt (uM * 8) = Int32.toInt uM * 8 := ta_mulc _ _ (by decide) (by omega)
  rw [<- ev1] at f2
  refine And.intro (fun c3 => ?_) (fun c3 => ?_)
  · skip
    have c3 := (aAd _ _).mp c3
    exfalso; omega
  · skip
    have c3 := mt (aAd _ _).mpr c3
    have f5 : Int32.toInt (104 - 8) = Int32.toInt (104 : Int32) - Int32.toInt (8 : Int32) := aCA _ _ (by omega)
    refine And.intro (fun c4 => ?_) (fun c4 => ?_)
    · skip
      have c4 := (aAO _ _).mp c4
      refine And.intro (aBZ (by omega)) ?_
      have f7 := aAT jE
      have e6 : ∀ k : Nat, k % 8 = 4 -> -1 <= Int32.toInt ((upd tD v1.toNatClampNeg jE) k) /\ Int32.toInt ((upd tD v1.toNatClampNeg jE) k) <= 7 := aCJ (C := fun k => k % 8 = 4) aBF (fun hk => by have e9 : v1.toNatClampNeg = (Int32.toInt v1).toNat := rfl; have hk : v1.toNatClampNeg % 8 = 4 := hk; omega)
      have e8 : ∀ k : Nat, k % 8 = 6 -> 0 <= Int32.toInt ((upd tD v1.toNatClampNeg jE) k) /\ Int32.toInt ((upd tD v1.toNatClampNeg jE) k) <= 9 := aCJ (C := fun k => k % 8 = 6) aBG (fun hk => by have e9 : v1.toNatClampNeg = (Int32.toInt v1).toNat := rfl; have hk : v1.toNatClampNeg % 8 = 6 := hk; omega)
      intro v9 ev9
      have f10 : Int32.toInt (v1 + 1) = Int32.toInt v1 + Int32.toInt (1 : Int32) := aAD _ _ (by omega)
      rw [<- ev9] at f10
      refine And.intro (aBZ (by omega)) ?_
      have f12 := aAT eW
      have e11 : ∀ k : Nat, k % 8 = 4 -> -1 <= Int32.toInt ((upd (upd tD v1.toNatClampNeg jE) v9.toNatClampNeg eW) k) /\ Int32.toInt ((upd (upd tD v1.toNatClampNeg jE) v9.toNatClampNeg eW) k) <= 7 := aCJ (C := fun k => k % 8 = 4) e6 (fun hk => by have e9 : v9.toNatClampNeg = (Int32.toInt v9).toNat := rfl; have hk : v9.toNatClampNeg % 8 = 4 := hk; omega)
      have e13 : ∀ k : Nat, k % 8 = 6 -> 0 <= Int32.toInt ((upd (upd tD v1.toNatClampNeg jE) v9.toNatClampNeg eW) k) /\ Int32.toInt ((upd (upd tD v1.toNatClampNeg jE) v9.toNatClampNeg eW) k) <= 9 := aCJ (C := fun k => k % 8 = 6) e8 (fun hk => by have e9 : v9.toNatClampNeg = (Int32.toInt v9).toNat := rfl; have hk : v9.toNatClampNeg % 8 = 6 := hk; omega)
      intro v14 ev14
      have f15 : Int32.toInt (v1 + 2) = Int32.toInt v1 + Int32.toInt (2 : Int32) := aAD _ _ (by omega)
      rw [<- ev14] at f15
      refine And.intro (aBZ (by omega)) ?_
      have f17 := aAT eY
      have e16 : ∀ k : Nat, k % 8 = 4 -> -1 <= Int32.toInt ((upd (upd (upd tD v1.toNatClampNeg jE) v9.toNatClampNeg eW) v14.toNatClampNeg eY) k) /\ Int32.toInt ((upd (upd (upd tD v1.toNatClampNeg jE) v9.toNatClampNeg eW) v14.toNatClampNeg eY) k) <= 7 := aCJ (C := fun k => k % 8 = 4) e11 (fun hk => by have e9 : v14.toNatClampNeg = (Int32.toInt v14).toNat := rfl; have hk : v14.toNatClampNeg % 8 = 4 := hk; omega)
      have e18 : ∀ k : Nat, k % 8 = 6 -> 0 <= Int32.toInt ((upd (upd (upd tD v1.toNatClampNeg jE) v9.toNatClampNeg eW) v14.toNatClampNeg eY) k) /\ Int32.toInt ((upd (upd (upd tD v1.toNatClampNeg jE) v9.toNatClampNeg eW) v14.toNatClampNeg eY) k) <= 9 := aCJ (C := fun k => k % 8 = 6) e13 (fun hk => by have e9 : v14.toNatClampNeg = (Int32.toInt v14).toNat := rfl; have hk : v14.toNatClampNeg % 8 = 6 := hk; omega)
      intro v19 ev19
      have f20 : Int32.toInt (v1 + 3) = Int32.toInt v1 + Int32.toInt (3 : Int32) := aAD _ _ (by omega)
      rw [<- ev19] at f20
      refine And.intro (aBZ (by omega)) ?_
      have f22 := aAT dU
      have e21 : ∀ k : Nat, k % 8 = 4 -> -1 <= Int32.toInt ((upd (upd (upd (upd tD v1.toNatClampNeg jE) v9.toNatClampNeg eW) v14.toNatClampNeg eY) v19.toNatClampNeg dU) k) /\ Int32.toInt ((upd (upd (upd (upd tD v1.toNatClampNeg jE) v9.toNatClampNeg eW) v14.toNatClampNeg eY) v19.toNatClampNeg dU) k) <= 7 := aCJ (C := fun k => k % 8 = 4) e16 (fun hk => by have e9 : v19.toNatClampNeg = (Int32.toInt v19).toNat := rfl; have hk : v19.toNatClampNeg % 8 = 4 := hk; omega)
      have e23 : ∀ k : Nat, k % 8 = 6 -> 0 <= Int32.toInt ((upd (upd (upd (upd tD v1.toNatClampNeg jE) v9.toNatClampNeg eW) v14.toNatClampNeg eY) v19.toNatClampNeg dU) k) /\ Int32.toInt ((upd (upd (upd (upd tD v1.toNatClampNeg jE) v9.toNatClampNeg eW) v14.toNatClampNeg eY) v19.toNatClampNeg dU) k) <= 9 := aCJ (C := fun k => k % 8 = 6) e18 (fun hk => by have e9 : v19.toNatClampNeg = (Int32.toInt v19).toNat := rfl; have hk : v19.toNatClampNeg % 8 = 6 := hk; omega)
      intro v24 ev24
      have f25 : Int32.toInt (v1 + 4) = Int32.toInt v1 + Int32.toInt (4 : Int32) := aAD _ _ (by omega)
      rw [<- ev24] at f25
      refine And.intro (aBZ (by omega)) ?_
      have e26 : ∀ k : Nat, k % 8 = 4 -> -1 <= Int32.toInt ((upd (upd (upd (upd (upd tD v1.toNatClampNeg jE) v9.toNatClampNeg eW) v14.toNatClampNeg eY) v19.toNatClampNeg dU) v24.toNatClampNeg fY) k) /\ Int32.toInt ((upd (upd (upd (upd (upd tD v1.toNatClampNeg jE) v9.toNatClampNeg eW) v14.toNatClampNeg eY) v19.toNatClampNeg dU) v24.toNatClampNeg fY) k) <= 7 := aCJ (C := fun k => k % 8 = 4) e21 (fun hk => by have e9 : v24.toNatClampNeg = (Int32.toInt v24).toNat := rfl; have hk : v24.toNatClampNeg % 8 = 4 := hk; omega)
      have e27 : ∀ k : Nat, k % 8 = 6 -> 0 <= Int32.toInt ((upd (upd (upd (upd (upd tD v1.toNatClampNeg jE) v9.toNatClampNeg eW) v14.toNatClampNeg eY) v19.toNatClampNeg dU) v24.toNatClampNeg fY) k) /\ Int32.toInt ((upd (upd (upd (upd (upd tD v1.toNatClampNeg jE) v9.toNatClampNeg eW) v14.toNatClampNeg eY) v19.toNatClampNeg dU) v24.toNatClampNeg fY) k) <= 9 := aCJ (C := fun k => k % 8 = 6) e23 (fun hk => by have e9 : v24.toNatClampNeg = (Int32.toInt v24).toNat := rfl; have hk : v24.toNatClampNeg % 8 = 6 := hk; omega)
      intro v28 ev28
      have f29 : Int32.toInt (v1 + 5) = Int32.toInt v1 + Int32.toInt (5 : Int32) := aAD _ _ (by omega)
      rw [<- ev28] at f29
      refine And.intro (aBZ (by omega)) ?_
      have f31 := aAT gJ
      have e30 : ∀ k : Nat, k % 8 = 4 -> -1 <= Int32.toInt ((upd (upd (upd (upd (upd (upd tD v1.toNatClampNeg jE) v9.toNatClampNeg eW) v14.toNatClampNeg eY) v19.toNatClampNeg dU) v24.toNatClampNeg fY) v28.toNatClampNeg gJ) k) /\ Int32.toInt ((upd (upd (upd (upd (upd (upd tD v1.toNatClampNeg jE) v9.toNatClampNeg eW) v14.toNatClampNeg eY) v19.toNatClampNeg dU) v24.toNatClampNeg fY) v28.toNatClampNeg gJ) k) <= 7 := aCJ (C := fun k => k % 8 = 4) e26 (fun hk => by have e9 : v28.toNatClampNeg = (Int32.toInt v28).toNat := rfl; have hk : v28.toNatClampNeg % 8 = 4 := hk; omega)
      have e32 : ∀ k : Nat, k % 8 = 6 -> 0 <= Int32.toInt ((upd (upd (upd (upd (upd (upd tD v1.toNatClampNeg jE) v9.toNatClampNeg eW) v14.toNatClampNeg eY) v19.toNatClampNeg dU) v24.toNatClampNeg fY) v28.toNatClampNeg gJ) k) /\ Int32.toInt ((upd (upd (upd (upd (upd (upd tD v1.toNatClampNeg jE) v9.toNatClampNeg eW) v14.toNatClampNeg eY) v19.toNatClampNeg dU) v24.toNatClampNeg fY) v28.toNatClampNeg gJ) k) <= 9 := aCJ (C := fun k => k % 8 = 6) e27 (fun hk => by have e9 : v28.toNatClampNeg = (Int32.toInt v28).toNat := rfl; have hk : v28.toNatClampNeg % 8 = 6 := hk; omega)
      intro v33 ev33
      have f34 : Int32.toInt (v1 + 6) = Int32.toInt v1 + Int32.toInt (6 : Int32) := aAD _ _ (by omega)
      rw [<- ev33] at f34
      refine And.intro (aBZ (by omega)) ?_
      have e35 : ∀ k : Nat, k % 8 = 4 -> -1 <= Int32.toInt ((upd (upd (upd (upd (upd (upd (upd tD v1.toNatClampNeg jE) v9.toNatClampNeg eW) v14.toNatClampNeg eY) v19.toNatClampNeg dU) v24.toNatClampNeg fY) v28.toNatClampNeg gJ) v33.toNatClampNeg jG) k) /\ Int32.toInt ((upd (upd (upd (upd (upd (upd (upd tD v1.toNatClampNeg jE) v9.toNatClampNeg eW) v14.toNatClampNeg eY) v19.toNatClampNeg dU) v24.toNatClampNeg fY) v28.toNatClampNeg gJ) v33.toNatClampNeg jG) k) <= 7 := aCJ (C := fun k => k % 8 = 4) e30 (fun hk => by have e9 : v33.toNatClampNeg = (Int32.toInt v33).toNat := rfl; have hk : v33.toNatClampNeg % 8 = 4 := hk; omega)
      have e36 : ∀ k : Nat, k % 8 = 6 -> 0 <= Int32.toInt ((upd (upd (upd (upd (upd (upd (upd tD v1.toNatClampNeg jE) v9.toNatClampNeg eW) v14.toNatClampNeg eY) v19.toNatClampNeg dU) v24.toNatClampNeg fY) v28.toNatClampNeg gJ) v33.toNatClampNeg jG) k) /\ Int32.toInt ((upd (upd (upd (upd (upd (upd (upd tD v1.toNatClampNeg jE) v9.toNatClampNeg eW) v14.toNatClampNeg eY) v19.toNatClampNeg dU) v24.toNatClampNeg fY) v28.toNatClampNeg gJ) v33.toNatClampNeg jG) k) <= 9 := aCJ (C := fun k => k % 8 = 6) e32 (fun hk => by have e9 : v33.toNatClampNeg = (Int32.toInt v33).toNat := rfl; have hk : v33.toNatClampNeg % 8 = 6 := hk; omega)
      intro v37 ev37
      have f38 : Int32.toInt (v1 + 7) = Int32.toInt v1 + Int32.toInt (7 : Int32) := aAD _ _ (by omega)
      rw [<- ev37] at f38
      refine And.intro (aBZ (by omega)) ?_
      have f40 := aAT nU
      have e39 : ∀ k : Nat, k % 8 = 4 -> -1 <= Int32.toInt ((upd (upd (upd (upd (upd (upd (upd (upd tD v1.toNatClampNeg jE) v9.toNatClampNeg eW) v14.toNatClampNeg eY) v19.toNatClampNeg dU) v24.toNatClampNeg fY) v28.toNatClampNeg gJ) v33.toNatClampNeg jG) v37.toNatClampNeg nU) k) /\ Int32.toInt ((upd (upd (upd (upd (upd (upd (upd (upd tD v1.toNatClampNeg jE) v9.toNatClampNeg eW) v14.toNatClampNeg eY) v19.toNatClampNeg dU) v24.toNatClampNeg fY) v28.toNatClampNeg gJ) v33.toNatClampNeg jG) v37.toNatClampNeg nU) k) <= 7 := aCJ (C := fun k => k % 8 = 4) e35 (fun hk => by have e9 : v37.toNatClampNeg = (Int32.toInt v37).toNat := rfl; have hk : v37.toNatClampNeg % 8 = 4 := hk; omega)
      have e41 : ∀ k : Nat, k % 8 = 6 -> 0 <= Int32.toInt ((upd (upd (upd (upd (upd (upd (upd (upd tD v1.toNatClampNeg jE) v9.toNatClampNeg eW) v14.toNatClampNeg eY) v19.toNatClampNeg dU) v24.toNatClampNeg fY) v28.toNatClampNeg gJ) v33.toNatClampNeg jG) v37.toNatClampNeg nU) k) /\ Int32.toInt ((upd (upd (upd (upd (upd (upd (upd (upd tD v1.toNatClampNeg jE) v9.toNatClampNeg eW) v14.toNatClampNeg eY) v19.toNatClampNeg dU) v24.toNatClampNeg fY) v28.toNatClampNeg gJ) v33.toNatClampNeg jG) v37.toNatClampNeg nU) k) <= 9 := aCJ (C := fun k => k % 8 = 6) e36 (fun hk => by have e9 : v37.toNatClampNeg = (Int32.toInt v37).toNat := rfl; have hk : v37.toNatClampNeg % 8 = 6 := hk; omega)
      refine t_X9_isYesOrNo  (fun r42 h_r42 => ?_)
      refine And.intro (fun c43 => ?_) (fun c43 => ?_)
      · skip
        have c43 := mt (zJ _ _).mpr c43
        refine And.intro (fun c44 => ?_) (fun c44 => ?_)
        · skip
          have c44 := (aAd _ _).mp c44
          exact hpost _ _ _ _ _ aAr aBy e39 e41
        · skip
          have c44 := mt (aAd _ _).mpr c44
          intro v45 ev45
          have f46 : Int32.toInt (uM + 1) = Int32.toInt uM + Int32.toInt (1 : Int32) := aAD _ _ (by omega)
          rw [<- ev45] at f46
          intro v47 ev47
          have f48 : Int32.toInt (v45 - v45 / 13 * 13) = Int32.toInt v45 % 13 := ti_rem _ _ (by decide) (by omega) (by decide)
          rw [<- ev47] at f48
          intro v49 ev49
          have f50 : Int32.toInt (pR + 1) = Int32.toInt pR + Int32.toInt (1 : Int32) := aAD _ _ (by omega)
          rw [<- ev49] at f50
          intro v51 ev51
          have f52 := ti_min (12 : Int32) v49
          have hv51 := congrArg Int32.toInt ev51
          exact hpost _ _ _ _ _ (by omega) (by omega) e39 e41
      · skip
        have c43 := (zJ _ _).mp c43
        refine And.intro (fun _ => ?_) (fun h9 => absurd h9 (by decide))
        exact hpost _ _ _ _ _ aAr aBy e39 e41
    · skip
      have c4 := mt (aAO _ _).mpr c4
      exfalso; omega
set_option maxHeartbeats 8000000 in
set_option maxRecDepth 200000 in
theorem ts_X3_worthOf_54 {post : Int32 -> Prop} {K5 : Int32 -> Int32 -> Int32 -> Int32 -> Prop} {n5 : Int} (dN : Int32) (pL : Nat -> Int32) (xL : 0 <= Int32.toInt dN /\ Int32.toInt dN <= 16) (hpost : ∀ (r : Int32) , post r) (hK5 : ∀ (x1 : Int32) (x2 : Int32) (x3 : Int32) (x4 : Int32), (0 <= Int32.toInt x4 /\ Int32.toInt x4 <= 16) -> (16 - Int32.toInt x4 < n5) -> K5 x1 x2 x3 x4) (x1 x2 x3 x4 : Int32) (aDO : 0 <= Int32.toInt x4 /\ Int32.toInt x4 <= 15) (hn5 : 16 - Int32.toInt x4 <= n5) : ws_X3_worthOf_54 post K5 dN pL x1 x2 x3 x4 := by
  have l0 := aEc
  intro v1 ev1
  have f2 : Int32.toInt (x4 + 1) = Int32.toInt x4 + Int32.toInt (1 : Int32) := aAD _ _ (by omega)
  rw [<- ev1] at f2
  have f3 := aAT x1
  have f4 := aAT x2
  have f5 := aAT x3
  exact hK5 x1 x2 x3 v1 (by omega) (by omega)
set_option maxHeartbeats 8000000 in
set_option maxRecDepth 200000 in
theorem ts_X3_worthOf_52 {post : Int32 -> Prop} {K5 : Int32 -> Int32 -> Int32 -> Int32 -> Prop} {n5 : Int} (dN : Int32) (pL : Nat -> Int32) (xL : 0 <= Int32.toInt dN /\ Int32.toInt dN <= 16) (hpost : ∀ (r : Int32) , post r) (hK5 : ∀ (x1 : Int32) (x2 : Int32) (x3 : Int32) (x4 : Int32), (0 <= Int32.toInt x4 /\ Int32.toInt x4 <= 16) -> (16 - Int32.toInt x4 < n5) -> K5 x1 x2 x3 x4) (x1 x2 x4 k0 k1 : Int32) (aDO : 0 <= Int32.toInt x4 /\ Int32.toInt x4 <= 15) (hn5 : 16 - Int32.toInt x4 <= n5) : ws_X3_worthOf_52 post K5 dN pL x1 x2 x4 k0 k1 := by
  intro v6 ev6
  have hv6 := congrArg Int32.toInt ev6
  have f8 := aAT x1
  have f9 := aAT x2
  have f10 := aAT v6
  exact ts_X3_worthOf_54 dN pL xL hpost hK5 x1 x2 v6 x4 aDO hn5
set_option maxHeartbeats 8000000 in
set_option maxRecDepth 200000 in
theorem ts_X3_worthOf_5 {post : Int32 -> Prop} {next : Int32 -> Int32 -> Int32 -> Int32 -> Prop} {n5 : Int} (dN : Int32) (pL : Nat -> Int32) (xL : 0 <= Int32.toInt dN /\ Int32.toInt dN <= 16) (hpost : ∀ (r : Int32) , post r) (hKn : ∀ (x1 : Int32) (x2 : Int32) (x3 : Int32) (x4 : Int32), (0 <= Int32.toInt x4 /\ Int32.toInt x4 <= 16) -> (16 - Int32.toInt x4 < n5) -> next x1 x2 x3 x4) (x1 x2 x3 x4 : Int32) (aDO : 0 <= Int32.toInt x4 /\ Int32.toInt x4 <= 16) (hn5 : 16 - Int32.toInt x4 <= n5) : ws_X3_worthOf_5 post next dN pL x1 x2 x3 x4 := by
  have l0 := aE0
  have l1 := aEc
  refine And.intro (fun c11 => ?_) (fun c11 => ?_)
  · skip
    have c11 := (aAO _ _).mp c11
    exact hpost _ 
  · skip
    have c11 := mt (aAO _ _).mpr c11
    intro v12 ev12
    have f14 := aAQ v12 1 (by omega)
    refine And.intro (fun c13 => ?_) (fun c13 => ?_)
    · skip
      have c13 := (zJ _ _).mp c13
      have f15 := aAT x1
      have f16 := aAT x2
      have f17 := aAT x3
      exact ts_X3_worthOf_54 dN pL xL hpost hKn x1 x2 x3 x4 (by omega) hn5
    · skip
      have c13 := mt (zJ _ _).mpr c13
      intro v18 ev18
      have f20 := aAQ v18 1 (by omega)
      refine And.intro (fun c19 => ?_) (fun c19 => ?_)
      · skip
        have c19 := (zJ _ _).mp c19
        refine And.intro (aBZ (by omega)) ?_
        intro v21 ev21
        have hv21 := congrArg Int32.toInt ev21
        have f23 := aAT x1
        have f24 := aAT x2
        have f25 := aAT x3
        have f26 := aAT v21
        exact ts_X3_worthOf_52 dN pL xL hpost hKn x1 x2 x4 x3 v21 (by omega) hn5
      · skip
        have c19 := mt (zJ _ _).mpr c19
        refine And.intro (aBZ (by omega)) ?_
        intro v27 ev27
        have hv27 := congrArg Int32.toInt ev27
        intro v29 ev29
        have f30 := aAT x1
        have f31 := aAT x2
        have f32 := aAT x3
        have f33 := aAT v29
        exact ts_X3_worthOf_52 dN pL xL hpost hKn x1 x2 x4 x3 v29 (by omega) hn5
set_option maxHeartbeats 8000000 in
set_option maxRecDepth 200000 in
theorem tb_X3_worthOf_5 {post : Int32 -> Prop} (dN : Int32) (pL : Nat -> Int32) (xL : 0 <= Int32.toInt dN /\ Int32.toInt dN <= 16) (hpost : ∀ (r : Int32) , post r) : ∀ (n : Nat) (x1 x2 x3 x4 : Int32), (0 <= Int32.toInt x4 /\ Int32.toInt x4 <= 16) -> (16 - Int32.toInt x4 < (n : Int)) -> wb_X3_worthOf_5 post dN pL n x1 x2 x3 x4 := by
  intro n
  induction n with
  | zero =>
    intro x1 x2 x3 x4 aDO hm
    exfalso; omega
  | succ n ih =>
    intro x1 x2 x3 x4 aDO hm
    exact ts_X3_worthOf_5 dN pL xL hpost ih x1 x2 x3 x4 aDO (by omega)
set_option maxHeartbeats 8000000 in
set_option maxRecDepth 200000 in
theorem aUx {post : Int32 -> Prop} {p0 p1 dN : Int32} {pL : Nat -> Int32} (xL : 0 <= Int32.toInt dN /\ Int32.toInt dN <= 16) (hpost : ∀ (r : Int32) , post r) : wp_X3_worthOf post p0 p1 dN pL := by
  have l0 := aE0
  have f34 := aAT p0
  have f35 := aAT p1
  exact ⟨18, tb_X3_worthOf_5 dN pL xL hpost _ p0 p1 0 0 (by omega) (by omega)⟩
set_option maxHeartbeats 8000000 in
set_option maxRecDepth 200000 in
theorem ts_X7_reckon_136 {post : Int32 -> (Nat -> Int32) -> Prop} (pQ : Int32) (qY pN : Nat -> Int32) (zU : 1 <= Int32.toInt pQ /\ Int32.toInt pQ <= 40) (hpost : ∀ (r : Int32) (aB4 : Nat -> Int32), post r aB4) (x1 : Int32) (qU : Nat -> Int32) (aBK : 0 <= Int32.toInt x1 /\ Int32.toInt x1 <= 40) : ws_X7_reckon_136 post pQ qY pN x1 qU := by
  have l0 := aE0
  have l1 := aEc
  refine And.intro (fun c1 => ?_) (fun c1 => ?_)
  · skip
    have c1 := (aAO _ _).mp c1
    exact hpost _ _ 
  · skip
    have c1 := mt (aAO _ _).mpr c1
    intro v2 ev2
    have f3 : Int32.toInt (x1 - 1) = Int32.toInt x1 - Int32.toInt (1 : Int32) := aCA _ _ (by omega)
    rw [<- ev2] at f3
    refine And.intro (aBZ (by omega)) ?_
    intro v4 ev4
    have hv4 := congrArg Int32.toInt ev4
    exact hpost _ _ 
set_option maxHeartbeats 8000000 in
set_option maxRecDepth 200000 in
theorem aKE {post : Int32 -> (Nat -> Int32) -> Prop} {K4 : Int32 -> Int32 -> (Nat -> Int32) -> Prop} {n4 : Int} (pQ : Int32) (qY pN : Nat -> Int32) (zU : 1 <= Int32.toInt pQ /\ Int32.toInt pQ <= 40) (hpost : ∀ (r : Int32) (aB4 : Nat -> Int32), post r aB4) (hK4 : ∀ (x1 : Int32) (x2 : Int32) (qU : Nat -> Int32), (0 <= Int32.toInt x1 /\ Int32.toInt x1 <= 40) -> (0 <= Int32.toInt x2 /\ Int32.toInt x2 <= 48) -> (48 - Int32.toInt x2 < n4) -> K4 x1 x2 qU) (x1 x2 : Int32) (qU : Nat -> Int32) (aBK : 0 <= Int32.toInt x1 /\ Int32.toInt x1 <= 40) (aBN : 0 <= Int32.toInt x2 /\ Int32.toInt x2 <= 40) (hn4 : 48 - Int32.toInt x2 <= n4) : aRg post K4 pQ qY pN x1 x2 qU := by
  have l0 := aEc
  intro v6 ev6
  have f7 : Int32.toInt (x2 + 1) = Int32.toInt x2 + Int32.toInt (1 : Int32) := aAD _ _ (by omega)
  rw [<- ev6] at f7
  exact hK4 x1 v6 qU aBK (by omega) (by omega)
set_option maxHeartbeats 8000000 in
set_option maxRecDepth 200000 in
theorem ts_X7_reckon_4 {post : Int32 -> (Nat -> Int32) -> Prop} {next : Int32 -> Int32 -> (Nat -> Int32) -> Prop} {n4 : Int} (pQ : Int32) (qY pN : Nat -> Int32) (zU : 1 <= Int32.toInt pQ /\ Int32.toInt pQ <= 40) (hpost : ∀ (r : Int32) (aB4 : Nat -> Int32), post r aB4) (hKn : ∀ (x1 : Int32) (x2 : Int32) (qU : Nat -> Int32), (0 <= Int32.toInt x1 /\ Int32.toInt x1 <= 40) -> (0 <= Int32.toInt x2 /\ Int32.toInt x2 <= 48) -> (48 - Int32.toInt x2 < n4) -> next x1 x2 qU) (x1 x2 : Int32) (qU : Nat -> Int32) (aBK : 0 <= Int32.toInt x1 /\ Int32.toInt x1 <= 40) (aBN : 0 <= Int32.toInt x2 /\ Int32.toInt x2 <= 48) (hn4 : 48 - Int32.toInt x2 <= n4) : ws_X7_reckon_4 post next pQ qY pN x1 x2 qU := by
  have l0 := aI2
  have l1 := aE0
  have l2 := aEc
  have l3 := li_2000
  have l4 := li_2256
  have l5 := li_40
  have l6 := li_42
  have l7 := li_43
  have l8 := li_45
  have l9 := li_60
  have l10 := li_61
  have l11 := li_62
  have l12 := li_7
  refine And.intro (fun c8 => ?_) (fun c8 => ?_)
  · skip
    have c8 := (aAO _ _).mp c8
    exact ts_X7_reckon_136 pQ qY pN zU hpost x1 qU aBK
  · skip
    have c8 := mt (aAO _ _).mpr c8
    refine And.intro (fun c9 => ?_) (fun c9 => ?_)
    · skip
      have c9 := (aAO _ _).mp c9
      exfalso; omega
    · skip
      have c9 := mt (aAO _ _).mpr c9
      refine And.intro (aBZ (by omega)) ?_
      intro v10 ev10
      have hv10 := congrArg Int32.toInt ev10
      have f13 := aAT v10
      refine And.intro (fun c12 => ?_) (fun c12 => ?_)
      · skip
        have c12 := (aAO _ _).mp c12
        refine And.intro (fun c14 => ?_) (fun c14 => ?_)
        · skip
          have c14 := mt (zJ _ _).mpr c14
          refine And.intro (fun c15 => ?_) (fun c15 => ?_)
          · skip
            have c15 := (aAO _ _).mp c15
            exact aKE pQ qY pN zU hpost hKn x1 x2 qU aBK (by omega) hn4
          · skip
            have c15 := mt (aAO _ _).mpr c15
            intro v16 ev16
            have f17 : Int32.toInt (x1 + (-1)) = Int32.toInt x1 + Int32.toInt ((-1) : Int32) := aAD _ _ (by omega)
            rw [<- ev16] at f17
            intro v18 ev18
            have f19 : Int32.toInt (v16 - 1) = Int32.toInt v16 - Int32.toInt (1 : Int32) := aCA _ _ (by omega)
            rw [<- ev18] at f19
            intro v20 ev20
            have f21 : Int32.toInt (v10 - 2000) = Int32.toInt v10 - Int32.toInt (2000 : Int32) := aCA _ _ (by omega)
            rw [<- ev20] at f21
            intro v22 ev22
            have hv22 := congrArg Int32.toInt (ev22.trans ev18.symm)
            refine And.intro (aBZ (by omega)) ?_
            intro v23 ev23
            have hv23 := congrArg Int32.toInt ev23
            refine And.intro (aBZ (by omega)) ?_
            intro v25 ev25
            have hv25 := congrArg Int32.toInt ev25
            refine And.intro (fun c27 => ?_) ?_
            · skip
              have c27 := (zJ _ _).mp c27
              refine And.intro (aBZ (by omega)) ?_
              exact aKE pQ qY pN zU hpost hKn v16 x2 (upd qU v18.toNatClampNeg (v23 * v25)) (by omega) (by omega) hn4
            refine And.intro (fun c28 => ?_) ?_
            · skip
              have c28 := (zJ _ _).mp c28
              refine And.intro (aBZ (by omega)) ?_
              exact aKE pQ qY pN zU hpost hKn v16 x2 (upd qU v18.toNatClampNeg (v23 + v25)) (by omega) (by omega) hn4
            refine And.intro (fun c29 => ?_) ?_
            · skip
              have c29 := (zJ _ _).mp c29
              refine And.intro (aBZ (by omega)) ?_
              exact aKE pQ qY pN zU hpost hKn v16 x2 (upd qU v18.toNatClampNeg (v23 - v25)) (by omega) (by omega) hn4
            refine And.intro (fun c30 => ?_) ?_
            · skip
              have c30 := (zJ _ _).mp c30
              have f32 := aAT v23
              have f33 := aAT v25
              refine And.intro (fun c31 => ?_) (fun c31 => ?_)
              · skip
                have c31 := (aAO _ _).mp c31
                refine And.intro (aBZ (by omega)) ?_
                exact aKE pQ qY pN zU hpost hKn v16 x2 (upd qU v18.toNatClampNeg 0) (by omega) (by omega) hn4
              · skip
                have c31 := mt (aAO _ _).mpr c31
                refine And.intro (aBZ (by omega)) ?_
                exact aKE pQ qY pN zU hpost hKn v16 x2 (upd qU v18.toNatClampNeg 1) (by omega) (by omega) hn4
            refine And.intro (fun c34 => ?_) ?_
            · skip
              have c34 := (zJ _ _).mp c34
              have f36 := aAT v23
              have f37 := aAT v25
              refine And.intro (fun c35 => ?_) (fun c35 => ?_)
              · skip
                have c35 := mt (zJ _ _).mpr c35
                refine And.intro (aBZ (by omega)) ?_
                exact aKE pQ qY pN zU hpost hKn v16 x2 (upd qU v18.toNatClampNeg 0) (by omega) (by omega) hn4
              · skip
                have c35 := (zJ _ _).mp c35
                refine And.intro (aBZ (by omega)) ?_
                exact aKE pQ qY pN zU hpost hKn v16 x2 (upd qU v18.toNatClampNeg 1) (by omega) (by omega) hn4
            refine And.intro (fun c38 => ?_) ?_
            · skip
              have c38 := (zJ _ _).mp c38
              have f40 := aAT v23
              have f41 := aAT v25
              refine And.intro (fun c39 => ?_) (fun c39 => ?_)
              · skip
                have c39 := (aAO _ _).mp c39
                refine And.intro (aBZ (by omega)) ?_
                exact aKE pQ qY pN zU hpost hKn v16 x2 (upd qU v18.toNatClampNeg 0) (by omega) (by omega) hn4
              · skip
                have c39 := mt (aAO _ _).mpr c39
                refine And.intro (aBZ (by omega)) ?_
                exact aKE pQ qY pN zU hpost hKn v16 x2 (upd qU v18.toNatClampNeg 1) (by omega) (by omega) hn4
            intro c42 c43 c44 c45 c46 c47
            have c42 := mt (zJ _ _).mpr c42
            have c43 := mt (zJ _ _).mpr c43
            have c44 := mt (zJ _ _).mpr c44
            have c45 := mt (zJ _ _).mpr c45
            have c46 := mt (zJ _ _).mpr c46
            have c47 := mt (zJ _ _).mpr c47
            have f49 := aAT v25
            refine And.intro (fun c48 => ?_) (fun c48 => ?_)
            · skip
              have c48 := mt (zJ _ _).mpr c48
              refine And.intro (mt (zJ _ _).mp (by omega)) ?_
              refine And.intro (aBZ (by omega)) ?_
              exact aKE pQ qY pN zU hpost hKn v16 x2 (upd qU v18.toNatClampNeg (v23 / v25)) (by omega) (by omega) hn4
            · skip
              have c48 := (zJ _ _).mp c48
              refine And.intro (aBZ (by omega)) ?_
              exact aKE pQ qY pN zU hpost hKn v16 x2 (upd qU v18.toNatClampNeg 0) (by omega) (by omega) hn4
        · skip
          have c14 := (zJ _ _).mp c14
          refine And.intro (fun c50 => ?_) (fun c50 => ?_)
          · skip
            have c50 := (aAO _ _).mp c50
            exact aKE pQ qY pN zU hpost hKn x1 x2 qU aBK (by omega) hn4
          · skip
            have c50 := mt (aAO _ _).mpr c50
            intro v51 ev51
            have f52 : Int32.toInt (x1 - 1) = Int32.toInt x1 - Int32.toInt (1 : Int32) := aCA _ _ (by omega)
            rw [<- ev51] at f52
            intro v53 ev53
            have hv53 := congrArg Int32.toInt (ev53.trans ev51.symm)
            refine And.intro (aBZ (by omega)) ?_
            intro v54 ev54
            refine And.intro (aBZ (by omega)) ?_
            exact aKE pQ qY pN zU hpost hKn x1 x2 (upd qU v51.toNatClampNeg v54) aBK (by omega) hn4
      · skip
        have c12 := mt (aAO _ _).mpr c12
        refine And.intro (fun c55 => ?_) (fun c55 => ?_)
        · skip
          have c55 := (aAO _ _).mp c55
          exact aKE pQ qY pN zU hpost hKn x1 x2 qU aBK (by omega) hn4
        · skip
          have c55 := mt (aAO _ _).mpr c55
          intro v56 ev56
          have hv56 := congrArg Int32.toInt ev56
          have f59 := aAT v56
          refine And.intro (fun c58 => ?_) (fun c58 => ?_)
          · skip
            have c58 := (aAd _ _).mp c58
            refine And.intro (aBZ (by omega)) ?_
            intro v60 ev60
            have f61 : Int32.toInt (x1 + 1) = Int32.toInt x1 + Int32.toInt (1 : Int32) := aAD _ _ (by omega)
            rw [<- ev60] at f61
            exact aKE pQ qY pN zU hpost hKn v60 x2 (upd qU x1.toNatClampNeg v10) (by omega) (by omega) hn4
          · skip
            have c58 := mt (aAd _ _).mpr c58
            refine And.intro (fun c62 => ?_) (fun c62 => ?_)
            · skip
              have c62 := (aAO _ _).mp c62
              refine And.intro (aBZ (by omega)) ?_
              intro v63 ev63
              have f64 : Int32.toInt (x1 + 1) = Int32.toInt x1 + Int32.toInt (1 : Int32) := aAD _ _ (by omega)
              rw [<- ev63] at f64
              exact aKE pQ qY pN zU hpost hKn v63 x2 (upd qU x1.toNatClampNeg v10) (by omega) (by omega) hn4
            · skip
              have c62 := mt (aAO _ _).mpr c62
              refine And.intro (aBZ (by omega)) ?_
              intro v65 ev65
              have hv65 := congrArg Int32.toInt ev65
              refine And.intro (aBZ (by omega)) ?_
              intro v67 ev67
              have f68 : Int32.toInt (x1 + 1) = Int32.toInt x1 + Int32.toInt (1 : Int32) := aAD _ _ (by omega)
              rw [<- ev67] at f68
              exact aKE pQ qY pN zU hpost hKn v67 x2 (upd qU x1.toNatClampNeg v65) (by omega) (by omega) hn4
set_option maxHeartbeats 8000000 in
set_option maxRecDepth 200000 in
theorem tb_X7_reckon_4 {post : Int32 -> (Nat -> Int32) -> Prop} (pQ : Int32) (qY pN : Nat -> Int32) (zU : 1 <= Int32.toInt pQ /\ Int32.toInt pQ <= 40) (hpost : ∀ (r : Int32) (aB4 : Nat -> Int32), post r aB4) : ∀ (n : Nat) (x1 x2 : Int32) (qU : Nat -> Int32), (0 <= Int32.toInt x1 /\ Int32.toInt x1 <= 40) -> (0 <= Int32.toInt x2 /\ Int32.toInt x2 <= 48) -> (48 - Int32.toInt x2 < (n : Int)) -> wb_X7_reckon_4 post pQ qY pN n x1 x2 qU := by
  intro n
  induction n with
  | zero =>
    intro x1 x2 qU aBK aBN hm
    exfalso; omega
  | succ n ih =>
    intro x1 x2 qU aBK aBN hm
    exact ts_X7_reckon_4 pQ qY pN zU hpost ih x1 x2 qU aBK aBN (by omega)
set_option maxHeartbeats 8000000 in
set_option maxRecDepth 200000 in
theorem t_X7_reckon {post : Int32 -> (Nat -> Int32) -> Prop} {pQ : Int32} {qY qU pN : Nat -> Int32} (zU : 1 <= Int32.toInt pQ /\ Int32.toInt pQ <= 40) (hpost : ∀ (r : Int32) (aB4 : Nat -> Int32), post r aB4) : wp_X7_reckon post pQ qY qU pN := by
  have l0 := aE0
  exact ⟨50, tb_X7_reckon_4 pQ qY pN zU hpost _ 0 0 qU (by omega) (by omega) (by omega)⟩
set_option maxHeartbeats 8000000 in
set_option maxRecDepth 200000 in
theorem ts_X0_pickSeconds_123 {post : Int32 -> (Nat -> Int32) -> (Nat -> Int32) -> Prop} (dN : Int32) (uU gF pL mX oE : Nat -> Int32) (dU pQ : Int32) (pN : Nat -> Int32) (xL : 0 <= Int32.toInt dN /\ Int32.toInt dN <= 16) (zU : 0 <= Int32.toInt pQ /\ Int32.toInt pQ <= 40) (hpost : ∀ (r : Int32) (aCG : Nat -> Int32) (aB4 : Nat -> Int32), (1 <= Int32.toInt r /\ Int32.toInt r <= 99) -> post r aCG aB4) (k0 : Int32) (qY qU : Nat -> Int32) : bCc post dN uU gF pL mX oE dU pQ pN k0 qY qU := by
  have l0 := aEc
  have l1 := li_99
  intro v1 ev1
  have f2 := aAT (if k0 < 99 then k0 else 99)
  have f4 := aAT k0
  have f3 := ti_min (99 : Int32) k0
  have hv1 := congrArg Int32.toInt ev1
  intro v5 ev5
  have f7 := aAT v1
  have f6 := ti_max (1 : Int32) v1
  have hv5 := congrArg Int32.toInt ev5
  exact hpost _ _ _ (by omega)
set_option maxHeartbeats 8000000 in
set_option maxRecDepth 200000 in
theorem ts_X0_pickSeconds_92 {post : Int32 -> (Nat -> Int32) -> (Nat -> Int32) -> Prop} (dN : Int32) (uU gF pL mX oE : Nat -> Int32) (dU pQ : Int32) (pN : Nat -> Int32) (xL : 0 <= Int32.toInt dN /\ Int32.toInt dN <= 16) (zU : 0 <= Int32.toInt pQ /\ Int32.toInt pQ <= 40) (hpost : ∀ (r : Int32) (aCG : Nat -> Int32) (aB4 : Nat -> Int32), (1 <= Int32.toInt r /\ Int32.toInt r <= 99) -> post r aCG aB4) (x6 x7 : Int32) (qY qU : Nat -> Int32) : ws_X0_pickSeconds_92 post dN uU gF pL mX oE dU pQ pN x6 x7 qY qU := by
  have l0 := aE0
  refine And.intro (fun c8 => ?_) (fun c8 => ?_)
  · skip
    have c8 := mt (zJ _ _).mpr c8
    refine t_X7_reckon (by omega) (fun r10 ru_stack_9 => ?_)
    have f11 := aAT r10
    exact ts_X0_pickSeconds_123 dN uU gF pL mX oE dU pQ pN xL zU hpost r10 qY ru_stack_9 
  · skip
    have c8 := (zJ _ _).mp c8
    intro v12 ev12
    have hv12 := congrArg Int32.toInt ev12
    intro v14 ev14
    have hv14 := congrArg Int32.toInt ev14
    have f16 := aAT v14
    exact ts_X0_pickSeconds_123 dN uU gF pL mX oE dU pQ pN xL zU hpost v14 qY qU 
set_option maxHeartbeats 8000000 in
set_option maxRecDepth 200000 in
theorem aUV {post : Int32 -> (Nat -> Int32) -> (Nat -> Int32) -> Prop} {p0 p1 p2 p3 dN : Int32} {uU gF pL mX oE : Nat -> Int32} {dU pQ : Int32} {qY qU pN : Nat -> Int32} (h_p0 : 0 <= Int32.toInt p0 /\ Int32.toInt p0 <= 15) (h_p1 : 0 <= Int32.toInt p1 /\ Int32.toInt p1 <= 7) (h_p3 : 0 <= Int32.toInt p3 /\ Int32.toInt p3 <= 63) (xL : 0 <= Int32.toInt dN /\ Int32.toInt dN <= 16) (zU : 0 <= Int32.toInt pQ /\ Int32.toInt pQ <= 40) (hpost : ∀ (r : Int32) (aCG : Nat -> Int32) (aB4 : Nat -> Int32), (1 <= Int32.toInt r /\ Int32.toInt r <= 99) -> post r aCG aB4) : aSP post p0 p1 p2 p3 dN uU gF pL mX oE dU pQ qY qU pN := by
  have l0 := aE0
  have l1 := aEc
  have l2 := li_2
  have l3 := li_3
  have l4 := li_4
  have l5 := li_5
  have l6 := li_6
  refine And.intro (aBZ (by omega)) ?_
  intro v17 ev17
  have hv17 := congrArg Int32.toInt ev17
  refine And.intro (aBZ (by omega)) ?_
  have f20 := aAT v17
  refine And.intro (fun c19 => ?_) (fun c19 => ?_)
  · skip
    have c19 := (aAO _ _).mp c19
    refine And.intro (aBZ (by omega)) ?_
    intro v22 ev22
    have hv22 := congrArg Int32.toInt ev22
    refine And.intro (aBZ (by omega)) ?_
    refine And.intro (aBZ (by omega)) ?_
    intro v23 ev23
    have hv23 := congrArg Int32.toInt ev23
    refine And.intro (aBZ (by omega)) ?_
    have f26 := aAT v23
    refine And.intro (fun c25 => ?_) (fun c25 => ?_)
    · skip
      have c25 := (aAO _ _).mp c25
      refine And.intro (aBZ (by omega)) ?_
      intro v28 ev28
      have hv28 := congrArg Int32.toInt ev28
      intro v29 ev29
      have f30 := aDv 15 32768 p0 (by decide) (by omega)
      have hv29 := congrArg Int32.toInt ev29
      refine aUx xL (fun r31 => ?_)
      exact ts_X0_pickSeconds_92 dN uU gF pL mX oE dU pQ pN xL zU hpost (v22 - (uU p0.toNatClampNeg)) 0 (upd (upd (upd (upd (upd (upd (upd qY (0 : Int32).toNatClampNeg (v22 - (uU p0.toNatClampNeg))) (1 : Int32).toNatClampNeg 0) (2 : Int32).toNatClampNeg v28) (3 : Int32).toNatClampNeg r31) (4 : Int32).toNatClampNeg p1) (5 : Int32).toNatClampNeg p3) (6 : Int32).toNatClampNeg p2) qU 
    · skip
      have c25 := mt (aAO _ _).mpr c25
      refine And.intro (aBZ (by omega)) ?_
      intro v33 ev33
      have hv33 := congrArg Int32.toInt ev33
      refine And.intro (aBZ (by omega)) ?_
      intro v34 ev34
      have hv34 := congrArg Int32.toInt ev34
      refine And.intro (aBZ (by omega)) ?_
      intro v36 ev36
      have hv36 := congrArg Int32.toInt ev36
      intro v37 ev37
      have f38 := aDv 15 32768 p0 (by decide) (by omega)
      have hv37 := congrArg Int32.toInt ev37
      refine aUx xL (fun r39 => ?_)
      have f41 := aAT v34
      exact ts_X0_pickSeconds_92 dN uU gF pL mX oE dU pQ pN xL zU hpost (v22 - (uU p0.toNatClampNeg)) v34 (upd (upd (upd (upd (upd (upd (upd qY (0 : Int32).toNatClampNeg (v22 - (uU p0.toNatClampNeg))) (1 : Int32).toNatClampNeg v34) (2 : Int32).toNatClampNeg v36) (3 : Int32).toNatClampNeg r39) (4 : Int32).toNatClampNeg p1) (5 : Int32).toNatClampNeg p3) (6 : Int32).toNatClampNeg p2) qU 
  · skip
    have c19 := mt (aAO _ _).mpr c19
    refine And.intro (aBZ (by omega)) ?_
    intro v42 ev42
    have hv42 := congrArg Int32.toInt ev42
    refine And.intro (aBZ (by omega)) ?_
    intro v43 ev43
    have hv43 := congrArg Int32.toInt ev43
    refine And.intro (aBZ (by omega)) ?_
    intro v45 ev45
    have hv45 := congrArg Int32.toInt ev45
    refine And.intro (aBZ (by omega)) ?_
    have f48 := aAT v45
    refine And.intro (fun c47 => ?_) (fun c47 => ?_)
    · skip
      have c47 := (aAO _ _).mp c47
      refine And.intro (aBZ (by omega)) ?_
      intro v50 ev50
      have hv50 := congrArg Int32.toInt ev50
      intro v51 ev51
      have f52 := aDv 15 32768 p0 (by decide) (by omega)
      have hv51 := congrArg Int32.toInt ev51
      refine aUx xL (fun r53 => ?_)
      have f54 := aAT v43
      exact ts_X0_pickSeconds_92 dN uU gF pL mX oE dU pQ pN xL zU hpost v43 0 (upd (upd (upd (upd (upd (upd (upd qY (0 : Int32).toNatClampNeg v43) (1 : Int32).toNatClampNeg 0) (2 : Int32).toNatClampNeg v50) (3 : Int32).toNatClampNeg r53) (4 : Int32).toNatClampNeg p1) (5 : Int32).toNatClampNeg p3) (6 : Int32).toNatClampNeg p2) qU 
    · skip
      have c47 := mt (aAO _ _).mpr c47
      refine And.intro (aBZ (by omega)) ?_
      intro v55 ev55
      have hv55 := congrArg Int32.toInt ev55
      refine And.intro (aBZ (by omega)) ?_
      intro v56 ev56
      have hv56 := congrArg Int32.toInt ev56
      refine And.intro (aBZ (by omega)) ?_
      intro v58 ev58
      have hv58 := congrArg Int32.toInt ev58
      intro v59 ev59
      have f60 := aDv 15 32768 p0 (by decide) (by omega)
      have hv59 := congrArg Int32.toInt ev59
      refine aUx xL (fun r61 => ?_)
      have f62 := aAT v43
      have f63 := aAT v56
      exact ts_X0_pickSeconds_92 dN uU gF pL mX oE dU pQ pN xL zU hpost v43 v56 (upd (upd (upd (upd (upd (upd (upd qY (0 : Int32).toNatClampNeg v43) (1 : Int32).toNatClampNeg v56) (2 : Int32).toNatClampNeg v58) (3 : Int32).toNatClampNeg r61) (4 : Int32).toNatClampNeg p1) (5 : Int32).toNatClampNeg p3) (6 : Int32).toNatClampNeg p2) qU 
set_option maxHeartbeats 8000000 in
set_option maxRecDepth 200000 in
theorem t_X0_pickFruit {post : Int32 -> Int32 -> Int32 -> Int32 -> (Nat -> Int32) -> (Nat -> Int32) -> Prop} {p0 p1 dN : Int32} {uU gF pL qF mX oE dY : Nat -> Int32} {jE eW eY dU fY gJ jG nU pQ : Int32} {qY qU pN : Nat -> Int32} (xL : 0 <= Int32.toInt dN /\ Int32.toInt dN <= 16) (aAC : -1 <= Int32.toInt fY /\ Int32.toInt fY <= 7) (zK : 0 <= Int32.toInt jG /\ Int32.toInt jG <= 9) (zU : 0 <= Int32.toInt pQ /\ Int32.toInt pQ <= 40) (hpost : ∀ (r : Int32) (aHN : Int32) (aFB : Int32) (aFi : Int32) (aCG : Nat -> Int32) (aB4 : Nat -> Int32), (-5 <= Int32.toInt r /\ Int32.toInt r <= 99) -> post r aHN aFB aFi aCG aB4) : wp_X0_pickFruit post p0 p1 dN uU gF pL qF mX oE dY jE eW eY dU fY gJ jG nU pQ qY qU pN := by
  have l0 := aI2
  have l1 := li_m2
  have l2 := li_m3
  have l3 := li_m4
  have l4 := li_m5
  have l5 := aE0
  have l6 := aEc
  have l7 := li_2
  have l8 := aJ8
  have l9 := li_4
  have l10 := li_63
  have l11 := aJ9
  have l12 := li_9999
  have f2 := aAT p0
  refine And.intro (fun c1 => ?_) (fun c1 => ?_)
  · skip
    have c1 := (aAd _ _).mp c1
    refine And.intro (fun _ => ?_) (fun h9 => absurd h9 (by decide))
    exact hpost _ _ _ _ _ _ (by omega)
  · skip
    have c1 := mt (aAd _ _).mpr c1
    refine And.intro (fun c3 => ?_) (fun c3 => ?_)
    · skip
      have c3 := (aAO _ _).mp c3
      refine And.intro (fun _ => ?_) (fun h9 => absurd h9 (by decide))
      exact hpost _ _ _ _ _ _ (by omega)
    · skip
      have c3 := mt (aAO _ _).mpr c3
      refine And.intro (fun h9 => absurd h9 (by decide)) (fun _ => ?_)
      refine t_X9_isYesOrNo  (fun r4 h_r4 => ?_)
      refine And.intro (fun c5 => ?_) (fun c5 => ?_)
      · skip
        have c5 := mt (zJ _ _).mpr c5
        intro v6 ev6
        have f7 := aDv 16 65536 dN (by decide) (by omega)
        have hv6 := congrArg Int32.toInt ev6
        intro v8 ev8
        intro v9 ev9
        intro v10 ev10
        have f13 : Int32.toInt (v6 - 1) = Int32.toInt v6 - Int32.toInt (1 : Int32) := aCA _ _ (by omega)
        have f14 := aBx (v6 - 1) (v9 ^^^ (-1)) (by omega)
        have f11 := aRJ ((v6 - 1) &&& (v9 ^^^ (-1))) p0 (by omega)
        have hv10 := congrArg Int32.toInt ev10
        have f16 := aAQ v10 1 (by omega)
        have f17 := aBx v10 1 (by omega)
        refine And.intro (fun c15 => ?_) (fun c15 => ?_)
        · skip
          have c15 := mt (zJ _ _).mpr c15
          refine And.intro (aBZ (by omega)) ?_
          intro v18 ev18
          have hv18 := congrArg Int32.toInt ev18
          have f21 := aAT v18
          refine And.intro (fun c20 => ?_) (fun c20 => ?_)
          · skip
            have c20 := (aAO _ _).mp c20
            refine And.intro (fun c22 => ?_) (fun c22 => ?_)
            · skip
              have c22 := (zJ _ _).mp c22
              exact hpost _ _ _ _ _ _ (by omega)
            · skip
              have c22 := mt (zJ _ _).mpr c22
              intro v23 ev23
              have hv23 := congrArg Int32.toInt ev23
              intro v25 ev25
              have hv25 := congrArg Int32.toInt ev25
              refine And.intro (aBZ (by omega)) ?_
              intro v27 ev27
              have hv27 := congrArg Int32.toInt ev27
              refine And.intro (aBZ (by omega)) ?_
              have f30 := aAT v27
              refine And.intro (fun c29 => ?_) (fun c29 => ?_)
              · skip
                have c29 := (aAO _ _).mp c29
                refine And.intro (aBZ (by omega)) ?_
                intro v32 ev32
                have hv32 := congrArg Int32.toInt ev32
                refine And.intro (aBZ (by omega)) ?_
                refine And.intro (aBZ (by omega)) ?_
                intro v33 ev33
                have hv33 := congrArg Int32.toInt ev33
                refine And.intro (aBZ (by omega)) ?_
                have f36 := aAT v33
                refine And.intro (fun c35 => ?_) (fun c35 => ?_)
                · skip
                  have c35 := (aAO _ _).mp c35
                  intro v38 ev38
                  have hv38 := congrArg Int32.toInt ev38
                  intro v40 ev40
                  have f42 := aAT v38
                  have f43 : Int32.toInt (0 * 0) = Int32.toInt (0 : Int32) * 0 := ta_mulc _ _ (by decide) (by omega)
                  have f41 : Int32.toInt (v38 + (0 * 0)) = Int32.toInt v38 + Int32.toInt (0 * 0) := aAD _ _ (by omega)
                  rw [<- ev40] at f41
                  have f45 := aAT v40
                  refine And.intro (fun c44 => ?_) (fun c44 => ?_)
                  · skip
                    have c44 := (aAd _ _).mp c44
                    refine And.intro (fun h9 => absurd h9 (by decide)) (fun _ => ?_)
                    exact hpost _ _ _ _ _ _ (by omega)
                  · skip
                    have c44 := mt (aAd _ _).mpr c44
                    refine And.intro (fun _ => ?_) (fun h9 => absurd h9 (by decide))
                    intro v47 ev47
                    intro v48 ev48
                    have hv48 := congrArg Int32.toInt ev48
                    intro v50 ev50
                    have f51 := aAQ v48 858993459 (by omega)
                    have hv50 := congrArg Int32.toInt ev50
                    intro v52 ev52
                    intro v53 ev53
                    have f55 := aAQ v52 858993459 (by omega)
                    have f54 : Int32.toInt (v50 + (v52 &&& 858993459)) = Int32.toInt v50 + Int32.toInt (v52 &&& 858993459) := aAD _ _ (by omega)
                    rw [<- ev53] at f54
                    intro v56 ev56
                    have hv56 := congrArg Int32.toInt ev56
                    intro v58 ev58
                    have f59 := aAQ v56 252645135 (by omega)
                    have hv58 := congrArg Int32.toInt ev58
                    intro v60 ev60
                    have hv60 := congrArg Int32.toInt ev60
                    intro v62 ev62
                    have hv62 := congrArg Int32.toInt ev62
                    have f65 := aAQ v62 63 (by omega)
                    refine And.intro (fun c64 => ?_) (fun c64 => ?_)
                    · skip
                      have c64 := (aAd _ _).mp c64
                      refine aUV (by omega) (by omega) (by omega) xL zU (fun r69 ru_given_67 ru_stack_68 h_r69 => ?_)
                      refine t_X3_lowerThan (by omega) (by omega) (by omega) (fun r70 h_r70 => ?_)
                      intro v71 ev71
                      intro v72 ev72
                      intro v73 ev73
                      have hv73 := congrArg Int32.toInt ev73
                      intro v75 ev75
                      have f76 := aAT (if v73 < 9999 then v73 else 9999)
                      have f78 := aAT v73
                      have f77 := ti_min (9999 : Int32) v73
                      have hv75 := congrArg Int32.toInt ev75
                      exact hpost _ _ _ _ _ _ (by omega)
                    · skip
                      have c64 := mt (aAd _ _).mpr c64
                      exact hpost _ _ _ _ _ _ (by omega)
                · skip
                  have c35 := mt (aAO _ _).mpr c35
                  refine And.intro (aBZ (by omega)) ?_
                  intro v79 ev79
                  have hv79 := congrArg Int32.toInt ev79
                  refine And.intro (aBZ (by omega)) ?_
                  intro v80 ev80
                  have hv80 := congrArg Int32.toInt ev80
                  intro v82 ev82
                  have hv82 := congrArg Int32.toInt ev82
                  intro v84 ev84
                  have hv84 := congrArg Int32.toInt ev84
                  have f87 := aAT v84
                  refine And.intro (fun c86 => ?_) (fun c86 => ?_)
                  · skip
                    have c86 := (aAd _ _).mp c86
                    refine And.intro (fun h9 => absurd h9 (by decide)) (fun _ => ?_)
                    exact hpost _ _ _ _ _ _ (by omega)
                  · skip
                    have c86 := mt (aAd _ _).mpr c86
                    refine And.intro (fun _ => ?_) (fun h9 => absurd h9 (by decide))
                    intro v89 ev89
                    intro v90 ev90
                    have hv90 := congrArg Int32.toInt ev90
                    intro v92 ev92
                    have f93 := aAQ v90 858993459 (by omega)
                    have hv92 := congrArg Int32.toInt ev92
                    intro v94 ev94
                    intro v95 ev95
                    have f97 := aAQ v94 858993459 (by omega)
                    have f96 : Int32.toInt (v92 + (v94 &&& 858993459)) = Int32.toInt v92 + Int32.toInt (v94 &&& 858993459) := aAD _ _ (by omega)
                    rw [<- ev95] at f96
                    intro v98 ev98
                    have hv98 := congrArg Int32.toInt ev98
                    intro v100 ev100
                    have f101 := aAQ v98 252645135 (by omega)
                    have hv100 := congrArg Int32.toInt ev100
                    intro v102 ev102
                    have hv102 := congrArg Int32.toInt ev102
                    intro v104 ev104
                    have hv104 := congrArg Int32.toInt ev104
                    have f107 := aAQ v104 63 (by omega)
                    refine And.intro (fun c106 => ?_) (fun c106 => ?_)
                    · skip
                      have c106 := (aAd _ _).mp c106
                      refine aUV (by omega) (by omega) (by omega) xL zU (fun r111 ru_given_109 ru_stack_110 h_r111 => ?_)
                      refine t_X3_lowerThan (by omega) (by omega) (by omega) (fun r112 h_r112 => ?_)
                      intro v113 ev113
                      intro v114 ev114
                      intro v115 ev115
                      have hv115 := congrArg Int32.toInt ev115
                      intro v117 ev117
                      have f118 := aAT (if v115 < 9999 then v115 else 9999)
                      have f120 := aAT v115
                      have f119 := ti_min (9999 : Int32) v115
                      have hv117 := congrArg Int32.toInt ev117
                      exact hpost _ _ _ _ _ _ (by omega)
                    · skip
                      have c106 := mt (aAd _ _).mpr c106
                      exact hpost _ _ _ _ _ _ (by omega)
              · skip
                have c29 := mt (aAO _ _).mpr c29
                refine And.intro (aBZ (by omega)) ?_
                intro v121 ev121
                have hv121 := congrArg Int32.toInt ev121
                refine And.intro (aBZ (by omega)) ?_
                intro v122 ev122
                have hv122 := congrArg Int32.toInt ev122
                refine And.intro (aBZ (by omega)) ?_
                intro v124 ev124
                have hv124 := congrArg Int32.toInt ev124
                refine And.intro (aBZ (by omega)) ?_
                have f127 := aAT v124
                refine And.intro (fun c126 => ?_) (fun c126 => ?_)
                · skip
                  have c126 := (aAO _ _).mp c126
                  intro v129 ev129
                  have hv129 := congrArg Int32.toInt ev129
                  intro v131 ev131
                  have f133 := aAT v129
                  have f134 : Int32.toInt (0 * 0) = Int32.toInt (0 : Int32) * 0 := ta_mulc _ _ (by decide) (by omega)
                  have f132 : Int32.toInt (v129 + (0 * 0)) = Int32.toInt v129 + Int32.toInt (0 * 0) := aAD _ _ (by omega)
                  rw [<- ev131] at f132
                  have f136 := aAT v131
                  refine And.intro (fun c135 => ?_) (fun c135 => ?_)
                  · skip
                    have c135 := (aAd _ _).mp c135
                    refine And.intro (fun h9 => absurd h9 (by decide)) (fun _ => ?_)
                    exact hpost _ _ _ _ _ _ (by omega)
                  · skip
                    have c135 := mt (aAd _ _).mpr c135
                    refine And.intro (fun _ => ?_) (fun h9 => absurd h9 (by decide))
                    intro v138 ev138
                    intro v139 ev139
                    have hv139 := congrArg Int32.toInt ev139
                    intro v141 ev141
                    have f142 := aAQ v139 858993459 (by omega)
                    have hv141 := congrArg Int32.toInt ev141
                    intro v143 ev143
                    intro v144 ev144
                    have f146 := aAQ v143 858993459 (by omega)
                    have f145 : Int32.toInt (v141 + (v143 &&& 858993459)) = Int32.toInt v141 + Int32.toInt (v143 &&& 858993459) := aAD _ _ (by omega)
                    rw [<- ev144] at f145
                    intro v147 ev147
                    have hv147 := congrArg Int32.toInt ev147
                    intro v149 ev149
                    have f150 := aAQ v147 252645135 (by omega)
                    have hv149 := congrArg Int32.toInt ev149
                    intro v151 ev151
                    have hv151 := congrArg Int32.toInt ev151
                    intro v153 ev153
                    have hv153 := congrArg Int32.toInt ev153
                    have f156 := aAQ v153 63 (by omega)
                    refine And.intro (fun c155 => ?_) (fun c155 => ?_)
                    · skip
                      have c155 := (aAd _ _).mp c155
                      refine aUV (by omega) (by omega) (by omega) xL zU (fun r160 ru_given_158 ru_stack_159 h_r160 => ?_)
                      refine t_X3_lowerThan (by omega) (by omega) (by omega) (fun r161 h_r161 => ?_)
                      intro v162 ev162
                      intro v163 ev163
                      intro v164 ev164
                      have hv164 := congrArg Int32.toInt ev164
                      intro v166 ev166
                      have f167 := aAT (if v164 < 9999 then v164 else 9999)
                      have f169 := aAT v164
                      have f168 := ti_min (9999 : Int32) v164
                      have hv166 := congrArg Int32.toInt ev166
                      exact hpost _ _ _ _ _ _ (by omega)
                    · skip
                      have c155 := mt (aAd _ _).mpr c155
                      exact hpost _ _ _ _ _ _ (by omega)
                · skip
                  have c126 := mt (aAO _ _).mpr c126
                  refine And.intro (aBZ (by omega)) ?_
                  intro v170 ev170
                  have hv170 := congrArg Int32.toInt ev170
                  refine And.intro (aBZ (by omega)) ?_
                  intro v171 ev171
                  have hv171 := congrArg Int32.toInt ev171
                  intro v173 ev173
                  have hv173 := congrArg Int32.toInt ev173
                  intro v175 ev175
                  have hv175 := congrArg Int32.toInt ev175
                  have f178 := aAT v175
                  refine And.intro (fun c177 => ?_) (fun c177 => ?_)
                  · skip
                    have c177 := (aAd _ _).mp c177
                    refine And.intro (fun h9 => absurd h9 (by decide)) (fun _ => ?_)
                    exact hpost _ _ _ _ _ _ (by omega)
                  · skip
                    have c177 := mt (aAd _ _).mpr c177
                    refine And.intro (fun _ => ?_) (fun h9 => absurd h9 (by decide))
                    intro v180 ev180
                    intro v181 ev181
                    have hv181 := congrArg Int32.toInt ev181
                    intro v183 ev183
                    have f184 := aAQ v181 858993459 (by omega)
                    have hv183 := congrArg Int32.toInt ev183
                    intro v185 ev185
                    intro v186 ev186
                    have f188 := aAQ v185 858993459 (by omega)
                    have f187 : Int32.toInt (v183 + (v185 &&& 858993459)) = Int32.toInt v183 + Int32.toInt (v185 &&& 858993459) := aAD _ _ (by omega)
                    rw [<- ev186] at f187
                    intro v189 ev189
                    have hv189 := congrArg Int32.toInt ev189
                    intro v191 ev191
                    have f192 := aAQ v189 252645135 (by omega)
                    have hv191 := congrArg Int32.toInt ev191
                    intro v193 ev193
                    have hv193 := congrArg Int32.toInt ev193
                    intro v195 ev195
                    have hv195 := congrArg Int32.toInt ev195
                    have f198 := aAQ v195 63 (by omega)
                    refine And.intro (fun c197 => ?_) (fun c197 => ?_)
                    · skip
                      have c197 := (aAd _ _).mp c197
                      refine aUV (by omega) (by omega) (by omega) xL zU (fun r202 ru_given_200 ru_stack_201 h_r202 => ?_)
                      refine t_X3_lowerThan (by omega) (by omega) (by omega) (fun r203 h_r203 => ?_)
                      intro v204 ev204
                      intro v205 ev205
                      intro v206 ev206
                      have hv206 := congrArg Int32.toInt ev206
                      intro v208 ev208
                      have f209 := aAT (if v206 < 9999 then v206 else 9999)
                      have f211 := aAT v206
                      have f210 := ti_min (9999 : Int32) v206
                      have hv208 := congrArg Int32.toInt ev208
                      exact hpost _ _ _ _ _ _ (by omega)
                    · skip
                      have c197 := mt (aAd _ _).mpr c197
                      exact hpost _ _ _ _ _ _ (by omega)
          · skip
            have c20 := mt (aAO _ _).mpr c20
            exact hpost _ _ _ _ _ _ (by omega)
        · skip
          have c15 := (zJ _ _).mp c15
          exact hpost _ _ _ _ _ _ (by omega)
      · skip
        have c5 := (zJ _ _).mp c5
        exact hpost _ _ _ _ _ _ (by omega)
set_option maxHeartbeats 8000000 in
set_option maxRecDepth 200000 in
theorem t_X9_pick {post : Int32 -> Int32 -> Int32 -> Int32 -> (Nat -> Int32) -> (Nat -> Int32) -> Int32 -> Int32 -> (Nat -> Int32) -> Prop} {p0 p1 dN : Int32} {uU gF pL qF mX oE dY : Nat -> Int32} {jE eW eY dU fY gJ jG nU pQ : Int32} {qY qU pN : Nat -> Int32} {pR uM : Int32} {tD : Nat -> Int32} (xL : 0 <= Int32.toInt dN /\ Int32.toInt dN <= 16) (aAC : -1 <= Int32.toInt fY /\ Int32.toInt fY <= 7) (zK : 0 <= Int32.toInt jG /\ Int32.toInt jG <= 9) (zU : 0 <= Int32.toInt pQ /\ Int32.toInt pQ <= 40) (aAr : 0 <= Int32.toInt pR /\ Int32.toInt pR <= 12) (aBy : 0 <= Int32.toInt uM /\ Int32.toInt uM <= 12) (aBF : ∀ k : Nat, k % 8 = 4 -> -1 <= Int32.toInt (tD k) /\ Int32.toInt (tD k) <= 7) (aBG : ∀ k : Nat, k % 8 = 6 -> 0 <= Int32.toInt (tD k) /\ Int32.toInt (tD k) <= 9) (hpost : ∀ (r : Int32) (aHN : Int32) (aFB : Int32) (aFi : Int32) (aCG : Nat -> Int32) (aB4 : Nat -> Int32) (aBa : Int32) (aEN : Int32) (aCN : Nat -> Int32), (-5 <= Int32.toInt r /\ Int32.toInt r <= 99) -> (0 <= Int32.toInt aBa /\ Int32.toInt aBa <= 12) -> (0 <= Int32.toInt aEN /\ Int32.toInt aEN <= 12) -> (∀ k : Nat, k % 8 = 4 -> -1 <= Int32.toInt (aCN k) /\ Int32.toInt (aCN k) <= 7) -> (∀ k : Nat, k % 8 = 6 -> 0 <= Int32.toInt (aCN k) /\ Int32.toInt (aCN k) <= 9) -> post r aHN aFB aFi aCG aB4 aBa aEN aCN) : wp_X9_pick post p0 p1 dN uU gF pL qF mX oE dY jE eW eY dU fY gJ jG nU pQ qY qU pN pR uM tD := by
  have l0 := aE0
  have l1 := aEc
  have l2 := li_104
  have l3 := li_12
  have l4 := li_13
  have l5 := li_2
  have l6 := li_3
  have l7 := li_4
  have l8 := li_5
  have l9 := li_6
  have l10 := li_7
  have l11 := li_8
  intro v1 ev1
  have f2 : Int32.toInt (uM * 8) = Int32.toInt uM * 8 := ta_mulc _ _ (by decide) (by omega)
  rw [<- ev1] at f2
  refine And.intro (fun c3 => ?_) (fun c3 => ?_)
  · skip
    have c3 := (aAd _ _).mp c3
    exfalso; omega
  · skip
    have c3 := mt (aAd _ _).mpr c3
    have f5 : Int32.toInt (104 - 8) = Int32.toInt (104 : Int32) - Int32.toInt (8 : Int32) := aCA _ _ (by omega)
    refine And.intro (fun c4 => ?_) (fun c4 => ?_)
    · skip
      have c4 := (aAO _ _).mp c4
      refine And.intro (aBZ (by omega)) ?_
      have f7 := aAT jE
      have e6 : ∀ k : Nat, k % 8 = 4 -> -1 <= Int32.toInt ((upd tD v1.toNatClampNeg jE) k) /\ Int32.toInt ((upd tD v1.toNatClampNeg jE) k) <= 7 := aCJ (C := fun k => k % 8 = 4) aBF (fun hk => by have e9 : v1.toNatClampNeg = (Int32.toInt v1).toNat := rfl; have hk : v1.toNatClampNeg % 8 = 4 := hk; omega)
      have e8 : ∀ k : Nat, k % 8 = 6 -> 0 <= Int32.toInt ((upd tD v1.toNatClampNeg jE) k) /\ Int32.toInt ((upd tD v1.toNatClampNeg jE) k) <= 9 := aCJ (C := fun k => k % 8 = 6) aBG (fun hk => by have e9 : v1.toNatClampNeg = (Int32.toInt v1).toNat := rfl; have hk : v1.toNatClampNeg % 8 = 6 := hk; omega)
      intro v9 ev9
      have f10 : Int32.toInt (v1 + 1) = Int32.toInt v1 + Int32.toInt (1 : Int32) := aAD _ _ (by omega)
      rw [<- ev9] at f10
      refine And.intro (aBZ (by omega)) ?_
      have f12 := aAT eW
      have e11 : ∀ k : Nat, k % 8 = 4 -> -1 <= Int32.toInt ((upd (upd tD v1.toNatClampNeg jE) v9.toNatClampNeg eW) k) /\ Int32.toInt ((upd (upd tD v1.toNatClampNeg jE) v9.toNatClampNeg eW) k) <= 7 := aCJ (C := fun k => k % 8 = 4) e6 (fun hk => by have e9 : v9.toNatClampNeg = (Int32.toInt v9).toNat := rfl; have hk : v9.toNatClampNeg % 8 = 4 := hk; omega)
      have e13 : ∀ k : Nat, k % 8 = 6 -> 0 <= Int32.toInt ((upd (upd tD v1.toNatClampNeg jE) v9.toNatClampNeg eW) k) /\ Int32.toInt ((upd (upd tD v1.toNatClampNeg jE) v9.toNatClampNeg eW) k) <= 9 := aCJ (C := fun k => k % 8 = 6) e8 (fun hk => by have e9 : v9.toNatClampNeg = (Int32.toInt v9).toNat := rfl; have hk : v9.toNatClampNeg % 8 = 6 := hk; omega)
      intro v14 ev14
      have f15 : Int32.toInt (v1 + 2) = Int32.toInt v1 + Int32.toInt (2 : Int32) := aAD _ _ (by omega)
      rw [<- ev14] at f15
      refine And.intro (aBZ (by omega)) ?_
      have f17 := aAT eY
      have e16 : ∀ k : Nat, k % 8 = 4 -> -1 <= Int32.toInt ((upd (upd (upd tD v1.toNatClampNeg jE) v9.toNatClampNeg eW) v14.toNatClampNeg eY) k) /\ Int32.toInt ((upd (upd (upd tD v1.toNatClampNeg jE) v9.toNatClampNeg eW) v14.toNatClampNeg eY) k) <= 7 := aCJ (C := fun k => k % 8 = 4) e11 (fun hk => by have e9 : v14.toNatClampNeg = (Int32.toInt v14).toNat := rfl; have hk : v14.toNatClampNeg % 8 = 4 := hk; omega)
      have e18 : ∀ k : Nat, k % 8 = 6 -> 0 <= Int32.toInt ((upd (upd (upd tD v1.toNatClampNeg jE) v9.toNatClampNeg eW) v14.toNatClampNeg eY) k) /\ Int32.toInt ((upd (upd (upd tD v1.toNatClampNeg jE) v9.toNatClampNeg eW) v14.toNatClampNeg eY) k) <= 9 := aCJ (C := fun k => k % 8 = 6) e13 (fun hk => by have e9 : v14.toNatClampNeg = (Int32.toInt v14).toNat := rfl; have hk : v14.toNatClampNeg % 8 = 6 := hk; omega)
      intro v19 ev19
      have f20 : Int32.toInt (v1 + 3) = Int32.toInt v1 + Int32.toInt (3 : Int32) := aAD _ _ (by omega)
      rw [<- ev19] at f20
      refine And.intro (aBZ (by omega)) ?_
      have f22 := aAT dU
      have e21 : ∀ k : Nat, k % 8 = 4 -> -1 <= Int32.toInt ((upd (upd (upd (upd tD v1.toNatClampNeg jE) v9.toNatClampNeg eW) v14.toNatClampNeg eY) v19.toNatClampNeg dU) k) /\ Int32.toInt ((upd (upd (upd (upd tD v1.toNatClampNeg jE) v9.toNatClampNeg eW) v14.toNatClampNeg eY) v19.toNatClampNeg dU) k) <= 7 := aCJ (C := fun k => k % 8 = 4) e16 (fun hk => by have e9 : v19.toNatClampNeg = (Int32.toInt v19).toNat := rfl; have hk : v19.toNatClampNeg % 8 = 4 := hk; omega)
      have e23 : ∀ k : Nat, k % 8 = 6 -> 0 <= Int32.toInt ((upd (upd (upd (upd tD v1.toNatClampNeg jE) v9.toNatClampNeg eW) v14.toNatClampNeg eY) v19.toNatClampNeg dU) k) /\ Int32.toInt ((upd (upd (upd (upd tD v1.toNatClampNeg jE) v9.toNatClampNeg eW) v14.toNatClampNeg eY) v19.toNatClampNeg dU) k) <= 9 := aCJ (C := fun k => k % 8 = 6) e18 (fun hk => by have e9 : v19.toNatClampNeg = (Int32.toInt v19).toNat := rfl; have hk : v19.toNatClampNeg % 8 = 6 := hk; omega)
      intro v24 ev24
      have f25 : Int32.toInt (v1 + 4) = Int32.toInt v1 + Int32.toInt (4 : Int32) := aAD _ _ (by omega)
      rw [<- ev24] at f25
      refine And.intro (aBZ (by omega)) ?_
      have e26 : ∀ k : Nat, k % 8 = 4 -> -1 <= Int32.toInt ((upd (upd (upd (upd (upd tD v1.toNatClampNeg jE) v9.toNatClampNeg eW) v14.toNatClampNeg eY) v19.toNatClampNeg dU) v24.toNatClampNeg fY) k) /\ Int32.toInt ((upd (upd (upd (upd (upd tD v1.toNatClampNeg jE) v9.toNatClampNeg eW) v14.toNatClampNeg eY) v19.toNatClampNeg dU) v24.toNatClampNeg fY) k) <= 7 := aCJ (C := fun k => k % 8 = 4) e21 (fun hk => by have e9 : v24.toNatClampNeg = (Int32.toInt v24).toNat := rfl; have hk : v24.toNatClampNeg % 8 = 4 := hk; omega)
      have e27 : ∀ k : Nat, k % 8 = 6 -> 0 <= Int32.toInt ((upd (upd (upd (upd (upd tD v1.toNatClampNeg jE) v9.toNatClampNeg eW) v14.toNatClampNeg eY) v19.toNatClampNeg dU) v24.toNatClampNeg fY) k) /\ Int32.toInt ((upd (upd (upd (upd (upd tD v1.toNatClampNeg jE) v9.toNatClampNeg eW) v14.toNatClampNeg eY) v19.toNatClampNeg dU) v24.toNatClampNeg fY) k) <= 9 := aCJ (C := fun k => k % 8 = 6) e23 (fun hk => by have e9 : v24.toNatClampNeg = (Int32.toInt v24).toNat := rfl; have hk : v24.toNatClampNeg % 8 = 6 := hk; omega)
      intro v28 ev28
      have f29 : Int32.toInt (v1 + 5) = Int32.toInt v1 + Int32.toInt (5 : Int32) := aAD _ _ (by omega)
      rw [<- ev28] at f29
      refine And.intro (aBZ (by omega)) ?_
      have f31 := aAT gJ
      have e30 : ∀ k : Nat, k % 8 = 4 -> -1 <= Int32.toInt ((upd (upd (upd (upd (upd (upd tD v1.toNatClampNeg jE) v9.toNatClampNeg eW) v14.toNatClampNeg eY) v19.toNatClampNeg dU) v24.toNatClampNeg fY) v28.toNatClampNeg gJ) k) /\ Int32.toInt ((upd (upd (upd (upd (upd (upd tD v1.toNatClampNeg jE) v9.toNatClampNeg eW) v14.toNatClampNeg eY) v19.toNatClampNeg dU) v24.toNatClampNeg fY) v28.toNatClampNeg gJ) k) <= 7 := aCJ (C := fun k => k % 8 = 4) e26 (fun hk => by have e9 : v28.toNatClampNeg = (Int32.toInt v28).toNat := rfl; have hk : v28.toNatClampNeg % 8 = 4 := hk; omega)
      have e32 : ∀ k : Nat, k % 8 = 6 -> 0 <= Int32.toInt ((upd (upd (upd (upd (upd (upd tD v1.toNatClampNeg jE) v9.toNatClampNeg eW) v14.toNatClampNeg eY) v19.toNatClampNeg dU) v24.toNatClampNeg fY) v28.toNatClampNeg gJ) k) /\ Int32.toInt ((upd (upd (upd (upd (upd (upd tD v1.toNatClampNeg jE) v9.toNatClampNeg eW) v14.toNatClampNeg eY) v19.toNatClampNeg dU) v24.toNatClampNeg fY) v28.toNatClampNeg gJ) k) <= 9 := aCJ (C := fun k => k % 8 = 6) e27 (fun hk => by have e9 : v28.toNatClampNeg = (Int32.toInt v28).toNat := rfl; have hk : v28.toNatClampNeg % 8 = 6 := hk; omega)
      intro v33 ev33
      have f34 : Int32.toInt (v1 + 6) = Int32.toInt v1 + Int32.toInt (6 : Int32) := aAD _ _ (by omega)
      rw [<- ev33] at f34
      refine And.intro (aBZ (by omega)) ?_
      have e35 : ∀ k : Nat, k % 8 = 4 -> -1 <= Int32.toInt ((upd (upd (upd (upd (upd (upd (upd tD v1.toNatClampNeg jE) v9.toNatClampNeg eW) v14.toNatClampNeg eY) v19.toNatClampNeg dU) v24.toNatClampNeg fY) v28.toNatClampNeg gJ) v33.toNatClampNeg jG) k) /\ Int32.toInt ((upd (upd (upd (upd (upd (upd (upd tD v1.toNatClampNeg jE) v9.toNatClampNeg eW) v14.toNatClampNeg eY) v19.toNatClampNeg dU) v24.toNatClampNeg fY) v28.toNatClampNeg gJ) v33.toNatClampNeg jG) k) <= 7 := aCJ (C := fun k => k % 8 = 4) e30 (fun hk => by have e9 : v33.toNatClampNeg = (Int32.toInt v33).toNat := rfl; have hk : v33.toNatClampNeg % 8 = 4 := hk; omega)
      have e36 : ∀ k : Nat, k % 8 = 6 -> 0 <= Int32.toInt ((upd (upd (upd (upd (upd (upd (upd tD v1.toNatClampNeg jE) v9.toNatClampNeg eW) v14.toNatClampNeg eY) v19.toNatClampNeg dU) v24.toNatClampNeg fY) v28.toNatClampNeg gJ) v33.toNatClampNeg jG) k) /\ Int32.toInt ((upd (upd (upd (upd (upd (upd (upd tD v1.toNatClampNeg jE) v9.toNatClampNeg eW) v14.toNatClampNeg eY) v19.toNatClampNeg dU) v24.toNatClampNeg fY) v28.toNatClampNeg gJ) v33.toNatClampNeg jG) k) <= 9 := aCJ (C := fun k => k % 8 = 6) e32 (fun hk => by have e9 : v33.toNatClampNeg = (Int32.toInt v33).toNat := rfl; have hk : v33.toNatClampNeg % 8 = 6 := hk; omega)
      intro v37 ev37
      have f38 : Int32.toInt (v1 + 7) = Int32.toInt v1 + Int32.toInt (7 : Int32) := aAD _ _ (by omega)
      rw [<- ev37] at f38
      refine And.intro (aBZ (by omega)) ?_
      have f40 := aAT nU
      have e39 : ∀ k : Nat, k % 8 = 4 -> -1 <= Int32.toInt ((upd (upd (upd (upd (upd (upd (upd (upd tD v1.toNatClampNeg jE) v9.toNatClampNeg eW) v14.toNatClampNeg eY) v19.toNatClampNeg dU) v24.toNatClampNeg fY) v28.toNatClampNeg gJ) v33.toNatClampNeg jG) v37.toNatClampNeg nU) k) /\ Int32.toInt ((upd (upd (upd (upd (upd (upd (upd (upd tD v1.toNatClampNeg jE) v9.toNatClampNeg eW) v14.toNatClampNeg eY) v19.toNatClampNeg dU) v24.toNatClampNeg fY) v28.toNatClampNeg gJ) v33.toNatClampNeg jG) v37.toNatClampNeg nU) k) <= 7 := aCJ (C := fun k => k % 8 = 4) e35 (fun hk => by have e9 : v37.toNatClampNeg = (Int32.toInt v37).toNat := rfl; have hk : v37.toNatClampNeg % 8 = 4 := hk; omega)
      have e41 : ∀ k : Nat, k % 8 = 6 -> 0 <= Int32.toInt ((upd (upd (upd (upd (upd (upd (upd (upd tD v1.toNatClampNeg jE) v9.toNatClampNeg eW) v14.toNatClampNeg eY) v19.toNatClampNeg dU) v24.toNatClampNeg fY) v28.toNatClampNeg gJ) v33.toNatClampNeg jG) v37.toNatClampNeg nU) k) /\ Int32.toInt ((upd (upd (upd (upd (upd (upd (upd (upd tD v1.toNatClampNeg jE) v9.toNatClampNeg eW) v14.toNatClampNeg eY) v19.toNatClampNeg dU) v24.toNatClampNeg fY) v28.toNatClampNeg gJ) v33.toNatClampNeg jG) v37.toNatClampNeg nU) k) <= 9 := aCJ (C := fun k => k % 8 = 6) e36 (fun hk => by have e9 : v37.toNatClampNeg = (Int32.toInt v37).toNat := rfl; have hk : v37.toNatClampNeg % 8 = 6 := hk; omega)
      refine t_X0_pickFruit xL aAC zK zU (fun r47 no_apron_42 no_bruised_43 no_clock_44 ru_given_45 ru_stack_46 h_r47 => ?_)
      refine And.intro (fun c48 => ?_) (fun c48 => ?_)
      · skip
        have c48 := (aAd _ _).mp c48
        exact hpost _ _ _ _ _ _ _ _ _ h_r47 aAr aBy e39 e41
      · skip
        have c48 := mt (aAd _ _).mpr c48
        intro v49 ev49
        have f50 : Int32.toInt (uM + 1) = Int32.toInt uM + Int32.toInt (1 : Int32) := aAD _ _ (by omega)
        rw [<- ev49] at f50
        intro v51 ev51
        have f52 : Int32.toInt (v49 - v49 / 13 * 13) = Int32.toInt v49 % 13 := ti_rem _ _ (by decide) (by omega) (by decide)
        rw [<- ev51] at f52
        intro v53 ev53
        have f54 : Int32.toInt (pR + 1) = Int32.toInt pR + Int32.toInt (1 : Int32) := aAD _ _ (by omega)
        rw [<- ev53] at f54
        intro v55 ev55
        have f56 := ti_min (12 : Int32) v53
        have hv55 := congrArg Int32.toInt ev55
        exact hpost _ _ _ _ _ _ _ _ _ h_r47 (by omega) (by omega) e39 e41
    · skip
      have c4 := mt (aAO _ _).mpr c4
      exfalso; omega
set_option maxHeartbeats 8000000 in
set_option maxRecDepth 200000 in
theorem t_X9_down {post : Int32 -> Int32 -> Int32 -> Int32 -> Int32 -> Int32 -> (Nat -> Int32) -> Prop} {oE : Nat -> Int32} {jE eW eY dU fY gJ jG nU pR uM : Int32} {tD : Nat -> Int32} (aAC : -1 <= Int32.toInt fY /\ Int32.toInt fY <= 7) (zK : 0 <= Int32.toInt jG /\ Int32.toInt jG <= 9) (aAr : 0 <= Int32.toInt pR /\ Int32.toInt pR <= 12) (aBy : 0 <= Int32.toInt uM /\ Int32.toInt uM <= 12) (aBF : ∀ k : Nat, k % 8 = 4 -> -1 <= Int32.toInt (tD k) /\ Int32.toInt (tD k) <= 7) (aBG : ∀ k : Nat, k % 8 = 6 -> 0 <= Int32.toInt (tD k) /\ Int32.toInt (tD k) <= 9) (hpost : ∀ (r : Int32) (aHN : Int32) (aGq : Int32) (aFi : Int32) (aBa : Int32) (aEN : Int32) (aCN : Nat -> Int32), (-2 <= Int32.toInt r /\ Int32.toInt r <= 63) -> (0 <= Int32.toInt aBa /\ Int32.toInt aBa <= 12) -> (0 <= Int32.toInt aEN /\ Int32.toInt aEN <= 12) -> (∀ k : Nat, k % 8 = 4 -> -1 <= Int32.toInt (aCN k) /\ Int32.toInt (aCN k) <= 7) -> (∀ k : Nat, k % 8 = 6 -> 0 <= Int32.toInt (aCN k) /\ Int32.toInt (aCN k) <= 9) -> post r aHN aGq aFi aBa aEN aCN) : wp_X9_down post oE jE eW eY dU fY gJ jG nU pR uM tD := by
  have l0 := aI2
  have l1 := li_m2
  have l2 := aE0
  have l3 := aEc
  have l4 := li_104
  have l5 := li_12
  have l6 := li_13
  have l7 := li_2
  have l8 := aJ8
  have l9 := li_3
  have l10 := li_4
  have l11 := li_5
  have l12 := li_6
  have l13 := li_63
  have l14 := li_7
  have l15 := li_8
  have l16 := aJ9
  have l17 := li_9999
  intro v1 ev1
  have f2 : Int32.toInt (uM * 8) = Int32.toInt uM * 8 := ta_mulc _ _ (by decide) (by omega)
  rw [<- ev1] at f2
  refine And.intro (fun c3 => ?_) (fun c3 => ?_)
  · skip
    have c3 := (aAd _ _).mp c3
    exfalso; omega
  · skip
    have c3 := mt (aAd _ _).mpr c3
    have f5 : Int32.toInt (104 - 8) = Int32.toInt (104 : Int32) - Int32.toInt (8 : Int32) := aCA _ _ (by omega)
    refine And.intro (fun c4 => ?_) (fun c4 => ?_)
    · skip
      have c4 := (aAO _ _).mp c4
      refine And.intro (aBZ (by omega)) ?_
      have f7 := aAT jE
      have e6 : ∀ k : Nat, k % 8 = 4 -> -1 <= Int32.toInt ((upd tD v1.toNatClampNeg jE) k) /\ Int32.toInt ((upd tD v1.toNatClampNeg jE) k) <= 7 := aCJ (C := fun k => k % 8 = 4) aBF (fun hk => by have e9 : v1.toNatClampNeg = (Int32.toInt v1).toNat := rfl; have hk : v1.toNatClampNeg % 8 = 4 := hk; omega)
      have e8 : ∀ k : Nat, k % 8 = 6 -> 0 <= Int32.toInt ((upd tD v1.toNatClampNeg jE) k) /\ Int32.toInt ((upd tD v1.toNatClampNeg jE) k) <= 9 := aCJ (C := fun k => k % 8 = 6) aBG (fun hk => by have e9 : v1.toNatClampNeg = (Int32.toInt v1).toNat := rfl; have hk : v1.toNatClampNeg % 8 = 6 := hk; omega)
      intro v9 ev9
      have f10 : Int32.toInt (v1 + 1) = Int32.toInt v1 + Int32.toInt (1 : Int32) := aAD _ _ (by omega)
      rw [<- ev9] at f10
      refine And.intro (aBZ (by omega)) ?_
      have f12 := aAT eW
      have e11 : ∀ k : Nat, k % 8 = 4 -> -1 <= Int32.toInt ((upd (upd tD v1.toNatClampNeg jE) v9.toNatClampNeg eW) k) /\ Int32.toInt ((upd (upd tD v1.toNatClampNeg jE) v9.toNatClampNeg eW) k) <= 7 := aCJ (C := fun k => k % 8 = 4) e6 (fun hk => by have e9 : v9.toNatClampNeg = (Int32.toInt v9).toNat := rfl; have hk : v9.toNatClampNeg % 8 = 4 := hk; omega)
      have e13 : ∀ k : Nat, k % 8 = 6 -> 0 <= Int32.toInt ((upd (upd tD v1.toNatClampNeg jE) v9.toNatClampNeg eW) k) /\ Int32.toInt ((upd (upd tD v1.toNatClampNeg jE) v9.toNatClampNeg eW) k) <= 9 := aCJ (C := fun k => k % 8 = 6) e8 (fun hk => by have e9 : v9.toNatClampNeg = (Int32.toInt v9).toNat := rfl; have hk : v9.toNatClampNeg % 8 = 6 := hk; omega)
      intro v14 ev14
      have f15 : Int32.toInt (v1 + 2) = Int32.toInt v1 + Int32.toInt (2 : Int32) := aAD _ _ (by omega)
      rw [<- ev14] at f15
      refine And.intro (aBZ (by omega)) ?_
      have f17 := aAT eY
      have e16 : ∀ k : Nat, k % 8 = 4 -> -1 <= Int32.toInt ((upd (upd (upd tD v1.toNatClampNeg jE) v9.toNatClampNeg eW) v14.toNatClampNeg eY) k) /\ Int32.toInt ((upd (upd (upd tD v1.toNatClampNeg jE) v9.toNatClampNeg eW) v14.toNatClampNeg eY) k) <= 7 := aCJ (C := fun k => k % 8 = 4) e11 (fun hk => by have e9 : v14.toNatClampNeg = (Int32.toInt v14).toNat := rfl; have hk : v14.toNatClampNeg % 8 = 4 := hk; omega)
      have e18 : ∀ k : Nat, k % 8 = 6 -> 0 <= Int32.toInt ((upd (upd (upd tD v1.toNatClampNeg jE) v9.toNatClampNeg eW) v14.toNatClampNeg eY) k) /\ Int32.toInt ((upd (upd (upd tD v1.toNatClampNeg jE) v9.toNatClampNeg eW) v14.toNatClampNeg eY) k) <= 9 := aCJ (C := fun k => k % 8 = 6) e13 (fun hk => by have e9 : v14.toNatClampNeg = (Int32.toInt v14).toNat := rfl; have hk : v14.toNatClampNeg % 8 = 6 := hk; omega)
      intro v19 ev19
      have f20 : Int32.toInt (v1 + 3) = Int32.toInt v1 + Int32.toInt (3 : Int32) := aAD _ _ (by omega)
      rw [<- ev19] at f20
      refine And.intro (aBZ (by omega)) ?_
      have f22 := aAT dU
      have e21 : ∀ k : Nat, k % 8 = 4 -> -1 <= Int32.toInt ((upd (upd (upd (upd tD v1.toNatClampNeg jE) v9.toNatClampNeg eW) v14.toNatClampNeg eY) v19.toNatClampNeg dU) k) /\ Int32.toInt ((upd (upd (upd (upd tD v1.toNatClampNeg jE) v9.toNatClampNeg eW) v14.toNatClampNeg eY) v19.toNatClampNeg dU) k) <= 7 := aCJ (C := fun k => k % 8 = 4) e16 (fun hk => by have e9 : v19.toNatClampNeg = (Int32.toInt v19).toNat := rfl; have hk : v19.toNatClampNeg % 8 = 4 := hk; omega)
      have e23 : ∀ k : Nat, k % 8 = 6 -> 0 <= Int32.toInt ((upd (upd (upd (upd tD v1.toNatClampNeg jE) v9.toNatClampNeg eW) v14.toNatClampNeg eY) v19.toNatClampNeg dU) k) /\ Int32.toInt ((upd (upd (upd (upd tD v1.toNatClampNeg jE) v9.toNatClampNeg eW) v14.toNatClampNeg eY) v19.toNatClampNeg dU) k) <= 9 := aCJ (C := fun k => k % 8 = 6) e18 (fun hk => by have e9 : v19.toNatClampNeg = (Int32.toInt v19).toNat := rfl; have hk : v19.toNatClampNeg % 8 = 6 := hk; omega)
      intro v24 ev24
      have f25 : Int32.toInt (v1 + 4) = Int32.toInt v1 + Int32.toInt (4 : Int32) := aAD _ _ (by omega)
      rw [<- ev24] at f25
      refine And.intro (aBZ (by omega)) ?_
      have e26 : ∀ k : Nat, k % 8 = 4 -> -1 <= Int32.toInt ((upd (upd (upd (upd (upd tD v1.toNatClampNeg jE) v9.toNatClampNeg eW) v14.toNatClampNeg eY) v19.toNatClampNeg dU) v24.toNatClampNeg fY) k) /\ Int32.toInt ((upd (upd (upd (upd (upd tD v1.toNatClampNeg jE) v9.toNatClampNeg eW) v14.toNatClampNeg eY) v19.toNatClampNeg dU) v24.toNatClampNeg fY) k) <= 7 := aCJ (C := fun k => k % 8 = 4) e21 (fun hk => by have e9 : v24.toNatClampNeg = (Int32.toInt v24).toNat := rfl; have hk : v24.toNatClampNeg % 8 = 4 := hk; omega)
      have e27 : ∀ k : Nat, k % 8 = 6 -> 0 <= Int32.toInt ((upd (upd (upd (upd (upd tD v1.toNatClampNeg jE) v9.toNatClampNeg eW) v14.toNatClampNeg eY) v19.toNatClampNeg dU) v24.toNatClampNeg fY) k) /\ Int32.toInt ((upd (upd (upd (upd (upd tD v1.toNatClampNeg jE) v9.toNatClampNeg eW) v14.toNatClampNeg eY) v19.toNatClampNeg dU) v24.toNatClampNeg fY) k) <= 9 := aCJ (C := fun k => k % 8 = 6) e23 (fun hk => by have e9 : v24.toNatClampNeg = (Int32.toInt v24).toNat := rfl; have hk : v24.toNatClampNeg % 8 = 6 := hk; omega)
      intro v28 ev28
      have f29 : Int32.toInt (v1 + 5) = Int32.toInt v1 + Int32.toInt (5 : Int32) := aAD _ _ (by omega)
      rw [<- ev28] at f29
      refine And.intro (aBZ (by omega)) ?_
      have f31 := aAT gJ
      have e30 : ∀ k : Nat, k % 8 = 4 -> -1 <= Int32.toInt ((upd (upd (upd (upd (upd (upd tD v1.toNatClampNeg jE) v9.toNatClampNeg eW) v14.toNatClampNeg eY) v19.toNatClampNeg dU) v24.toNatClampNeg fY) v28.toNatClampNeg gJ) k) /\ Int32.toInt ((upd (upd (upd (upd (upd (upd tD v1.toNatClampNeg jE) v9.toNatClampNeg eW) v14.toNatClampNeg eY) v19.toNatClampNeg dU) v24.toNatClampNeg fY) v28.toNatClampNeg gJ) k) <= 7 := aCJ (C := fun k => k % 8 = 4) e26 (fun hk => by have e9 : v28.toNatClampNeg = (Int32.toInt v28).toNat := rfl; have hk : v28.toNatClampNeg % 8 = 4 := hk; omega)
      have e32 : ∀ k : Nat, k % 8 = 6 -> 0 <= Int32.toInt ((upd (upd (upd (upd (upd (upd tD v1.toNatClampNeg jE) v9.toNatClampNeg eW) v14.toNatClampNeg eY) v19.toNatClampNeg dU) v24.toNatClampNeg fY) v28.toNatClampNeg gJ) k) /\ Int32.toInt ((upd (upd (upd (upd (upd (upd tD v1.toNatClampNeg jE) v9.toNatClampNeg eW) v14.toNatClampNeg eY) v19.toNatClampNeg dU) v24.toNatClampNeg fY) v28.toNatClampNeg gJ) k) <= 9 := aCJ (C := fun k => k % 8 = 6) e27 (fun hk => by have e9 : v28.toNatClampNeg = (Int32.toInt v28).toNat := rfl; have hk : v28.toNatClampNeg % 8 = 6 := hk; omega)
      intro v33 ev33
      have f34 : Int32.toInt (v1 + 6) = Int32.toInt v1 + Int32.toInt (6 : Int32) := aAD _ _ (by omega)
      rw [<- ev33] at f34
      refine And.intro (aBZ (by omega)) ?_
      have e35 : ∀ k : Nat, k % 8 = 4 -> -1 <= Int32.toInt ((upd (upd (upd (upd (upd (upd (upd tD v1.toNatClampNeg jE) v9.toNatClampNeg eW) v14.toNatClampNeg eY) v19.toNatClampNeg dU) v24.toNatClampNeg fY) v28.toNatClampNeg gJ) v33.toNatClampNeg jG) k) /\ Int32.toInt ((upd (upd (upd (upd (upd (upd (upd tD v1.toNatClampNeg jE) v9.toNatClampNeg eW) v14.toNatClampNeg eY) v19.toNatClampNeg dU) v24.toNatClampNeg fY) v28.toNatClampNeg gJ) v33.toNatClampNeg jG) k) <= 7 := aCJ (C := fun k => k % 8 = 4) e30 (fun hk => by have e9 : v33.toNatClampNeg = (Int32.toInt v33).toNat := rfl; have hk : v33.toNatClampNeg % 8 = 4 := hk; omega)
      have e36 : ∀ k : Nat, k % 8 = 6 -> 0 <= Int32.toInt ((upd (upd (upd (upd (upd (upd (upd tD v1.toNatClampNeg jE) v9.toNatClampNeg eW) v14.toNatClampNeg eY) v19.toNatClampNeg dU) v24.toNatClampNeg fY) v28.toNatClampNeg gJ) v33.toNatClampNeg jG) k) /\ Int32.toInt ((upd (upd (upd (upd (upd (upd (upd tD v1.toNatClampNeg jE) v9.toNatClampNeg eW) v14.toNatClampNeg eY) v19.toNatClampNeg dU) v24.toNatClampNeg fY) v28.toNatClampNeg gJ) v33.toNatClampNeg jG) k) <= 9 := aCJ (C := fun k => k % 8 = 6) e32 (fun hk => by have e9 : v33.toNatClampNeg = (Int32.toInt v33).toNat := rfl; have hk : v33.toNatClampNeg % 8 = 6 := hk; omega)
      intro v37 ev37
      have f38 : Int32.toInt (v1 + 7) = Int32.toInt v1 + Int32.toInt (7 : Int32) := aAD _ _ (by omega)
      rw [<- ev37] at f38
      refine And.intro (aBZ (by omega)) ?_
      have f40 := aAT nU
      have e39 : ∀ k : Nat, k % 8 = 4 -> -1 <= Int32.toInt ((upd (upd (upd (upd (upd (upd (upd (upd tD v1.toNatClampNeg jE) v9.toNatClampNeg eW) v14.toNatClampNeg eY) v19.toNatClampNeg dU) v24.toNatClampNeg fY) v28.toNatClampNeg gJ) v33.toNatClampNeg jG) v37.toNatClampNeg nU) k) /\ Int32.toInt ((upd (upd (upd (upd (upd (upd (upd (upd tD v1.toNatClampNeg jE) v9.toNatClampNeg eW) v14.toNatClampNeg eY) v19.toNatClampNeg dU) v24.toNatClampNeg fY) v28.toNatClampNeg gJ) v33.toNatClampNeg jG) v37.toNatClampNeg nU) k) <= 7 := aCJ (C := fun k => k % 8 = 4) e35 (fun hk => by have e9 : v37.toNatClampNeg = (Int32.toInt v37).toNat := rfl; have hk : v37.toNatClampNeg % 8 = 4 := hk; omega)
      have e41 : ∀ k : Nat, k % 8 = 6 -> 0 <= Int32.toInt ((upd (upd (upd (upd (upd (upd (upd (upd tD v1.toNatClampNeg jE) v9.toNatClampNeg eW) v14.toNatClampNeg eY) v19.toNatClampNeg dU) v24.toNatClampNeg fY) v28.toNatClampNeg gJ) v33.toNatClampNeg jG) v37.toNatClampNeg nU) k) /\ Int32.toInt ((upd (upd (upd (upd (upd (upd (upd (upd tD v1.toNatClampNeg jE) v9.toNatClampNeg eW) v14.toNatClampNeg eY) v19.toNatClampNeg dU) v24.toNatClampNeg fY) v28.toNatClampNeg gJ) v33.toNatClampNeg jG) v37.toNatClampNeg nU) k) <= 9 := aCJ (C := fun k => k % 8 = 6) e36 (fun hk => by have e9 : v37.toNatClampNeg = (Int32.toInt v37).toNat := rfl; have hk : v37.toNatClampNeg % 8 = 6 := hk; omega)
      refine And.intro (fun c42 => ?_) (fun c42 => ?_)
      · skip
        have c42 := (zJ _ _).mp c42
        refine And.intro (fun _ => ?_) (fun h9 => absurd h9 (by decide))
        exact hpost _ _ _ _ _ _ _ (by omega) aAr aBy e39 e41
      · skip
        have c42 := mt (zJ _ _).mpr c42
        refine And.intro (fun c43 => ?_) (fun c43 => ?_)
        · skip
          have c43 := mt (zJ _ _).mpr c43
          intro v44 ev44
          intro v45 ev45
          have hv45 := congrArg Int32.toInt ev45
          intro v47 ev47
          have f48 := aAQ v45 858993459 (by omega)
          have hv47 := congrArg Int32.toInt ev47
          intro v49 ev49
          intro v50 ev50
          have f52 := aAQ v49 858993459 (by omega)
          have f51 : Int32.toInt (v47 + (v49 &&& 858993459)) = Int32.toInt v47 + Int32.toInt (v49 &&& 858993459) := aAD _ _ (by omega)
          rw [<- ev50] at f51
          intro v53 ev53
          have hv53 := congrArg Int32.toInt ev53
          intro v55 ev55
          have f56 := aAQ v53 252645135 (by omega)
          have hv55 := congrArg Int32.toInt ev55
          intro v57 ev57
          have hv57 := congrArg Int32.toInt ev57
          intro v59 ev59
          have hv59 := congrArg Int32.toInt ev59
          intro v61 ev61
          refine And.intro (aBZ (by omega)) ?_
          intro v62 ev62
          have hv62 := congrArg Int32.toInt ev62
          intro v64 ev64
          have hv64 := congrArg Int32.toInt ev64
          intro v66 ev66
          have hv66 := congrArg Int32.toInt ev66
          intro v68 ev68
          have f69 := aAT (if v66 < 9999 then v66 else 9999)
          have f71 := aAT v66
          have f70 := ti_min (9999 : Int32) v66
          have hv68 := congrArg Int32.toInt ev68
          have f73 := aAQ v59 63 (by omega)
          refine And.intro (fun c72 => ?_) (fun c72 => ?_)
          · skip
            have c72 := (aAd _ _).mp c72
            exfalso; omega
          · skip
            have c72 := mt (aAd _ _).mpr c72
            intro v74 ev74
            have f75 : Int32.toInt (uM + 1) = Int32.toInt uM + Int32.toInt (1 : Int32) := aAD _ _ (by omega)
            rw [<- ev74] at f75
            intro v76 ev76
            have f77 : Int32.toInt (v74 - v74 / 13 * 13) = Int32.toInt v74 % 13 := ti_rem _ _ (by decide) (by omega) (by decide)
            rw [<- ev76] at f77
            intro v78 ev78
            have f79 : Int32.toInt (pR + 1) = Int32.toInt pR + Int32.toInt (1 : Int32) := aAD _ _ (by omega)
            rw [<- ev78] at f79
            intro v80 ev80
            have f81 := ti_min (12 : Int32) v78
            have hv80 := congrArg Int32.toInt ev80
            exact hpost _ _ _ _ _ _ _ (by omega) (by omega) (by omega) e39 e41
        · skip
          have c43 := (zJ _ _).mp c43
          refine And.intro (fun _ => ?_) (fun h9 => absurd h9 (by decide))
          exact hpost _ _ _ _ _ _ _ (by omega) aAr aBy e39 e41
    · skip
      have c4 := mt (aAO _ _).mpr c4
      exfalso; omega
set_option maxHeartbeats 8000000 in
set_option maxRecDepth 200000 in
theorem ts_X3_within_32 {post : Int32 -> Prop} {K5 : Int32 -> Int32 -> Int32 -> Int32 -> Prop} {n5 : Int} (dN : Int32) (uU gF mX oE : Nat -> Int32) (xL : 0 <= Int32.toInt dN /\ Int32.toInt dN <= 16) (hpost : ∀ (r : Int32) , (0 <= Int32.toInt r /\ Int32.toInt r <= 65535) -> post r) (hK5 : ∀ (x1 : Int32) (x2 : Int32) (x3 : Int32) (x4 : Int32), (0 <= Int32.toInt x1 /\ Int32.toInt x1 <= 7) -> (0 <= Int32.toInt x3 /\ Int32.toInt x3 <= 65535) -> (0 <= Int32.toInt x4 /\ Int32.toInt x4 <= 16) -> (16 - Int32.toInt x4 < n5) -> K5 x1 x2 x3 x4) (x1 x2 x3 x4 : Int32) (aBK : 0 <= Int32.toInt x1 /\ Int32.toInt x1 <= 7) (aCH : 0 <= Int32.toInt x3 /\ Int32.toInt x3 <= 65535) (aDO : 0 <= Int32.toInt x4 /\ Int32.toInt x4 <= 15) (hn5 : 16 - Int32.toInt x4 <= n5) : ws_X3_within_32 post K5 dN uU gF mX oE x1 x2 x3 x4 := by
  have l0 := aEc
  intro v1 ev1
  have f2 : Int32.toInt (x4 + 1) = Int32.toInt x4 + Int32.toInt (1 : Int32) := aAD _ _ (by omega)
  rw [<- ev1] at f2
  have f3 := aAT x2
  exact hK5 x1 x2 x3 v1 aBK aCH (by omega) (by omega)
set_option maxHeartbeats 8000000 in
set_option maxRecDepth 200000 in
theorem ts_X3_within_5 {post : Int32 -> Prop} {next : Int32 -> Int32 -> Int32 -> Int32 -> Prop} {n5 : Int} (dN : Int32) (uU gF mX oE : Nat -> Int32) (xL : 0 <= Int32.toInt dN /\ Int32.toInt dN <= 16) (hpost : ∀ (r : Int32) , (0 <= Int32.toInt r /\ Int32.toInt r <= 65535) -> post r) (hKn : ∀ (x1 : Int32) (x2 : Int32) (x3 : Int32) (x4 : Int32), (0 <= Int32.toInt x1 /\ Int32.toInt x1 <= 7) -> (0 <= Int32.toInt x3 /\ Int32.toInt x3 <= 65535) -> (0 <= Int32.toInt x4 /\ Int32.toInt x4 <= 16) -> (16 - Int32.toInt x4 < n5) -> next x1 x2 x3 x4) (x1 x2 x3 x4 : Int32) (aBK : 0 <= Int32.toInt x1 /\ Int32.toInt x1 <= 7) (aCH : 0 <= Int32.toInt x3 /\ Int32.toInt x3 <= 65535) (aDO : 0 <= Int32.toInt x4 /\ Int32.toInt x4 <= 16) (hn5 : 16 - Int32.toInt x4 <= n5) : ws_X3_within_5 post next dN uU gF mX oE x1 x2 x3 x4 := by
  have l0 := aE0
  refine And.intro (fun c4 => ?_) (fun c4 => ?_)
  · skip
    have c4 := (aAO _ _).mp c4
    exact hpost _ aCH
  · skip
    have c4 := mt (aAO _ _).mpr c4
    refine And.intro (aBZ (by omega)) ?_
    intro v5 ev5
    have hv5 := congrArg Int32.toInt ev5
    refine And.intro (aBZ (by omega)) ?_
    have f8 := aAT v5
    refine And.intro (fun c7 => ?_) (fun c7 => ?_)
    · skip
      have c7 := (aAO _ _).mp c7
      refine And.intro (aBZ (by omega)) ?_
      intro v10 ev10
      have hv10 := congrArg Int32.toInt ev10
      refine And.intro (aBZ (by omega)) ?_
      refine And.intro (aBZ (by omega)) ?_
      intro v11 ev11
      have hv11 := congrArg Int32.toInt ev11
      refine And.intro (aBZ (by omega)) ?_
      have f14 := aAT v11
      refine And.intro (fun c13 => ?_) (fun c13 => ?_)
      · skip
        have c13 := (aAO _ _).mp c13
        intro v16 ev16
        have hv16 := congrArg Int32.toInt ev16
        intro v18 ev18
        have f20 := aAT v16
        have f21 : Int32.toInt (0 * 0) = Int32.toInt (0 : Int32) * 0 := ta_mulc _ _ (by decide) (by omega)
        have f19 : Int32.toInt (v16 + (0 * 0)) = Int32.toInt v16 + Int32.toInt (0 * 0) := aAD _ _ (by omega)
        rw [<- ev18] at f19
        have f23 := aAT v18
        refine And.intro (fun c22 => ?_) (fun c22 => ?_)
        · skip
          have c22 := (aAd _ _).mp c22
          refine And.intro (fun _ => ?_) (fun h9 => absurd h9 (by decide))
          have f25 := aAT x2
          exact ts_X3_within_32 dN uU gF mX oE xL hpost hKn x1 x2 x3 x4 aBK aCH (by omega) hn5
        · skip
          have c22 := mt (aAd _ _).mpr c22
          refine And.intro (fun h9 => absurd h9 (by decide)) (fun _ => ?_)
          intro v26 ev26
          have f28 := aDv 15 32768 x4 (by decide) (by omega)
          have f27 := ti_or 16 65536 x3 (1 <<< (x4 &&& 31)) (by decide) (by omega) (by omega)
          have hv26 := congrArg Int32.toInt ev26
          have f29 := aAT x2
          exact ts_X3_within_32 dN uU gF mX oE xL hpost hKn x1 x2 v26 x4 aBK (by omega) (by omega) hn5
      · skip
        have c13 := mt (aAO _ _).mpr c13
        refine And.intro (aBZ (by omega)) ?_
        intro v30 ev30
        have hv30 := congrArg Int32.toInt ev30
        refine And.intro (aBZ (by omega)) ?_
        intro v31 ev31
        have hv31 := congrArg Int32.toInt ev31
        intro v33 ev33
        have hv33 := congrArg Int32.toInt ev33
        intro v35 ev35
        have hv35 := congrArg Int32.toInt ev35
        have f38 := aAT v35
        refine And.intro (fun c37 => ?_) (fun c37 => ?_)
        · skip
          have c37 := (aAd _ _).mp c37
          refine And.intro (fun _ => ?_) (fun h9 => absurd h9 (by decide))
          have f40 := aAT x2
          exact ts_X3_within_32 dN uU gF mX oE xL hpost hKn x1 x2 x3 x4 aBK aCH (by omega) hn5
        · skip
          have c37 := mt (aAd _ _).mpr c37
          refine And.intro (fun h9 => absurd h9 (by decide)) (fun _ => ?_)
          intro v41 ev41
          have f43 := aDv 15 32768 x4 (by decide) (by omega)
          have f42 := ti_or 16 65536 x3 (1 <<< (x4 &&& 31)) (by decide) (by omega) (by omega)
          have hv41 := congrArg Int32.toInt ev41
          have f44 := aAT x2
          exact ts_X3_within_32 dN uU gF mX oE xL hpost hKn x1 x2 v41 x4 aBK (by omega) (by omega) hn5
    · skip
      have c7 := mt (aAO _ _).mpr c7
      refine And.intro (aBZ (by omega)) ?_
      intro v45 ev45
      have hv45 := congrArg Int32.toInt ev45
      refine And.intro (aBZ (by omega)) ?_
      intro v46 ev46
      have hv46 := congrArg Int32.toInt ev46
      refine And.intro (aBZ (by omega)) ?_
      intro v48 ev48
      have hv48 := congrArg Int32.toInt ev48
      refine And.intro (aBZ (by omega)) ?_
      have f51 := aAT v48
      refine And.intro (fun c50 => ?_) (fun c50 => ?_)
      · skip
        have c50 := (aAO _ _).mp c50
        intro v53 ev53
        have hv53 := congrArg Int32.toInt ev53
        intro v55 ev55
        have f57 := aAT v53
        have f58 : Int32.toInt (0 * 0) = Int32.toInt (0 : Int32) * 0 := ta_mulc _ _ (by decide) (by omega)
        have f56 : Int32.toInt (v53 + (0 * 0)) = Int32.toInt v53 + Int32.toInt (0 * 0) := aAD _ _ (by omega)
        rw [<- ev55] at f56
        have f60 := aAT v55
        refine And.intro (fun c59 => ?_) (fun c59 => ?_)
        · skip
          have c59 := (aAd _ _).mp c59
          refine And.intro (fun _ => ?_) (fun h9 => absurd h9 (by decide))
          have f62 := aAT x2
          exact ts_X3_within_32 dN uU gF mX oE xL hpost hKn x1 x2 x3 x4 aBK aCH (by omega) hn5
        · skip
          have c59 := mt (aAd _ _).mpr c59
          refine And.intro (fun h9 => absurd h9 (by decide)) (fun _ => ?_)
          intro v63 ev63
          have f65 := aDv 15 32768 x4 (by decide) (by omega)
          have f64 := ti_or 16 65536 x3 (1 <<< (x4 &&& 31)) (by decide) (by omega) (by omega)
          have hv63 := congrArg Int32.toInt ev63
          have f66 := aAT x2
          exact ts_X3_within_32 dN uU gF mX oE xL hpost hKn x1 x2 v63 x4 aBK (by omega) (by omega) hn5
      · skip
        have c50 := mt (aAO _ _).mpr c50
        refine And.intro (aBZ (by omega)) ?_
        intro v67 ev67
        have hv67 := congrArg Int32.toInt ev67
        refine And.intro (aBZ (by omega)) ?_
        intro v68 ev68
        have hv68 := congrArg Int32.toInt ev68
        intro v70 ev70
        have hv70 := congrArg Int32.toInt ev70
        intro v72 ev72
        have hv72 := congrArg Int32.toInt ev72
        have f75 := aAT v72
        refine And.intro (fun c74 => ?_) (fun c74 => ?_)
        · skip
          have c74 := (aAd _ _).mp c74
          refine And.intro (fun _ => ?_) (fun h9 => absurd h9 (by decide))
          have f77 := aAT x2
          exact ts_X3_within_32 dN uU gF mX oE xL hpost hKn x1 x2 x3 x4 aBK aCH (by omega) hn5
        · skip
          have c74 := mt (aAd _ _).mpr c74
          refine And.intro (fun h9 => absurd h9 (by decide)) (fun _ => ?_)
          intro v78 ev78
          have f80 := aDv 15 32768 x4 (by decide) (by omega)
          have f79 := ti_or 16 65536 x3 (1 <<< (x4 &&& 31)) (by decide) (by omega) (by omega)
          have hv78 := congrArg Int32.toInt ev78
          have f81 := aAT x2
          exact ts_X3_within_32 dN uU gF mX oE xL hpost hKn x1 x2 v78 x4 aBK (by omega) (by omega) hn5
set_option maxHeartbeats 8000000 in
set_option maxRecDepth 200000 in
theorem tb_X3_within_5 {post : Int32 -> Prop} (dN : Int32) (uU gF mX oE : Nat -> Int32) (xL : 0 <= Int32.toInt dN /\ Int32.toInt dN <= 16) (hpost : ∀ (r : Int32) , (0 <= Int32.toInt r /\ Int32.toInt r <= 65535) -> post r) : ∀ (n : Nat) (x1 x2 x3 x4 : Int32), (0 <= Int32.toInt x1 /\ Int32.toInt x1 <= 7) -> (0 <= Int32.toInt x3 /\ Int32.toInt x3 <= 65535) -> (0 <= Int32.toInt x4 /\ Int32.toInt x4 <= 16) -> (16 - Int32.toInt x4 < (n : Int)) -> wb_X3_within_5 post dN uU gF mX oE n x1 x2 x3 x4 := by
  intro n
  induction n with
  | zero =>
    intro x1 x2 x3 x4 aBK aCH aDO hm
    exfalso; omega
  | succ n ih =>
    intro x1 x2 x3 x4 aBK aCH aDO hm
    exact ts_X3_within_5 dN uU gF mX oE xL hpost ih x1 x2 x3 x4 aBK aCH aDO (by omega)
set_option maxHeartbeats 8000000 in
set_option maxRecDepth 200000 in
theorem t_X3_within {post : Int32 -> Prop} {p0 p1 dN : Int32} {uU gF mX oE : Nat -> Int32} (h_p0 : 0 <= Int32.toInt p0 /\ Int32.toInt p0 <= 7) (xL : 0 <= Int32.toInt dN /\ Int32.toInt dN <= 16) (hpost : ∀ (r : Int32) , (0 <= Int32.toInt r /\ Int32.toInt r <= 65535) -> post r) : bBS post p0 p1 dN uU gF mX oE := by
  have l0 := aE0
  have f82 := aAT p1
  exact ⟨18, tb_X3_within_5 dN uU gF mX oE xL hpost _ p0 p1 0 0 h_p0 (by omega) (by omega) (by omega)⟩
set_option maxHeartbeats 8000000 in
set_option maxRecDepth 200000 in
theorem ts_X3_ripeBy_28 {post : Int32 -> Prop} {K4 : Int32 -> Int32 -> Int32 -> Prop} {n4 : Int} (dN : Int32) (qF : Nat -> Int32) (xL : 0 <= Int32.toInt dN /\ Int32.toInt dN <= 16) (hpost : ∀ (r : Int32) , (0 <= Int32.toInt r /\ Int32.toInt r <= 65535) -> post r) (hK4 : ∀ (x1 : Int32) (x2 : Int32) (x3 : Int32), (0 <= Int32.toInt x1 /\ Int32.toInt x1 <= 9) -> (0 <= Int32.toInt x2 /\ Int32.toInt x2 <= 65535) -> (0 <= Int32.toInt x3 /\ Int32.toInt x3 <= 16) -> (16 - Int32.toInt x3 < n4) -> K4 x1 x2 x3) (x1 x2 x3 : Int32) (aBK : 0 <= Int32.toInt x1 /\ Int32.toInt x1 <= 9) (aBN : 0 <= Int32.toInt x2 /\ Int32.toInt x2 <= 65535) (aCH : 0 <= Int32.toInt x3 /\ Int32.toInt x3 <= 15) (hn4 : 16 - Int32.toInt x3 <= n4) : ws_X3_ripeBy_28 post K4 dN qF x1 x2 x3 := by
  have l0 := aEc
  intro v1 ev1
  have f2 : Int32.toInt (x3 + 1) = Int32.toInt x3 + Int32.toInt (1 : Int32) := aAD _ _ (by omega)
  rw [<- ev1] at f2
  exact hK4 x1 x2 v1 aBK aBN (by omega) (by omega)
set_option maxHeartbeats 8000000 in
set_option maxRecDepth 200000 in
theorem ts_X3_ripeBy_4 {post : Int32 -> Prop} {next : Int32 -> Int32 -> Int32 -> Prop} {n4 : Int} (dN : Int32) (qF : Nat -> Int32) (xL : 0 <= Int32.toInt dN /\ Int32.toInt dN <= 16) (hpost : ∀ (r : Int32) , (0 <= Int32.toInt r /\ Int32.toInt r <= 65535) -> post r) (hKn : ∀ (x1 : Int32) (x2 : Int32) (x3 : Int32), (0 <= Int32.toInt x1 /\ Int32.toInt x1 <= 9) -> (0 <= Int32.toInt x2 /\ Int32.toInt x2 <= 65535) -> (0 <= Int32.toInt x3 /\ Int32.toInt x3 <= 16) -> (16 - Int32.toInt x3 < n4) -> next x1 x2 x3) (x1 x2 x3 : Int32) (aBK : 0 <= Int32.toInt x1 /\ Int32.toInt x1 <= 9) (aBN : 0 <= Int32.toInt x2 /\ Int32.toInt x2 <= 65535) (aCH : 0 <= Int32.toInt x3 /\ Int32.toInt x3 <= 16) (hn4 : 16 - Int32.toInt x3 <= n4) : ws_X3_ripeBy_4 post next dN qF x1 x2 x3 := by
  refine And.intro (fun c3 => ?_) (fun c3 => ?_)
  · skip
    have c3 := (aAO _ _).mp c3
    exact hpost _ aBN
  · skip
    have c3 := mt (aAO _ _).mpr c3
    refine And.intro (aBZ (by omega)) ?_
    intro v4 ev4
    have hv4 := congrArg Int32.toInt ev4
    have f7 := aAT v4
    refine And.intro (fun c6 => ?_) (fun c6 => ?_)
    · skip
      have c6 := (aAd _ _).mp c6
      exact ts_X3_ripeBy_28 dN qF xL hpost hKn x1 x2 x3 aBK aBN (by omega) hn4
    · skip
      have c6 := mt (aAd _ _).mpr c6
      intro v8 ev8
      have f10 := aDv 15 32768 x3 (by decide) (by omega)
      have f9 := ti_or 16 65536 x2 (1 <<< (x3 &&& 31)) (by decide) (by omega) (by omega)
      have hv8 := congrArg Int32.toInt ev8
      exact ts_X3_ripeBy_28 dN qF xL hpost hKn x1 v8 x3 aBK (by omega) (by omega) hn4
set_option maxHeartbeats 8000000 in
set_option maxRecDepth 200000 in
theorem tb_X3_ripeBy_4 {post : Int32 -> Prop} (dN : Int32) (qF : Nat -> Int32) (xL : 0 <= Int32.toInt dN /\ Int32.toInt dN <= 16) (hpost : ∀ (r : Int32) , (0 <= Int32.toInt r /\ Int32.toInt r <= 65535) -> post r) : ∀ (n : Nat) (x1 x2 x3 : Int32), (0 <= Int32.toInt x1 /\ Int32.toInt x1 <= 9) -> (0 <= Int32.toInt x2 /\ Int32.toInt x2 <= 65535) -> (0 <= Int32.toInt x3 /\ Int32.toInt x3 <= 16) -> (16 - Int32.toInt x3 < (n : Int)) -> wb_X3_ripeBy_4 post dN qF n x1 x2 x3 := by
  intro n
  induction n with
  | zero =>
    intro x1 x2 x3 aBK aBN aCH hm
    exfalso; omega
  | succ n ih =>
    intro x1 x2 x3 aBK aBN aCH hm
    exact ts_X3_ripeBy_4 dN qF xL hpost ih x1 x2 x3 aBK aBN aCH (by omega)
set_option maxHeartbeats 8000000 in
set_option maxRecDepth 200000 in
theorem t_X3_ripeBy {post : Int32 -> Prop} {p0 dN : Int32} {qF : Nat -> Int32} (h_p0 : 0 <= Int32.toInt p0 /\ Int32.toInt p0 <= 9) (xL : 0 <= Int32.toInt dN /\ Int32.toInt dN <= 16) (hpost : ∀ (r : Int32) , (0 <= Int32.toInt r /\ Int32.toInt r <= 65535) -> post r) : aZj post p0 dN qF := by
  have l0 := aE0
  exact ⟨18, tb_X3_ripeBy_4 dN qF xL hpost _ p0 0 0 h_p0 (by omega) (by omega) (by omega)⟩
set_option maxHeartbeats 8000000 in
set_option maxRecDepth 200000 in
theorem ts_X0_shakeTree_63 {post : Int32 -> Int32 -> Int32 -> Int32 -> Prop} {K29 : Int32 -> Int32 -> Int32 -> Int32 -> Int32 -> Int32 -> Int32 -> Prop} {n29 : Int} (dN : Int32) (uU gF qF mX oE dY : Nat -> Int32) (jE eW fY gJ jG : Int32) (xL : 0 <= Int32.toInt dN /\ Int32.toInt dN <= 16) (aAC : -1 <= Int32.toInt fY /\ Int32.toInt fY <= 7) (zK : 0 <= Int32.toInt jG /\ Int32.toInt jG <= 9) (hpost : ∀ (r : Int32) (aGr : Int32) (aFB : Int32) (aFi : Int32), (-2 <= Int32.toInt r /\ Int32.toInt r <= 63) -> post r aGr aFB aFi) (hK29 : ∀ (x1 : Int32) (x2 : Int32) (x3 : Int32) (x4 : Int32) (eY : Int32) (dU : Int32) (nU : Int32), (0 <= Int32.toInt x1 /\ Int32.toInt x1 <= 65535) -> (0 <= Int32.toInt x2 /\ Int32.toInt x2 <= 65535) -> (0 <= Int32.toInt x3 /\ Int32.toInt x3 <= 65535) -> (0 <= Int32.toInt x4 /\ Int32.toInt x4 <= 16) -> (16 - Int32.toInt x4 < n29) -> K29 x1 x2 x3 x4 eY dU nU) (x1 x2 x3 x4 eY dU nU : Int32) (aBK : 0 <= Int32.toInt x1 /\ Int32.toInt x1 <= 65535) (aBN : 0 <= Int32.toInt x2 /\ Int32.toInt x2 <= 65535) (aCH : 0 <= Int32.toInt x3 /\ Int32.toInt x3 <= 65535) (aDO : 0 <= Int32.toInt x4 /\ Int32.toInt x4 <= 15) (hn29 : 16 - Int32.toInt x4 <= n29) : ws_X0_shakeTree_63 post K29 dN uU gF qF mX oE dY jE eW fY gJ jG x1 x2 x3 x4 eY dU nU := by
  have l0 := aEc
  intro v1 ev1
  have f2 : Int32.toInt (x4 + 1) = Int32.toInt x4 + Int32.toInt (1 : Int32) := aAD _ _ (by omega)
  rw [<- ev1] at f2
  have f3 := aAT eY
  have f4 := aAT dU
  have f5 := aAT nU
  exact hK29 x1 x2 x3 v1 eY dU nU aBK aBN aCH (by omega) (by omega)
set_option maxHeartbeats 8000000 in
set_option maxRecDepth 200000 in
theorem ts_X0_shakeTree_29 {post : Int32 -> Int32 -> Int32 -> Int32 -> Prop} {next : Int32 -> Int32 -> Int32 -> Int32 -> Int32 -> Int32 -> Int32 -> Prop} {n29 : Int} (dN : Int32) (uU gF qF mX oE dY : Nat -> Int32) (jE eW fY gJ jG : Int32) (xL : 0 <= Int32.toInt dN /\ Int32.toInt dN <= 16) (aAC : -1 <= Int32.toInt fY /\ Int32.toInt fY <= 7) (zK : 0 <= Int32.toInt jG /\ Int32.toInt jG <= 9) (hpost : ∀ (r : Int32) (aGr : Int32) (aFB : Int32) (aFi : Int32), (-2 <= Int32.toInt r /\ Int32.toInt r <= 63) -> post r aGr aFB aFi) (hKn : ∀ (x1 : Int32) (x2 : Int32) (x3 : Int32) (x4 : Int32) (eY : Int32) (dU : Int32) (nU : Int32), (0 <= Int32.toInt x1 /\ Int32.toInt x1 <= 65535) -> (0 <= Int32.toInt x2 /\ Int32.toInt x2 <= 65535) -> (0 <= Int32.toInt x3 /\ Int32.toInt x3 <= 65535) -> (0 <= Int32.toInt x4 /\ Int32.toInt x4 <= 16) -> (16 - Int32.toInt x4 < n29) -> next x1 x2 x3 x4 eY dU nU) (x1 x2 x3 x4 eY dU nU : Int32) (aBK : 0 <= Int32.toInt x1 /\ Int32.toInt x1 <= 65535) (aBN : 0 <= Int32.toInt x2 /\ Int32.toInt x2 <= 65535) (aCH : 0 <= Int32.toInt x3 /\ Int32.toInt x3 <= 65535) (aDO : 0 <= Int32.toInt x4 /\ Int32.toInt x4 <= 16) (hn29 : 16 - Int32.toInt x4 <= n29) : ws_X0_shakeTree_29 post next dN uU gF qF mX oE dY jE eW fY gJ jG x1 x2 x3 x4 eY dU nU := by
  have l0 := aE0
  have l1 := aEc
  have l2 := aKH
  have l3 := aJ8
  have l4 := li_63
  have l5 := aJ9
  have l6 := li_9999
  refine And.intro (fun c6 => ?_) (fun c6 => ?_)
  · skip
    have c6 := (aAO _ _).mp c6
    intro v7 ev7
    intro v8 ev8
    intro v9 ev9
    have hv9 := congrArg Int32.toInt ev9
    intro v11 ev11
    have f12 := aAT (if v9 < 9999 then v9 else 9999)
    have f14 := aAT v9
    have f13 := ti_min (9999 : Int32) v9
    have hv11 := congrArg Int32.toInt ev11
    intro v15 ev15
    intro v16 ev16
    have f18 := aAQ v15 1431655765 (by omega)
    have f17 : Int32.toInt (x2 - (v15 &&& 1431655765)) = Int32.toInt x2 - Int32.toInt (v15 &&& 1431655765) := aCA _ _ (by omega)
    rw [<- ev16] at f17
    intro v19 ev19
    have f20 := aAQ v16 858993459 (by omega)
    have hv19 := congrArg Int32.toInt ev19
    intro v21 ev21
    intro v22 ev22
    have f24 := aAQ v21 858993459 (by omega)
    have f23 : Int32.toInt (v19 + (v21 &&& 858993459)) = Int32.toInt v19 + Int32.toInt (v21 &&& 858993459) := aAD _ _ (by omega)
    rw [<- ev22] at f23
    intro v25 ev25
    have hv25 := congrArg Int32.toInt ev25
    intro v27 ev27
    have f28 := aAQ v25 252645135 (by omega)
    have hv27 := congrArg Int32.toInt ev27
    intro v29 ev29
    have hv29 := congrArg Int32.toInt ev29
    intro v31 ev31
    have hv31 := congrArg Int32.toInt ev31
    have f33 := aAQ v31 63 (by omega)
    exact hpost _ _ _ _ (by omega)
  · skip
    have c6 := mt (aAO _ _).mpr c6
    intro v34 ev34
    have f35 := aRJ x2 x4 (by omega)
    have hv34 := congrArg Int32.toInt ev34
    have f37 := aAQ v34 1 (by omega)
    have f38 := aBx v34 1 (by omega)
    refine And.intro (fun c36 => ?_) (fun c36 => ?_)
    · skip
      have c36 := (zJ _ _).mp c36
      have f39 := aAT eY
      have f40 := aAT dU
      have f41 := aAT nU
      exact ts_X0_shakeTree_63 dN uU gF qF mX oE dY jE eW fY gJ jG xL aAC zK hpost hKn x1 x2 x3 x4 eY dU nU aBK aBN aCH (by omega) hn29
    · skip
      have c36 := mt (zJ _ _).mpr c36
      refine t_X3_lowerThan (by omega) aBK (by omega) (fun r42 h_r42 => ?_)
      intro v43 ev43
      have f44 := ti_or 16 65536 x3 r42 (by decide) (by omega) (by omega)
      have hv43 := congrArg Int32.toInt ev43
      have f45 := aAT eY
      have f46 := aAT dU
      have f47 := aAT nU
      exact ts_X0_shakeTree_63 dN uU gF qF mX oE dY jE eW fY gJ jG xL aAC zK hpost hKn x1 x2 v43 x4 eY dU nU aBK aBN (by omega) (by omega) hn29
set_option maxHeartbeats 8000000 in
set_option maxRecDepth 200000 in
theorem tb_X0_shakeTree_29 {post : Int32 -> Int32 -> Int32 -> Int32 -> Prop} (dN : Int32) (uU gF qF mX oE dY : Nat -> Int32) (jE eW fY gJ jG : Int32) (xL : 0 <= Int32.toInt dN /\ Int32.toInt dN <= 16) (aAC : -1 <= Int32.toInt fY /\ Int32.toInt fY <= 7) (zK : 0 <= Int32.toInt jG /\ Int32.toInt jG <= 9) (hpost : ∀ (r : Int32) (aGr : Int32) (aFB : Int32) (aFi : Int32), (-2 <= Int32.toInt r /\ Int32.toInt r <= 63) -> post r aGr aFB aFi) : ∀ (n : Nat) (x1 x2 x3 x4 eY dU nU : Int32), (0 <= Int32.toInt x1 /\ Int32.toInt x1 <= 65535) -> (0 <= Int32.toInt x2 /\ Int32.toInt x2 <= 65535) -> (0 <= Int32.toInt x3 /\ Int32.toInt x3 <= 65535) -> (0 <= Int32.toInt x4 /\ Int32.toInt x4 <= 16) -> (16 - Int32.toInt x4 < (n : Int)) -> wb_X0_shakeTree_29 post dN uU gF qF mX oE dY jE eW fY gJ jG n x1 x2 x3 x4 eY dU nU := by
  intro n
  induction n with
  | zero =>
    intro x1 x2 x3 x4 eY dU nU aBK aBN aCH aDO hm
    exfalso; omega
  | succ n ih =>
    intro x1 x2 x3 x4 eY dU nU aBK aBN aCH aDO hm
    exact ts_X0_shakeTree_29 dN uU gF qF mX oE dY jE eW fY gJ jG xL aAC zK hpost ih x1 x2 x3 x4 eY dU nU aBK aBN aCH aDO (by omega)
set_option maxHeartbeats 8000000 in
set_option maxRecDepth 200000 in
theorem t_X0_shakeTree {post : Int32 -> Int32 -> Int32 -> Int32 -> Prop} {dN : Int32} {uU gF qF mX oE dY : Nat -> Int32} {jE eW eY dU fY gJ jG nU : Int32} (xL : 0 <= Int32.toInt dN /\ Int32.toInt dN <= 16) (aAC : -1 <= Int32.toInt fY /\ Int32.toInt fY <= 7) (zK : 0 <= Int32.toInt jG /\ Int32.toInt jG <= 9) (hpost : ∀ (r : Int32) (aGr : Int32) (aFB : Int32) (aFi : Int32), (-2 <= Int32.toInt r /\ Int32.toInt r <= 63) -> post r aGr aFB aFi) : wp_X0_shakeTree post dN uU gF qF mX oE dY jE eW eY dU fY gJ jG nU := by
  have l0 := aI2
  have l1 := li_m2
  have l2 := aE0
  have l3 := aEc
  have l4 := li_2
  refine And.intro (fun c48 => ?_) (fun c48 => ?_)
  · skip
    have c48 := mt (zJ _ _).mpr c48
    intro v49 ev49
    have f50 := aDv 16 65536 dN (by decide) (by omega)
    have hv49 := congrArg Int32.toInt ev49
    intro v51 ev51
    intro v52 ev52
    refine And.intro (fun c53 => ?_) (fun c53 => ?_)
    · skip
      have c53 := mt (zJ _ _).mpr c53
      intro v54 ev54
      have hv54 := congrArg Int32.toInt ev54
      intro v56 ev56
      have hv56 := congrArg Int32.toInt ev56
      refine t_X3_within (by omega) xL (fun r58 h_r58 => ?_)
      intro v59 ev59
      have hv59 := congrArg Int32.toInt ev59
      intro v60 ev60
      intro v61 ev61
      refine t_X3_ripeBy zK xL (fun r62 h_r62 => ?_)
      intro v63 ev63
      have f64 := aAQ ((v59 - 1) &&& (v61 ^^^ (-1))) r62 (by omega)
      have f66 : Int32.toInt (v59 - 1) = Int32.toInt v59 - Int32.toInt (1 : Int32) := aCA _ _ (by omega)
      have f67 := aBx (v59 - 1) (v61 ^^^ (-1)) (by omega)
      have f68 := aBx ((v59 - 1) &&& (v61 ^^^ (-1))) r62 (by omega)
      have hv63 := congrArg Int32.toInt ev63
      have f70 : Int32.toInt (v49 - 1) = Int32.toInt v49 - Int32.toInt (1 : Int32) := aCA _ _ (by omega)
      have f71 := aBx (v49 - 1) (v52 ^^^ (-1)) (by omega)
      have f72 := aAQ v63 r58 (by omega)
      have f73 := aBx v63 r58 (by omega)
      have f74 := aAT eY
      have f75 := aAT dU
      have f76 := aAT nU
      exact ⟨18, tb_X0_shakeTree_29 dN uU gF qF mX oE dY jE eW fY gJ jG xL aAC zK hpost _ ((v49 - 1) &&& (v52 ^^^ (-1))) (v63 &&& r58) (v63 &&& r58) 0 eY dU nU (by omega) (by omega) (by omega) (by omega) (by omega)⟩
    · skip
      have c53 := (zJ _ _).mp c53
      exfalso; omega
  · skip
    have c48 := (zJ _ _).mp c48
    exact hpost _ _ _ _ (by omega)
set_option maxHeartbeats 8000000 in
set_option maxRecDepth 200000 in
theorem t_X9_shake {post : Int32 -> Int32 -> Int32 -> Int32 -> Int32 -> Int32 -> (Nat -> Int32) -> Prop} {dN : Int32} {uU gF qF mX oE dY : Nat -> Int32} {jE eW eY dU fY gJ jG nU pR uM : Int32} {tD : Nat -> Int32} (xL : 0 <= Int32.toInt dN /\ Int32.toInt dN <= 16) (aAC : -1 <= Int32.toInt fY /\ Int32.toInt fY <= 7) (zK : 0 <= Int32.toInt jG /\ Int32.toInt jG <= 9) (aAr : 0 <= Int32.toInt pR /\ Int32.toInt pR <= 12) (aBy : 0 <= Int32.toInt uM /\ Int32.toInt uM <= 12) (aBF : ∀ k : Nat, k % 8 = 4 -> -1 <= Int32.toInt (tD k) /\ Int32.toInt (tD k) <= 7) (aBG : ∀ k : Nat, k % 8 = 6 -> 0 <= Int32.toInt (tD k) /\ Int32.toInt (tD k) <= 9) (hpost : ∀ (r : Int32) (aGr : Int32) (aFB : Int32) (aFi : Int32) (aBa : Int32) (aEN : Int32) (aCN : Nat -> Int32), (-2 <= Int32.toInt r /\ Int32.toInt r <= 63) -> (0 <= Int32.toInt aBa /\ Int32.toInt aBa <= 12) -> (0 <= Int32.toInt aEN /\ Int32.toInt aEN <= 12) -> (∀ k : Nat, k % 8 = 4 -> -1 <= Int32.toInt (aCN k) /\ Int32.toInt (aCN k) <= 7) -> (∀ k : Nat, k % 8 = 6 -> 0 <= Int32.toInt (aCN k) /\ Int32.toInt (aCN k) <= 9) -> post r aGr aFB aFi aBa aEN aCN) : wp_X9_shake post dN uU gF qF mX oE dY jE eW eY dU fY gJ jG nU pR uM tD := by
  have l0 := aE0
  have l1 := aEc
  have l2 := li_104
  have l3 := li_12
  have l4 := li_13
  have l5 := li_2
  have l6 := li_3
  have l7 := li_4
  have l8 := li_5
  have l9 := li_6
  have l10 := li_7
  have l11 := li_8
  intro v1 ev1
  have f2 : Int32.toInt (uM * 8) = Int32.toInt uM * 8 := ta_mulc _ _ (by decide) (by omega)
  rw [<- ev1] at f2
  refine And.intro (fun c3 => ?_) (fun c3 => ?_)
  · skip
    have c3 := (aAd _ _).mp c3
    exfalso; omega
  · skip
    have c3 := mt (aAd _ _).mpr c3
    have f5 : Int32.toInt (104 - 8) = Int32.toInt (104 : Int32) - Int32.toInt (8 : Int32) := aCA _ _ (by omega)
    refine And.intro (fun c4 => ?_) (fun c4 => ?_)
    · skip
      have c4 := (aAO _ _).mp c4
      refine And.intro (aBZ (by omega)) ?_
      have f7 := aAT jE
      have e6 : ∀ k : Nat, k % 8 = 4 -> -1 <= Int32.toInt ((upd tD v1.toNatClampNeg jE) k) /\ Int32.toInt ((upd tD v1.toNatClampNeg jE) k) <= 7 := aCJ (C := fun k => k % 8 = 4) aBF (fun hk => by have e9 : v1.toNatClampNeg = (Int32.toInt v1).toNat := rfl; have hk : v1.toNatClampNeg % 8 = 4 := hk; omega)
      have e8 : ∀ k : Nat, k % 8 = 6 -> 0 <= Int32.toInt ((upd tD v1.toNatClampNeg jE) k) /\ Int32.toInt ((upd tD v1.toNatClampNeg jE) k) <= 9 := aCJ (C := fun k => k % 8 = 6) aBG (fun hk => by have e9 : v1.toNatClampNeg = (Int32.toInt v1).toNat := rfl; have hk : v1.toNatClampNeg % 8 = 6 := hk; omega)
      intro v9 ev9
      have f10 : Int32.toInt (v1 + 1) = Int32.toInt v1 + Int32.toInt (1 : Int32) := aAD _ _ (by omega)
      rw [<- ev9] at f10
      refine And.intro (aBZ (by omega)) ?_
      have f12 := aAT eW
      have e11 : ∀ k : Nat, k % 8 = 4 -> -1 <= Int32.toInt ((upd (upd tD v1.toNatClampNeg jE) v9.toNatClampNeg eW) k) /\ Int32.toInt ((upd (upd tD v1.toNatClampNeg jE) v9.toNatClampNeg eW) k) <= 7 := aCJ (C := fun k => k % 8 = 4) e6 (fun hk => by have e9 : v9.toNatClampNeg = (Int32.toInt v9).toNat := rfl; have hk : v9.toNatClampNeg % 8 = 4 := hk; omega)
      have e13 : ∀ k : Nat, k % 8 = 6 -> 0 <= Int32.toInt ((upd (upd tD v1.toNatClampNeg jE) v9.toNatClampNeg eW) k) /\ Int32.toInt ((upd (upd tD v1.toNatClampNeg jE) v9.toNatClampNeg eW) k) <= 9 := aCJ (C := fun k => k % 8 = 6) e8 (fun hk => by have e9 : v9.toNatClampNeg = (Int32.toInt v9).toNat := rfl; have hk : v9.toNatClampNeg % 8 = 6 := hk; omega)
      intro v14 ev14
      have f15 : Int32.toInt (v1 + 2) = Int32.toInt v1 + Int32.toInt (2 : Int32) := aAD _ _ (by omega)
      rw [<- ev14] at f15
      refine And.intro (aBZ (by omega)) ?_
      have f17 := aAT eY
      have e16 : ∀ k : Nat, k % 8 = 4 -> -1 <= Int32.toInt ((upd (upd (upd tD v1.toNatClampNeg jE) v9.toNatClampNeg eW) v14.toNatClampNeg eY) k) /\ Int32.toInt ((upd (upd (upd tD v1.toNatClampNeg jE) v9.toNatClampNeg eW) v14.toNatClampNeg eY) k) <= 7 := aCJ (C := fun k => k % 8 = 4) e11 (fun hk => by have e9 : v14.toNatClampNeg = (Int32.toInt v14).toNat := rfl; have hk : v14.toNatClampNeg % 8 = 4 := hk; omega)
      have e18 : ∀ k : Nat, k % 8 = 6 -> 0 <= Int32.toInt ((upd (upd (upd tD v1.toNatClampNeg jE) v9.toNatClampNeg eW) v14.toNatClampNeg eY) k) /\ Int32.toInt ((upd (upd (upd tD v1.toNatClampNeg jE) v9.toNatClampNeg eW) v14.toNatClampNeg eY) k) <= 9 := aCJ (C := fun k => k % 8 = 6) e13 (fun hk => by have e9 : v14.toNatClampNeg = (Int32.toInt v14).toNat := rfl; have hk : v14.toNatClampNeg % 8 = 6 := hk; omega)
      intro v19 ev19
      have f20 : Int32.toInt (v1 + 3) = Int32.toInt v1 + Int32.toInt (3 : Int32) := aAD _ _ (by omega)
      rw [<- ev19] at f20
      refine And.intro (aBZ (by omega)) ?_
      have f22 := aAT dU
      have e21 : ∀ k : Nat, k % 8 = 4 -> -1 <= Int32.toInt ((upd (upd (upd (upd tD v1.toNatClampNeg jE) v9.toNatClampNeg eW) v14.toNatClampNeg eY) v19.toNatClampNeg dU) k) /\ Int32.toInt ((upd (upd (upd (upd tD v1.toNatClampNeg jE) v9.toNatClampNeg eW) v14.toNatClampNeg eY) v19.toNatClampNeg dU) k) <= 7 := aCJ (C := fun k => k % 8 = 4) e16 (fun hk => by have e9 : v19.toNatClampNeg = (Int32.toInt v19).toNat := rfl; have hk : v19.toNatClampNeg % 8 = 4 := hk; omega)
      have e23 : ∀ k : Nat, k % 8 = 6 -> 0 <= Int32.toInt ((upd (upd (upd (upd tD v1.toNatClampNeg jE) v9.toNatClampNeg eW) v14.toNatClampNeg eY) v19.toNatClampNeg dU) k) /\ Int32.toInt ((upd (upd (upd (upd tD v1.toNatClampNeg jE) v9.toNatClampNeg eW) v14.toNatClampNeg eY) v19.toNatClampNeg dU) k) <= 9 := aCJ (C := fun k => k % 8 = 6) e18 (fun hk => by have e9 : v19.toNatClampNeg = (Int32.toInt v19).toNat := rfl; have hk : v19.toNatClampNeg % 8 = 6 := hk; omega)
      intro v24 ev24
      have f25 : Int32.toInt (v1 + 4) = Int32.toInt v1 + Int32.toInt (4 : Int32) := aAD _ _ (by omega)
      rw [<- ev24] at f25
      refine And.intro (aBZ (by omega)) ?_
      have e26 : ∀ k : Nat, k % 8 = 4 -> -1 <= Int32.toInt ((upd (upd (upd (upd (upd tD v1.toNatClampNeg jE) v9.toNatClampNeg eW) v14.toNatClampNeg eY) v19.toNatClampNeg dU) v24.toNatClampNeg fY) k) /\ Int32.toInt ((upd (upd (upd (upd (upd tD v1.toNatClampNeg jE) v9.toNatClampNeg eW) v14.toNatClampNeg eY) v19.toNatClampNeg dU) v24.toNatClampNeg fY) k) <= 7 := aCJ (C := fun k => k % 8 = 4) e21 (fun hk => by have e9 : v24.toNatClampNeg = (Int32.toInt v24).toNat := rfl; have hk : v24.toNatClampNeg % 8 = 4 := hk; omega)
      have e27 : ∀ k : Nat, k % 8 = 6 -> 0 <= Int32.toInt ((upd (upd (upd (upd (upd tD v1.toNatClampNeg jE) v9.toNatClampNeg eW) v14.toNatClampNeg eY) v19.toNatClampNeg dU) v24.toNatClampNeg fY) k) /\ Int32.toInt ((upd (upd (upd (upd (upd tD v1.toNatClampNeg jE) v9.toNatClampNeg eW) v14.toNatClampNeg eY) v19.toNatClampNeg dU) v24.toNatClampNeg fY) k) <= 9 := aCJ (C := fun k => k % 8 = 6) e23 (fun hk => by have e9 : v24.toNatClampNeg = (Int32.toInt v24).toNat := rfl; have hk : v24.toNatClampNeg % 8 = 6 := hk; omega)
      intro v28 ev28
      have f29 : Int32.toInt (v1 + 5) = Int32.toInt v1 + Int32.toInt (5 : Int32) := aAD _ _ (by omega)
      rw [<- ev28] at f29
      refine And.intro (aBZ (by omega)) ?_
      have f31 := aAT gJ
      have e30 : ∀ k : Nat, k % 8 = 4 -> -1 <= Int32.toInt ((upd (upd (upd (upd (upd (upd tD v1.toNatClampNeg jE) v9.toNatClampNeg eW) v14.toNatClampNeg eY) v19.toNatClampNeg dU) v24.toNatClampNeg fY) v28.toNatClampNeg gJ) k) /\ Int32.toInt ((upd (upd (upd (upd (upd (upd tD v1.toNatClampNeg jE) v9.toNatClampNeg eW) v14.toNatClampNeg eY) v19.toNatClampNeg dU) v24.toNatClampNeg fY) v28.toNatClampNeg gJ) k) <= 7 := aCJ (C := fun k => k % 8 = 4) e26 (fun hk => by have e9 : v28.toNatClampNeg = (Int32.toInt v28).toNat := rfl; have hk : v28.toNatClampNeg % 8 = 4 := hk; omega)
      have e32 : ∀ k : Nat, k % 8 = 6 -> 0 <= Int32.toInt ((upd (upd (upd (upd (upd (upd tD v1.toNatClampNeg jE) v9.toNatClampNeg eW) v14.toNatClampNeg eY) v19.toNatClampNeg dU) v24.toNatClampNeg fY) v28.toNatClampNeg gJ) k) /\ Int32.toInt ((upd (upd (upd (upd (upd (upd tD v1.toNatClampNeg jE) v9.toNatClampNeg eW) v14.toNatClampNeg eY) v19.toNatClampNeg dU) v24.toNatClampNeg fY) v28.toNatClampNeg gJ) k) <= 9 := aCJ (C := fun k => k % 8 = 6) e27 (fun hk => by have e9 : v28.toNatClampNeg = (Int32.toInt v28).toNat := rfl; have hk : v28.toNatClampNeg % 8 = 6 := hk; omega)
      intro v33 ev33
      have f34 : Int32.toInt (v1 + 6) = Int32.toInt v1 + Int32.toInt (6 : Int32) := aAD _ _ (by omega)
      rw [<- ev33] at f34
      refine And.intro (aBZ (by omega)) ?_
      have e35 : ∀ k : Nat, k % 8 = 4 -> -1 <= Int32.toInt ((upd (upd (upd (upd (upd (upd (upd tD v1.toNatClampNeg jE) v9.toNatClampNeg eW) v14.toNatClampNeg eY) v19.toNatClampNeg dU) v24.toNatClampNeg fY) v28.toNatClampNeg gJ) v33.toNatClampNeg jG) k) /\ Int32.toInt ((upd (upd (upd (upd (upd (upd (upd tD v1.toNatClampNeg jE) v9.toNatClampNeg eW) v14.toNatClampNeg eY) v19.toNatClampNeg dU) v24.toNatClampNeg fY) v28.toNatClampNeg gJ) v33.toNatClampNeg jG) k) <= 7 := aCJ (C := fun k => k % 8 = 4) e30 (fun hk => by have e9 : v33.toNatClampNeg = (Int32.toInt v33).toNat := rfl; have hk : v33.toNatClampNeg % 8 = 4 := hk; omega)
      have e36 : ∀ k : Nat, k % 8 = 6 -> 0 <= Int32.toInt ((upd (upd (upd (upd (upd (upd (upd tD v1.toNatClampNeg jE) v9.toNatClampNeg eW) v14.toNatClampNeg eY) v19.toNatClampNeg dU) v24.toNatClampNeg fY) v28.toNatClampNeg gJ) v33.toNatClampNeg jG) k) /\ Int32.toInt ((upd (upd (upd (upd (upd (upd (upd tD v1.toNatClampNeg jE) v9.toNatClampNeg eW) v14.toNatClampNeg eY) v19.toNatClampNeg dU) v24.toNatClampNeg fY) v28.toNatClampNeg gJ) v33.toNatClampNeg jG) k) <= 9 := aCJ (C := fun k => k % 8 = 6) e32 (fun hk => by have e9 : v33.toNatClampNeg = (Int32.toInt v33).toNat := rfl; have hk : v33.toNatClampNeg % 8 = 6 := hk; omega)
      intro v37 ev37
      have f38 : Int32.toInt (v1 + 7) = Int32.toInt v1 + Int32.toInt (7 : Int32) := aAD _ _ (by omega)
      rw [<- ev37] at f38
      refine And.intro (aBZ (by omega)) ?_
      have f40 := aAT nU
      have e39 : ∀ k : Nat, k % 8 = 4 -> -1 <= Int32.toInt ((upd (upd (upd (upd (upd (upd (upd (upd tD v1.toNatClampNeg jE) v9.toNatClampNeg eW) v14.toNatClampNeg eY) v19.toNatClampNeg dU) v24.toNatClampNeg fY) v28.toNatClampNeg gJ) v33.toNatClampNeg jG) v37.toNatClampNeg nU) k) /\ Int32.toInt ((upd (upd (upd (upd (upd (upd (upd (upd tD v1.toNatClampNeg jE) v9.toNatClampNeg eW) v14.toNatClampNeg eY) v19.toNatClampNeg dU) v24.toNatClampNeg fY) v28.toNatClampNeg gJ) v33.toNatClampNeg jG) v37.toNatClampNeg nU) k) <= 7 := aCJ (C := fun k => k % 8 = 4) e35 (fun hk => by have e9 : v37.toNatClampNeg = (Int32.toInt v37).toNat := rfl; have hk : v37.toNatClampNeg % 8 = 4 := hk; omega)
      have e41 : ∀ k : Nat, k % 8 = 6 -> 0 <= Int32.toInt ((upd (upd (upd (upd (upd (upd (upd (upd tD v1.toNatClampNeg jE) v9.toNatClampNeg eW) v14.toNatClampNeg eY) v19.toNatClampNeg dU) v24.toNatClampNeg fY) v28.toNatClampNeg gJ) v33.toNatClampNeg jG) v37.toNatClampNeg nU) k) /\ Int32.toInt ((upd (upd (upd (upd (upd (upd (upd (upd tD v1.toNatClampNeg jE) v9.toNatClampNeg eW) v14.toNatClampNeg eY) v19.toNatClampNeg dU) v24.toNatClampNeg fY) v28.toNatClampNeg gJ) v33.toNatClampNeg jG) v37.toNatClampNeg nU) k) <= 9 := aCJ (C := fun k => k % 8 = 6) e36 (fun hk => by have e9 : v37.toNatClampNeg = (Int32.toInt v37).toNat := rfl; have hk : v37.toNatClampNeg % 8 = 6 := hk; omega)
      refine t_X0_shakeTree xL aAC zK (fun r45 no_ground_42 no_bruised_43 no_clock_44 h_r45 => ?_)
      refine And.intro (fun c46 => ?_) (fun c46 => ?_)
      · skip
        have c46 := (aAd _ _).mp c46
        exact hpost _ _ _ _ _ _ _ h_r45 aAr aBy e39 e41
      · skip
        have c46 := mt (aAd _ _).mpr c46
        intro v47 ev47
        have f48 : Int32.toInt (uM + 1) = Int32.toInt uM + Int32.toInt (1 : Int32) := aAD _ _ (by omega)
        rw [<- ev47] at f48
        intro v49 ev49
        have f50 : Int32.toInt (v47 - v47 / 13 * 13) = Int32.toInt v47 % 13 := ti_rem _ _ (by decide) (by omega) (by decide)
        rw [<- ev49] at f50
        intro v51 ev51
        have f52 : Int32.toInt (pR + 1) = Int32.toInt pR + Int32.toInt (1 : Int32) := aAD _ _ (by omega)
        rw [<- ev51] at f52
        intro v53 ev53
        have f54 := ti_min (12 : Int32) v51
        have hv53 := congrArg Int32.toInt ev53
        exact hpost _ _ _ _ _ _ _ h_r45 (by omega) (by omega) e39 e41
    · skip
      have c4 := mt (aAO _ _).mpr c4
      exfalso; omega
set_option maxHeartbeats 8000000 in
set_option maxRecDepth 200000 in
theorem t_X9_sleep {post : Int32 -> Int32 -> Int32 -> Int32 -> Int32 -> Int32 -> Int32 -> Int32 -> (Nat -> Int32) -> Prop} {jE eW eY dU fY gJ jG nU pR uM : Int32} {tD : Nat -> Int32} (aAC : -1 <= Int32.toInt fY /\ Int32.toInt fY <= 7) (zK : 0 <= Int32.toInt jG /\ Int32.toInt jG <= 9) (aAr : 0 <= Int32.toInt pR /\ Int32.toInt pR <= 12) (aBy : 0 <= Int32.toInt uM /\ Int32.toInt uM <= 12) (aBF : ∀ k : Nat, k % 8 = 4 -> -1 <= Int32.toInt (tD k) /\ Int32.toInt (tD k) <= 7) (aBG : ∀ k : Nat, k % 8 = 6 -> 0 <= Int32.toInt (tD k) /\ Int32.toInt (tD k) <= 9) (hpost : ∀ (r : Int32) (aHN : Int32) (aGq : Int32) (aCx : Int32) (aDz : Int32) (aFi : Int32) (aBa : Int32) (aEN : Int32) (aCN : Nat -> Int32), (-1 <= Int32.toInt r /\ Int32.toInt r <= 9) -> (-1 <= Int32.toInt aCx /\ Int32.toInt aCx <= 7) -> (1 <= Int32.toInt aDz /\ Int32.toInt aDz <= 9) -> (0 <= Int32.toInt aBa /\ Int32.toInt aBa <= 12) -> (0 <= Int32.toInt aEN /\ Int32.toInt aEN <= 12) -> (∀ k : Nat, k % 8 = 4 -> -1 <= Int32.toInt (aCN k) /\ Int32.toInt (aCN k) <= 7) -> (∀ k : Nat, k % 8 = 6 -> 0 <= Int32.toInt (aCN k) /\ Int32.toInt (aCN k) <= 9) -> post r aHN aGq aCx aDz aFi aBa aEN aCN) : wp_X9_sleep post jE eW eY dU fY gJ jG nU pR uM tD := by
  have l0 := aI2
  have l1 := aE0
  have l2 := aEc
  have l3 := li_104
  have l4 := li_12
  have l5 := li_13
  have l6 := li_2
  have l7 := li_3
  have l8 := li_4
  have l9 := li_5
  have l10 := li_6
  have l11 := li_7
  have l12 := li_8
  have l13 := li_9
  intro v1 ev1
  have f2 : Int32.toInt (uM * 8) = Int32.toInt uM * 8 := ta_mulc _ _ (by decide) (by omega)
  rw [<- ev1] at f2
  refine And.intro (fun c3 => ?_) (fun c3 => ?_)
  · skip
    have c3 := (aAd _ _).mp c3
    exfalso; omega
  · skip
    have c3 := mt (aAd _ _).mpr c3
    have f5 : Int32.toInt (104 - 8) = Int32.toInt (104 : Int32) - Int32.toInt (8 : Int32) := aCA _ _ (by omega)
    refine And.intro (fun c4 => ?_) (fun c4 => ?_)
    · skip
      have c4 := (aAO _ _).mp c4
      refine And.intro (aBZ (by omega)) ?_
      have f7 := aAT jE
      have e6 : ∀ k : Nat, k % 8 = 4 -> -1 <= Int32.toInt ((upd tD v1.toNatClampNeg jE) k) /\ Int32.toInt ((upd tD v1.toNatClampNeg jE) k) <= 7 := aCJ (C := fun k => k % 8 = 4) aBF (fun hk => by have e9 : v1.toNatClampNeg = (Int32.toInt v1).toNat := rfl; have hk : v1.toNatClampNeg % 8 = 4 := hk; omega)
      have e8 : ∀ k : Nat, k % 8 = 6 -> 0 <= Int32.toInt ((upd tD v1.toNatClampNeg jE) k) /\ Int32.toInt ((upd tD v1.toNatClampNeg jE) k) <= 9 := aCJ (C := fun k => k % 8 = 6) aBG (fun hk => by have e9 : v1.toNatClampNeg = (Int32.toInt v1).toNat := rfl; have hk : v1.toNatClampNeg % 8 = 6 := hk; omega)
      intro v9 ev9
      have f10 : Int32.toInt (v1 + 1) = Int32.toInt v1 + Int32.toInt (1 : Int32) := aAD _ _ (by omega)
      rw [<- ev9] at f10
      refine And.intro (aBZ (by omega)) ?_
      have f12 := aAT eW
      have e11 : ∀ k : Nat, k % 8 = 4 -> -1 <= Int32.toInt ((upd (upd tD v1.toNatClampNeg jE) v9.toNatClampNeg eW) k) /\ Int32.toInt ((upd (upd tD v1.toNatClampNeg jE) v9.toNatClampNeg eW) k) <= 7 := aCJ (C := fun k => k % 8 = 4) e6 (fun hk => by have e9 : v9.toNatClampNeg = (Int32.toInt v9).toNat := rfl; have hk : v9.toNatClampNeg % 8 = 4 := hk; omega)
      have e13 : ∀ k : Nat, k % 8 = 6 -> 0 <= Int32.toInt ((upd (upd tD v1.toNatClampNeg jE) v9.toNatClampNeg eW) k) /\ Int32.toInt ((upd (upd tD v1.toNatClampNeg jE) v9.toNatClampNeg eW) k) <= 9 := aCJ (C := fun k => k % 8 = 6) e8 (fun hk => by have e9 : v9.toNatClampNeg = (Int32.toInt v9).toNat := rfl; have hk : v9.toNatClampNeg % 8 = 6 := hk; omega)
      intro v14 ev14
      have f15 : Int32.toInt (v1 + 2) = Int32.toInt v1 + Int32.toInt (2 : Int32) := aAD _ _ (by omega)
      rw [<- ev14] at f15
      refine And.intro (aBZ (by omega)) ?_
      have f17 := aAT eY
      have e16 : ∀ k : Nat, k % 8 = 4 -> -1 <= Int32.toInt ((upd (upd (upd tD v1.toNatClampNeg jE) v9.toNatClampNeg eW) v14.toNatClampNeg eY) k) /\ Int32.toInt ((upd (upd (upd tD v1.toNatClampNeg jE) v9.toNatClampNeg eW) v14.toNatClampNeg eY) k) <= 7 := aCJ (C := fun k => k % 8 = 4) e11 (fun hk => by have e9 : v14.toNatClampNeg = (Int32.toInt v14).toNat := rfl; have hk : v14.toNatClampNeg % 8 = 4 := hk; omega)
      have e18 : ∀ k : Nat, k % 8 = 6 -> 0 <= Int32.toInt ((upd (upd (upd tD v1.toNatClampNeg jE) v9.toNatClampNeg eW) v14.toNatClampNeg eY) k) /\ Int32.toInt ((upd (upd (upd tD v1.toNatClampNeg jE) v9.toNatClampNeg eW) v14.toNatClampNeg eY) k) <= 9 := aCJ (C := fun k => k % 8 = 6) e13 (fun hk => by have e9 : v14.toNatClampNeg = (Int32.toInt v14).toNat := rfl; have hk : v14.toNatClampNeg % 8 = 6 := hk; omega)
      intro v19 ev19
      have f20 : Int32.toInt (v1 + 3) = Int32.toInt v1 + Int32.toInt (3 : Int32) := aAD _ _ (by omega)
      rw [<- ev19] at f20
      refine And.intro (aBZ (by omega)) ?_
      have f22 := aAT dU
      have e21 : ∀ k : Nat, k % 8 = 4 -> -1 <= Int32.toInt ((upd (upd (upd (upd tD v1.toNatClampNeg jE) v9.toNatClampNeg eW) v14.toNatClampNeg eY) v19.toNatClampNeg dU) k) /\ Int32.toInt ((upd (upd (upd (upd tD v1.toNatClampNeg jE) v9.toNatClampNeg eW) v14.toNatClampNeg eY) v19.toNatClampNeg dU) k) <= 7 := aCJ (C := fun k => k % 8 = 4) e16 (fun hk => by have e9 : v19.toNatClampNeg = (Int32.toInt v19).toNat := rfl; have hk : v19.toNatClampNeg % 8 = 4 := hk; omega)
      have e23 : ∀ k : Nat, k % 8 = 6 -> 0 <= Int32.toInt ((upd (upd (upd (upd tD v1.toNatClampNeg jE) v9.toNatClampNeg eW) v14.toNatClampNeg eY) v19.toNatClampNeg dU) k) /\ Int32.toInt ((upd (upd (upd (upd tD v1.toNatClampNeg jE) v9.toNatClampNeg eW) v14.toNatClampNeg eY) v19.toNatClampNeg dU) k) <= 9 := aCJ (C := fun k => k % 8 = 6) e18 (fun hk => by have e9 : v19.toNatClampNeg = (Int32.toInt v19).toNat := rfl; have hk : v19.toNatClampNeg % 8 = 6 := hk; omega)
      intro v24 ev24
      have f25 : Int32.toInt (v1 + 4) = Int32.toInt v1 + Int32.toInt (4 : Int32) := aAD _ _ (by omega)
      rw [<- ev24] at f25
      refine And.intro (aBZ (by omega)) ?_
      have e26 : ∀ k : Nat, k % 8 = 4 -> -1 <= Int32.toInt ((upd (upd (upd (upd (upd tD v1.toNatClampNeg jE) v9.toNatClampNeg eW) v14.toNatClampNeg eY) v19.toNatClampNeg dU) v24.toNatClampNeg fY) k) /\ Int32.toInt ((upd (upd (upd (upd (upd tD v1.toNatClampNeg jE) v9.toNatClampNeg eW) v14.toNatClampNeg eY) v19.toNatClampNeg dU) v24.toNatClampNeg fY) k) <= 7 := aCJ (C := fun k => k % 8 = 4) e21 (fun hk => by have e9 : v24.toNatClampNeg = (Int32.toInt v24).toNat := rfl; have hk : v24.toNatClampNeg % 8 = 4 := hk; omega)
      have e27 : ∀ k : Nat, k % 8 = 6 -> 0 <= Int32.toInt ((upd (upd (upd (upd (upd tD v1.toNatClampNeg jE) v9.toNatClampNeg eW) v14.toNatClampNeg eY) v19.toNatClampNeg dU) v24.toNatClampNeg fY) k) /\ Int32.toInt ((upd (upd (upd (upd (upd tD v1.toNatClampNeg jE) v9.toNatClampNeg eW) v14.toNatClampNeg eY) v19.toNatClampNeg dU) v24.toNatClampNeg fY) k) <= 9 := aCJ (C := fun k => k % 8 = 6) e23 (fun hk => by have e9 : v24.toNatClampNeg = (Int32.toInt v24).toNat := rfl; have hk : v24.toNatClampNeg % 8 = 6 := hk; omega)
      intro v28 ev28
      have f29 : Int32.toInt (v1 + 5) = Int32.toInt v1 + Int32.toInt (5 : Int32) := aAD _ _ (by omega)
      rw [<- ev28] at f29
      refine And.intro (aBZ (by omega)) ?_
      have f31 := aAT gJ
      have e30 : ∀ k : Nat, k % 8 = 4 -> -1 <= Int32.toInt ((upd (upd (upd (upd (upd (upd tD v1.toNatClampNeg jE) v9.toNatClampNeg eW) v14.toNatClampNeg eY) v19.toNatClampNeg dU) v24.toNatClampNeg fY) v28.toNatClampNeg gJ) k) /\ Int32.toInt ((upd (upd (upd (upd (upd (upd tD v1.toNatClampNeg jE) v9.toNatClampNeg eW) v14.toNatClampNeg eY) v19.toNatClampNeg dU) v24.toNatClampNeg fY) v28.toNatClampNeg gJ) k) <= 7 := aCJ (C := fun k => k % 8 = 4) e26 (fun hk => by have e9 : v28.toNatClampNeg = (Int32.toInt v28).toNat := rfl; have hk : v28.toNatClampNeg % 8 = 4 := hk; omega)
      have e32 : ∀ k : Nat, k % 8 = 6 -> 0 <= Int32.toInt ((upd (upd (upd (upd (upd (upd tD v1.toNatClampNeg jE) v9.toNatClampNeg eW) v14.toNatClampNeg eY) v19.toNatClampNeg dU) v24.toNatClampNeg fY) v28.toNatClampNeg gJ) k) /\ Int32.toInt ((upd (upd (upd (upd (upd (upd tD v1.toNatClampNeg jE) v9.toNatClampNeg eW) v14.toNatClampNeg eY) v19.toNatClampNeg dU) v24.toNatClampNeg fY) v28.toNatClampNeg gJ) k) <= 9 := aCJ (C := fun k => k % 8 = 6) e27 (fun hk => by have e9 : v28.toNatClampNeg = (Int32.toInt v28).toNat := rfl; have hk : v28.toNatClampNeg % 8 = 6 := hk; omega)
      intro v33 ev33
      have f34 : Int32.toInt (v1 + 6) = Int32.toInt v1 + Int32.toInt (6 : Int32) := aAD _ _ (by omega)
      rw [<- ev33] at f34
      refine And.intro (aBZ (by omega)) ?_
      have e35 : ∀ k : Nat, k % 8 = 4 -> -1 <= Int32.toInt ((upd (upd (upd (upd (upd (upd (upd tD v1.toNatClampNeg jE) v9.toNatClampNeg eW) v14.toNatClampNeg eY) v19.toNatClampNeg dU) v24.toNatClampNeg fY) v28.toNatClampNeg gJ) v33.toNatClampNeg jG) k) /\ Int32.toInt ((upd (upd (upd (upd (upd (upd (upd tD v1.toNatClampNeg jE) v9.toNatClampNeg eW) v14.toNatClampNeg eY) v19.toNatClampNeg dU) v24.toNatClampNeg fY) v28.toNatClampNeg gJ) v33.toNatClampNeg jG) k) <= 7 := aCJ (C := fun k => k % 8 = 4) e30 (fun hk => by have e9 : v33.toNatClampNeg = (Int32.toInt v33).toNat := rfl; have hk : v33.toNatClampNeg % 8 = 4 := hk; omega)
      have e36 : ∀ k : Nat, k % 8 = 6 -> 0 <= Int32.toInt ((upd (upd (upd (upd (upd (upd (upd tD v1.toNatClampNeg jE) v9.toNatClampNeg eW) v14.toNatClampNeg eY) v19.toNatClampNeg dU) v24.toNatClampNeg fY) v28.toNatClampNeg gJ) v33.toNatClampNeg jG) k) /\ Int32.toInt ((upd (upd (upd (upd (upd (upd (upd tD v1.toNatClampNeg jE) v9.toNatClampNeg eW) v14.toNatClampNeg eY) v19.toNatClampNeg dU) v24.toNatClampNeg fY) v28.toNatClampNeg gJ) v33.toNatClampNeg jG) k) <= 9 := aCJ (C := fun k => k % 8 = 6) e32 (fun hk => by have e9 : v33.toNatClampNeg = (Int32.toInt v33).toNat := rfl; have hk : v33.toNatClampNeg % 8 = 6 := hk; omega)
      intro v37 ev37
      have f38 : Int32.toInt (v1 + 7) = Int32.toInt v1 + Int32.toInt (7 : Int32) := aAD _ _ (by omega)
      rw [<- ev37] at f38
      refine And.intro (aBZ (by omega)) ?_
      have f40 := aAT nU
      have e39 : ∀ k : Nat, k % 8 = 4 -> -1 <= Int32.toInt ((upd (upd (upd (upd (upd (upd (upd (upd tD v1.toNatClampNeg jE) v9.toNatClampNeg eW) v14.toNatClampNeg eY) v19.toNatClampNeg dU) v24.toNatClampNeg fY) v28.toNatClampNeg gJ) v33.toNatClampNeg jG) v37.toNatClampNeg nU) k) /\ Int32.toInt ((upd (upd (upd (upd (upd (upd (upd (upd tD v1.toNatClampNeg jE) v9.toNatClampNeg eW) v14.toNatClampNeg eY) v19.toNatClampNeg dU) v24.toNatClampNeg fY) v28.toNatClampNeg gJ) v33.toNatClampNeg jG) v37.toNatClampNeg nU) k) <= 7 := aCJ (C := fun k => k % 8 = 4) e35 (fun hk => by have e9 : v37.toNatClampNeg = (Int32.toInt v37).toNat := rfl; have hk : v37.toNatClampNeg % 8 = 4 := hk; omega)
      have e41 : ∀ k : Nat, k % 8 = 6 -> 0 <= Int32.toInt ((upd (upd (upd (upd (upd (upd (upd (upd tD v1.toNatClampNeg jE) v9.toNatClampNeg eW) v14.toNatClampNeg eY) v19.toNatClampNeg dU) v24.toNatClampNeg fY) v28.toNatClampNeg gJ) v33.toNatClampNeg jG) v37.toNatClampNeg nU) k) /\ Int32.toInt ((upd (upd (upd (upd (upd (upd (upd (upd tD v1.toNatClampNeg jE) v9.toNatClampNeg eW) v14.toNatClampNeg eY) v19.toNatClampNeg dU) v24.toNatClampNeg fY) v28.toNatClampNeg gJ) v33.toNatClampNeg jG) v37.toNatClampNeg nU) k) <= 9 := aCJ (C := fun k => k % 8 = 6) e36 (fun hk => by have e9 : v37.toNatClampNeg = (Int32.toInt v37).toNat := rfl; have hk : v37.toNatClampNeg % 8 = 6 := hk; omega)
      refine And.intro (fun c42 => ?_) (fun c42 => ?_)
      · skip
        have c42 := (aAd _ _).mp c42
        intro v43 ev43
        have f44 : Int32.toInt (jG + 1) = Int32.toInt jG + Int32.toInt (1 : Int32) := aAD _ _ (by omega)
        rw [<- ev43] at f44
        intro v45 ev45
        refine And.intro (fun c46 => ?_) (fun c46 => ?_)
        · skip
          have c46 := (aAd _ _).mp c46
          exfalso; omega
        · skip
          have c46 := mt (aAd _ _).mpr c46
          intro v47 ev47
          have f48 : Int32.toInt (uM + 1) = Int32.toInt uM + Int32.toInt (1 : Int32) := aAD _ _ (by omega)
          rw [<- ev47] at f48
          intro v49 ev49
          have f50 : Int32.toInt (v47 - v47 / 13 * 13) = Int32.toInt v47 % 13 := ti_rem _ _ (by decide) (by omega) (by decide)
          rw [<- ev49] at f50
          intro v51 ev51
          have f52 : Int32.toInt (pR + 1) = Int32.toInt pR + Int32.toInt (1 : Int32) := aAD _ _ (by omega)
          rw [<- ev51] at f52
          intro v53 ev53
          have f54 := ti_min (12 : Int32) v51
          have hv53 := congrArg Int32.toInt ev53
          exact hpost _ _ _ _ _ _ _ _ _ (by omega) (by omega) (by omega) (by omega) (by omega) e39 e41
      · skip
        have c42 := mt (aAd _ _).mpr c42
        refine And.intro (fun _ => ?_) (fun h9 => absurd h9 (by decide))
        exact hpost _ _ _ _ _ _ _ _ _ (by omega) aAC (by omega) aAr aBy e39 e41
    · skip
      have c4 := mt (aAO _ _).mpr c4
      exfalso; omega
set_option maxHeartbeats 8000000 in
set_option maxRecDepth 200000 in
theorem ts_X9_doAct_143 {post : Int32 -> Int32 -> Int32 -> Int32 -> Int32 -> Int32 -> Int32 -> Int32 -> Int32 -> (Nat -> Int32) -> (Nat -> Int32) -> Prop} (dN bD : Int32) (uU gF pL qF mX oE dY : Nat -> Int32) (pQ : Int32) (pN : Nat -> Int32) (xL : 0 <= Int32.toInt dN /\ Int32.toInt dN <= 16) (wX : 0 <= Int32.toInt bD /\ Int32.toInt bD <= 8) (zU : 0 <= Int32.toInt pQ /\ Int32.toInt pQ <= 40) (hpost : ∀ (r : Int32) (aHN : Int32) (aGq : Int32) (aGr : Int32) (aFB : Int32) (aCx : Int32) (aI5 : Int32) (aDz : Int32) (aFi : Int32) (aCG : Nat -> Int32) (aB4 : Nat -> Int32), (-1 <= Int32.toInt aCx /\ Int32.toInt aCx <= 7) -> (0 <= Int32.toInt aDz /\ Int32.toInt aDz <= 9) -> post r aHN aGq aGr aFB aCx aI5 aDz aFi aCG aB4) (jE eW eY dU fY gJ jG nU : Int32) (qY qU : Nat -> Int32) (aAC : -1 <= Int32.toInt fY /\ Int32.toInt fY <= 7) (zK : 0 <= Int32.toInt jG /\ Int32.toInt jG <= 9) : ws_X9_doAct_143 post dN bD uU gF pL qF mX oE dY pQ pN jE eW eY dU fY gJ jG nU qY qU := by
  have l0 := aI2
  have l1 := aEc
  have l2 := li_9
  refine And.intro (fun c1 => ?_) (fun c1 => ?_)
  · skip
    have c1 := (aAd _ _).mp c1
    intro v2 ev2
    have f3 : Int32.toInt (jG + 1) = Int32.toInt jG + Int32.toInt (1 : Int32) := aAD _ _ (by omega)
    rw [<- ev2] at f3
    intro v4 ev4
    exact hpost _ _ _ _ _ _ _ _ _ _ _ (by omega) (by omega)
  · skip
    have c1 := mt (aAd _ _).mpr c1
    exact hpost _ _ _ _ _ _ _ _ _ _ _ aAC zK
set_option maxHeartbeats 8000000 in
set_option maxRecDepth 200000 in
theorem t_X9_doAct {post : Int32 -> Int32 -> Int32 -> Int32 -> Int32 -> Int32 -> Int32 -> Int32 -> Int32 -> (Nat -> Int32) -> (Nat -> Int32) -> Prop} {p0 p1 dN bD : Int32} {uU gF pL qF mX oE dY : Nat -> Int32} {jE eW eY dU fY gJ jG nU pQ : Int32} {qY qU pN : Nat -> Int32} (xL : 0 <= Int32.toInt dN /\ Int32.toInt dN <= 16) (wX : 0 <= Int32.toInt bD /\ Int32.toInt bD <= 8) (aAC : -1 <= Int32.toInt fY /\ Int32.toInt fY <= 7) (zK : 0 <= Int32.toInt jG /\ Int32.toInt jG <= 9) (zU : 0 <= Int32.toInt pQ /\ Int32.toInt pQ <= 40) (hpost : ∀ (r : Int32) (aHN : Int32) (aGq : Int32) (aGr : Int32) (aFB : Int32) (aCx : Int32) (aI5 : Int32) (aDz : Int32) (aFi : Int32) (aCG : Nat -> Int32) (aB4 : Nat -> Int32), (-1 <= Int32.toInt aCx /\ Int32.toInt aCx <= 7) -> (0 <= Int32.toInt aDz /\ Int32.toInt aDz <= 9) -> post r aHN aGq aGr aFB aCx aI5 aDz aFi aCG aB4) : wp_X9_doAct post p0 p1 dN bD uU gF pL qF mX oE dY jE eW eY dU fY gJ jG nU pQ qY qU pN := by
  have l0 := aI2
  have l1 := aE0
  have l2 := li_100
  have l3 := li_104
  have l4 := li_107
  have l5 := li_109
  have l6 := li_111
  have l7 := li_112
  have l8 := aJ8
  have l9 := aJ9
  have l10 := li_97
  have l11 := li_9999
  have f5 := aAT p0
  refine And.intro (fun c6 => ?_) ?_
  · skip
    have c6 := (zJ _ _).mp c6
    refine t_X9_isYesOrNo  (fun r7 h_r7 => ?_)
    refine And.intro (fun c8 => ?_) (fun c8 => ?_)
    · skip
      have c8 := mt (zJ _ _).mpr c8
      exact hpost _ _ _ _ _ _ _ _ _ _ _ aAC zK
    · skip
      have c8 := (zJ _ _).mp c8
      exact hpost _ _ _ _ _ _ _ _ _ _ _ aAC zK
  refine And.intro (fun c9 => ?_) ?_
  · skip
    have c9 := (zJ _ _).mp c9
    refine And.intro (fun c10 => ?_) (fun c10 => ?_)
    · skip
      have c10 := (zJ _ _).mp c10
      exact hpost _ _ _ _ _ _ _ _ _ _ _ aAC zK
    · skip
      have c10 := mt (zJ _ _).mpr c10
      have f12 := aAT jE
      refine And.intro (fun c11 => ?_) (fun c11 => ?_)
      · skip
        have c11 := mt (zJ _ _).mpr c11
        intro v13 ev13
        intro v14 ev14
        have hv14 := congrArg Int32.toInt ev14
        intro v16 ev16
        have f17 := aAQ v14 858993459 (by omega)
        have hv16 := congrArg Int32.toInt ev16
        intro v18 ev18
        intro v19 ev19
        have f21 := aAQ v18 858993459 (by omega)
        have f20 : Int32.toInt (v16 + (v18 &&& 858993459)) = Int32.toInt v16 + Int32.toInt (v18 &&& 858993459) := aAD _ _ (by omega)
        rw [<- ev19] at f20
        intro v22 ev22
        have hv22 := congrArg Int32.toInt ev22
        intro v24 ev24
        have f25 := aAQ v22 252645135 (by omega)
        have hv24 := congrArg Int32.toInt ev24
        intro v26 ev26
        have hv26 := congrArg Int32.toInt ev26
        intro v28 ev28
        have hv28 := congrArg Int32.toInt ev28
        intro v30 ev30
        refine And.intro (aBZ (by omega)) ?_
        intro v31 ev31
        have hv31 := congrArg Int32.toInt ev31
        intro v33 ev33
        have hv33 := congrArg Int32.toInt ev33
        intro v35 ev35
        have hv35 := congrArg Int32.toInt ev35
        intro v37 ev37
        have f38 := aAT (if v35 < 9999 then v35 else 9999)
        have f40 := aAT v35
        have f39 := ti_min (9999 : Int32) v35
        have hv37 := congrArg Int32.toInt ev37
        exact hpost _ _ _ _ _ _ _ _ _ _ _ aAC zK
      · skip
        have c11 := (zJ _ _).mp c11
        exact hpost _ _ _ _ _ _ _ _ _ _ _ aAC zK
  refine And.intro (fun c41 => ?_) ?_
  · skip
    have c41 := (zJ _ _).mp c41
    refine t_X0_pickFruit xL aAC zK zU (fun r47 no_apron_42 no_bruised_43 no_clock_44 ru_given_45 ru_stack_46 h_r47 => ?_)
    exact hpost _ _ _ _ _ _ _ _ _ _ _ aAC zK
  refine And.intro (fun c48 => ?_) ?_
  · skip
    have c48 := (zJ _ _).mp c48
    refine t_X0_shakeTree xL aAC zK (fun r52 no_ground_49 no_bruised_50 no_clock_51 h_r52 => ?_)
    exact hpost _ _ _ _ _ _ _ _ _ _ _ aAC zK
  refine And.intro (fun c53 => ?_) ?_
  · skip
    have c53 := (zJ _ _).mp c53
    refine t_X0_setLadder wX aAC (fun r58 no_apron_54 no_basket_55 no_ladder_56 no_clock_57 h_no_ladder_56 => ?_)
    exact hpost _ _ _ _ _ _ _ _ _ _ _ h_no_ladder_56 zK
  refine And.intro (fun c59 => ?_) ?_
  · skip
    have c59 := (zJ _ _).mp c59
    refine t_X9_isYesOrNo  (fun r60 h_r60 => ?_)
    refine And.intro (fun c61 => ?_) (fun c61 => ?_)
    · skip
      have c61 := mt (zJ _ _).mpr c61
      exact hpost _ _ _ _ _ _ _ _ _ _ _ aAC zK
    · skip
      have c61 := (zJ _ _).mp c61
      exact hpost _ _ _ _ _ _ _ _ _ _ _ aAC zK
  refine And.intro (fun c62 => ?_) ?_
  · skip
    have c62 := (zJ _ _).mp c62
    refine t_X0_pickFruit xL aAC zK zU (fun r68 no_apron_63 no_bruised_64 no_clock_65 ru_given_66 ru_stack_67 h_r68 => ?_)
    exact hpost _ _ _ _ _ _ _ _ _ _ _ aAC zK
  intro c69 c70 c71 c72 c73 c74 c75
  have c69 := mt (zJ _ _).mpr c69
  have c70 := mt (zJ _ _).mpr c70
  have c71 := mt (zJ _ _).mpr c71
  have c72 := mt (zJ _ _).mpr c72
  have c73 := mt (zJ _ _).mpr c73
  have c74 := mt (zJ _ _).mpr c74
  have c75 := mt (zJ _ _).mpr c75
  have f76 := aAT jE
  have f77 := aAT eW
  have f78 := aAT eY
  have f79 := aAT dU
  have f80 := aAT gJ
  have f81 := aAT nU
  exact ts_X9_doAct_143 dN bD uU gF pL qF mX oE dY pQ pN xL wX zU hpost jE eW eY dU fY gJ jG nU qY qU aAC zK
set_option maxHeartbeats 8000000 in
set_option maxRecDepth 200000 in
theorem ts_X9_doActs_118 {post : Int32 -> Int32 -> Int32 -> Int32 -> Int32 -> Int32 -> Int32 -> Int32 -> Int32 -> (Nat -> Int32) -> (Nat -> Int32) -> Int32 -> Int32 -> (Nat -> Int32) -> Int32 -> (Nat -> Int32) -> Prop} (wE : Nat -> Int32) (dN bD : Int32) (uU gF pL qF mX oE dY : Nat -> Int32) (pQ : Int32) (pN : Nat -> Int32) (xL : 0 <= Int32.toInt dN /\ Int32.toInt dN <= 16) (wX : 0 <= Int32.toInt bD /\ Int32.toInt bD <= 8) (zU : 0 <= Int32.toInt pQ /\ Int32.toInt pQ <= 40) (hpost : ∀ (r : Int32) (aHN : Int32) (aGq : Int32) (aGr : Int32) (aFB : Int32) (aCx : Int32) (aI5 : Int32) (aDz : Int32) (aFi : Int32) (aCG : Nat -> Int32) (aB4 : Nat -> Int32) (aBa : Int32) (aEN : Int32) (aCN : Nat -> Int32) (zV : Int32) (aAV : Nat -> Int32), (-1 <= Int32.toInt aCx /\ Int32.toInt aCx <= 7) -> (0 <= Int32.toInt aDz /\ Int32.toInt aDz <= 9) -> (0 <= Int32.toInt aBa /\ Int32.toInt aBa <= 12) -> (0 <= Int32.toInt aEN /\ Int32.toInt aEN <= 12) -> (∀ k : Nat, k % 8 = 4 -> -1 <= Int32.toInt (aCN k) /\ Int32.toInt (aCN k) <= 7) -> (∀ k : Nat, k % 8 = 6 -> 0 <= Int32.toInt (aCN k) /\ Int32.toInt (aCN k) <= 9) -> (2 <= Int32.toInt zV /\ Int32.toInt zV <= 2) -> post r aHN aGq aGr aFB aCx aI5 aDz aFi aCG aB4 aBa aEN aCN zV aAV) (x2 x3 x4 jE eW eY dU fY gJ jG nU : Int32) (qY qU : Nat -> Int32) (pR uM : Int32) (tD : Nat -> Int32) (qB : Int32) (jK : Nat -> Int32) (aDO : 0 <= Int32.toInt x4 /\ Int32.toInt x4 <= 1) (aAC : -1 <= Int32.toInt fY /\ Int32.toInt fY <= 7) (zK : 0 <= Int32.toInt jG /\ Int32.toInt jG <= 9) (aAr : 0 <= Int32.toInt pR /\ Int32.toInt pR <= 12) (aBy : 0 <= Int32.toInt uM /\ Int32.toInt uM <= 12) (aBF : ∀ k : Nat, k % 8 = 4 -> -1 <= Int32.toInt (tD k) /\ Int32.toInt (tD k) <= 7) (aBG : ∀ k : Nat, k % 8 = 6 -> 0 <= Int32.toInt (tD k) /\ Int32.toInt (tD k) <= 9) (aAK : 0 <= Int32.toInt qB /\ Int32.toInt qB <= 16) : bCZ post wE dN bD uU gF pL qF mX oE dY pQ pN x2 x3 x4 jE eW eY dU fY gJ jG nU qY qU pR uM tD qB jK := by
  have l0 := aE0
  have l1 := aEc
  have l2 := li_16
  refine And.intro (fun h9 => absurd h9 (by decide)) (fun _ => ?_)
  refine And.intro (aBZ (by omega)) ?_
  intro v1 ev1
  have f2 : Int32.toInt (0 + 1) = Int32.toInt (0 : Int32) + Int32.toInt (1 : Int32) := aAD _ _ (by omega)
  rw [<- ev1] at f2
  refine And.intro (fun c3 => ?_) (fun c3 => ?_)
  · skip
    have c3 := (aAO _ _).mp c3
    exfalso; omega
  · skip
    have c3 := mt (aAO _ _).mpr c3
    refine And.intro (aBZ (by omega)) ?_
    intro v4 ev4
    have f5 : Int32.toInt (v1 + 1) = Int32.toInt v1 + Int32.toInt (1 : Int32) := aAD _ _ (by omega)
    rw [<- ev4] at f5
    exact hpost _ _ _ _ _ _ _ _ _ _ _ _ _ _ _ _ aAC zK aAr aBy aBF aBG (by omega)
set_option maxHeartbeats 8000000 in
set_option maxRecDepth 200000 in
theorem ts_X9_doActs_107 {post : Int32 -> Int32 -> Int32 -> Int32 -> Int32 -> Int32 -> Int32 -> Int32 -> Int32 -> (Nat -> Int32) -> (Nat -> Int32) -> Int32 -> Int32 -> (Nat -> Int32) -> Int32 -> (Nat -> Int32) -> Prop} (wE : Nat -> Int32) (dN bD : Int32) (uU gF pL qF mX oE dY : Nat -> Int32) (pQ : Int32) (pN : Nat -> Int32) (xL : 0 <= Int32.toInt dN /\ Int32.toInt dN <= 16) (wX : 0 <= Int32.toInt bD /\ Int32.toInt bD <= 8) (zU : 0 <= Int32.toInt pQ /\ Int32.toInt pQ <= 40) (hpost : ∀ (r : Int32) (aHN : Int32) (aGq : Int32) (aGr : Int32) (aFB : Int32) (aCx : Int32) (aI5 : Int32) (aDz : Int32) (aFi : Int32) (aCG : Nat -> Int32) (aB4 : Nat -> Int32) (aBa : Int32) (aEN : Int32) (aCN : Nat -> Int32) (zV : Int32) (aAV : Nat -> Int32), (-1 <= Int32.toInt aCx /\ Int32.toInt aCx <= 7) -> (0 <= Int32.toInt aDz /\ Int32.toInt aDz <= 9) -> (0 <= Int32.toInt aBa /\ Int32.toInt aBa <= 12) -> (0 <= Int32.toInt aEN /\ Int32.toInt aEN <= 12) -> (∀ k : Nat, k % 8 = 4 -> -1 <= Int32.toInt (aCN k) /\ Int32.toInt (aCN k) <= 7) -> (∀ k : Nat, k % 8 = 6 -> 0 <= Int32.toInt (aCN k) /\ Int32.toInt (aCN k) <= 9) -> (2 <= Int32.toInt zV /\ Int32.toInt zV <= 2) -> post r aHN aGq aGr aFB aCx aI5 aDz aFi aCG aB4 aBa aEN aCN zV aAV) (x2 x3 x4 jE eW eY dU fY gJ jG nU : Int32) (qY qU : Nat -> Int32) (pR uM : Int32) (tD : Nat -> Int32) (qB : Int32) (jK : Nat -> Int32) (aDO : 0 <= Int32.toInt x4 /\ Int32.toInt x4 <= 1) (aAC : -1 <= Int32.toInt fY /\ Int32.toInt fY <= 7) (zK : 0 <= Int32.toInt jG /\ Int32.toInt jG <= 9) (aAr : 0 <= Int32.toInt pR /\ Int32.toInt pR <= 12) (aBy : 0 <= Int32.toInt uM /\ Int32.toInt uM <= 12) (aBF : ∀ k : Nat, k % 8 = 4 -> -1 <= Int32.toInt (tD k) /\ Int32.toInt (tD k) <= 7) (aBG : ∀ k : Nat, k % 8 = 6 -> 0 <= Int32.toInt (tD k) /\ Int32.toInt (tD k) <= 9) (aAK : 0 <= Int32.toInt qB /\ Int32.toInt qB <= 16) : ws_X9_doActs_107 post wE dN bD uU gF pL qF mX oE dY pQ pN x2 x3 x4 jE eW eY dU fY gJ jG nU qY qU pR uM tD qB jK := by
  have l0 := aE0
  have l1 := aEc
  have l2 := li_12
  have l3 := li_13
  have f7 := aAT x2
  refine And.intro (fun c6 => ?_) (fun c6 => ?_)
  · skip
    have c6 := (aAO _ _).mp c6
    have f8 := aAT x3
    have f9 := aAT jE
    have f10 := aAT eW
    have f11 := aAT eY
    have f12 := aAT dU
    have f13 := aAT gJ
    have f14 := aAT nU
    exact ts_X9_doActs_118 wE dN bD uU gF pL qF mX oE dY pQ pN xL wX zU hpost x2 x3 x4 jE eW eY dU fY gJ jG nU qY qU pR uM tD qB jK aDO aAC zK aAr aBy aBF aBG aAK
  · skip
    have c6 := mt (aAO _ _).mpr c6
    intro v15 ev15
    have f16 : Int32.toInt (uM + 1) = Int32.toInt uM + Int32.toInt (1 : Int32) := aAD _ _ (by omega)
    rw [<- ev15] at f16
    intro v17 ev17
    have f18 : Int32.toInt (v15 - v15 / 13 * 13) = Int32.toInt v15 % 13 := ti_rem _ _ (by decide) (by omega) (by decide)
    rw [<- ev17] at f18
    intro v19 ev19
    have f20 : Int32.toInt (pR + 1) = Int32.toInt pR + Int32.toInt (1 : Int32) := aAD _ _ (by omega)
    rw [<- ev19] at f20
    intro v21 ev21
    have f22 := ti_min (12 : Int32) v19
    have hv21 := congrArg Int32.toInt ev21
    have f23 := aAT x3
    have f24 := aAT jE
    have f25 := aAT eW
    have f26 := aAT eY
    have f27 := aAT dU
    have f28 := aAT gJ
    have f29 := aAT nU
    exact ts_X9_doActs_118 wE dN bD uU gF pL qF mX oE dY pQ pN xL wX zU hpost x2 x3 x4 jE eW eY dU fY gJ jG nU qY qU v21 v17 tD qB jK aDO aAC zK (by omega) (by omega) aBF aBG aAK
set_option maxHeartbeats 8000000 in
set_option maxRecDepth 200000 in
theorem ts_X9_doActs_101 {post : Int32 -> Int32 -> Int32 -> Int32 -> Int32 -> Int32 -> Int32 -> Int32 -> Int32 -> (Nat -> Int32) -> (Nat -> Int32) -> Int32 -> Int32 -> (Nat -> Int32) -> Int32 -> (Nat -> Int32) -> Prop} {K21 : Int32 -> Int32 -> Int32 -> Int32 -> Int32 -> Int32 -> Int32 -> Int32 -> Int32 -> Int32 -> Int32 -> Int32 -> Int32 -> (Nat -> Int32) -> (Nat -> Int32) -> Int32 -> Int32 -> (Nat -> Int32) -> Int32 -> (Nat -> Int32) -> Prop} {n21 : Int} (wE : Nat -> Int32) (dN bD : Int32) (uU gF pL qF mX oE dY : Nat -> Int32) (pQ : Int32) (pN : Nat -> Int32) (xL : 0 <= Int32.toInt dN /\ Int32.toInt dN <= 16) (wX : 0 <= Int32.toInt bD /\ Int32.toInt bD <= 8) (zU : 0 <= Int32.toInt pQ /\ Int32.toInt pQ <= 40) (hpost : ∀ (r : Int32) (aHN : Int32) (aGq : Int32) (aGr : Int32) (aFB : Int32) (aCx : Int32) (aI5 : Int32) (aDz : Int32) (aFi : Int32) (aCG : Nat -> Int32) (aB4 : Nat -> Int32) (aBa : Int32) (aEN : Int32) (aCN : Nat -> Int32) (zV : Int32) (aAV : Nat -> Int32), (-1 <= Int32.toInt aCx /\ Int32.toInt aCx <= 7) -> (0 <= Int32.toInt aDz /\ Int32.toInt aDz <= 9) -> (0 <= Int32.toInt aBa /\ Int32.toInt aBa <= 12) -> (0 <= Int32.toInt aEN /\ Int32.toInt aEN <= 12) -> (∀ k : Nat, k % 8 = 4 -> -1 <= Int32.toInt (aCN k) /\ Int32.toInt (aCN k) <= 7) -> (∀ k : Nat, k % 8 = 6 -> 0 <= Int32.toInt (aCN k) /\ Int32.toInt (aCN k) <= 9) -> (2 <= Int32.toInt zV /\ Int32.toInt zV <= 2) -> post r aHN aGq aGr aFB aCx aI5 aDz aFi aCG aB4 aBa aEN aCN zV aAV) (hK21 : ∀ (x1 : Int32) (x2 : Int32) (x3 : Int32) (x4 : Int32) (x5 : Int32) (jE : Int32) (eW : Int32) (eY : Int32) (dU : Int32) (fY : Int32) (gJ : Int32) (jG : Int32) (nU : Int32) (qY : Nat -> Int32) (qU : Nat -> Int32) (pR : Int32) (uM : Int32) (tD : Nat -> Int32) (qB : Int32) (jK : Nat -> Int32), (-1 <= Int32.toInt x1 /\ Int32.toInt x1 <= 30) -> (0 <= Int32.toInt x4 /\ Int32.toInt x4 <= 1) -> (0 <= Int32.toInt x5 /\ Int32.toInt x5 <= 30) -> (-1 <= Int32.toInt fY /\ Int32.toInt fY <= 7) -> (0 <= Int32.toInt jG /\ Int32.toInt jG <= 9) -> (0 <= Int32.toInt pR /\ Int32.toInt pR <= 12) -> (0 <= Int32.toInt uM /\ Int32.toInt uM <= 12) -> (∀ k : Nat, k % 8 = 4 -> -1 <= Int32.toInt (tD k) /\ Int32.toInt (tD k) <= 7) -> (∀ k : Nat, k % 8 = 6 -> 0 <= Int32.toInt (tD k) /\ Int32.toInt (tD k) <= 9) -> (0 <= Int32.toInt qB /\ Int32.toInt qB <= 16) -> (30 - Int32.toInt x5 < n21) -> K21 x1 x2 x3 x4 x5 jE eW eY dU fY gJ jG nU qY qU pR uM tD qB jK) (x1 x2 x3 x4 x5 jE eW eY dU fY gJ jG nU : Int32) (qY qU : Nat -> Int32) (pR uM : Int32) (tD : Nat -> Int32) (qB : Int32) (jK : Nat -> Int32) (aBK : 1 <= Int32.toInt x1 /\ Int32.toInt x1 <= 30) (aDO : 0 <= Int32.toInt x4 /\ Int32.toInt x4 <= 1) (aF7 : 0 <= Int32.toInt x5 /\ Int32.toInt x5 <= 29) (aAC : -1 <= Int32.toInt fY /\ Int32.toInt fY <= 7) (zK : 0 <= Int32.toInt jG /\ Int32.toInt jG <= 9) (aAr : 0 <= Int32.toInt pR /\ Int32.toInt pR <= 12) (aBy : 0 <= Int32.toInt uM /\ Int32.toInt uM <= 12) (aBF : ∀ k : Nat, k % 8 = 4 -> -1 <= Int32.toInt (tD k) /\ Int32.toInt (tD k) <= 7) (aBG : ∀ k : Nat, k % 8 = 6 -> 0 <= Int32.toInt (tD k) /\ Int32.toInt (tD k) <= 9) (aAK : 0 <= Int32.toInt qB /\ Int32.toInt qB <= 16) (hn21 : 30 - Int32.toInt x5 <= n21) : ws_X9_doActs_101 post K21 wE dN bD uU gF pL qF mX oE dY pQ pN x1 x2 x3 x4 x5 jE eW eY dU fY gJ jG nU qY qU pR uM tD qB jK := by
  have l0 := aEc
  intro v30 ev30
  have f31 : Int32.toInt (x5 + 1) = Int32.toInt x5 + Int32.toInt (1 : Int32) := aAD _ _ (by omega)
  rw [<- ev30] at f31
  have f32 := aAT x2
  have f33 := aAT x3
  have f34 := aAT jE
  have f35 := aAT eW
  have f36 := aAT eY
  have f37 := aAT dU
  have f38 := aAT gJ
  have f39 := aAT nU
  exact hK21 x1 x2 x3 x4 v30 jE eW eY dU fY gJ jG nU qY qU pR uM tD qB jK (by omega) aDO (by omega) aAC zK aAr aBy aBF aBG aAK (by omega)
set_option maxHeartbeats 8000000 in
set_option maxRecDepth 200000 in
theorem ts_X9_doActs_99 {post : Int32 -> Int32 -> Int32 -> Int32 -> Int32 -> Int32 -> Int32 -> Int32 -> Int32 -> (Nat -> Int32) -> (Nat -> Int32) -> Int32 -> Int32 -> (Nat -> Int32) -> Int32 -> (Nat -> Int32) -> Prop} {K21 : Int32 -> Int32 -> Int32 -> Int32 -> Int32 -> Int32 -> Int32 -> Int32 -> Int32 -> Int32 -> Int32 -> Int32 -> Int32 -> (Nat -> Int32) -> (Nat -> Int32) -> Int32 -> Int32 -> (Nat -> Int32) -> Int32 -> (Nat -> Int32) -> Prop} {n21 : Int} (wE : Nat -> Int32) (dN bD : Int32) (uU gF pL qF mX oE dY : Nat -> Int32) (pQ : Int32) (pN : Nat -> Int32) (xL : 0 <= Int32.toInt dN /\ Int32.toInt dN <= 16) (wX : 0 <= Int32.toInt bD /\ Int32.toInt bD <= 8) (zU : 0 <= Int32.toInt pQ /\ Int32.toInt pQ <= 40) (hpost : ∀ (r : Int32) (aHN : Int32) (aGq : Int32) (aGr : Int32) (aFB : Int32) (aCx : Int32) (aI5 : Int32) (aDz : Int32) (aFi : Int32) (aCG : Nat -> Int32) (aB4 : Nat -> Int32) (aBa : Int32) (aEN : Int32) (aCN : Nat -> Int32) (zV : Int32) (aAV : Nat -> Int32), (-1 <= Int32.toInt aCx /\ Int32.toInt aCx <= 7) -> (0 <= Int32.toInt aDz /\ Int32.toInt aDz <= 9) -> (0 <= Int32.toInt aBa /\ Int32.toInt aBa <= 12) -> (0 <= Int32.toInt aEN /\ Int32.toInt aEN <= 12) -> (∀ k : Nat, k % 8 = 4 -> -1 <= Int32.toInt (aCN k) /\ Int32.toInt (aCN k) <= 7) -> (∀ k : Nat, k % 8 = 6 -> 0 <= Int32.toInt (aCN k) /\ Int32.toInt (aCN k) <= 9) -> (2 <= Int32.toInt zV /\ Int32.toInt zV <= 2) -> post r aHN aGq aGr aFB aCx aI5 aDz aFi aCG aB4 aBa aEN aCN zV aAV) (hK21 : ∀ (x1 : Int32) (x2 : Int32) (x3 : Int32) (x4 : Int32) (x5 : Int32) (jE : Int32) (eW : Int32) (eY : Int32) (dU : Int32) (fY : Int32) (gJ : Int32) (jG : Int32) (nU : Int32) (qY : Nat -> Int32) (qU : Nat -> Int32) (pR : Int32) (uM : Int32) (tD : Nat -> Int32) (qB : Int32) (jK : Nat -> Int32), (-1 <= Int32.toInt x1 /\ Int32.toInt x1 <= 30) -> (0 <= Int32.toInt x4 /\ Int32.toInt x4 <= 1) -> (0 <= Int32.toInt x5 /\ Int32.toInt x5 <= 30) -> (-1 <= Int32.toInt fY /\ Int32.toInt fY <= 7) -> (0 <= Int32.toInt jG /\ Int32.toInt jG <= 9) -> (0 <= Int32.toInt pR /\ Int32.toInt pR <= 12) -> (0 <= Int32.toInt uM /\ Int32.toInt uM <= 12) -> (∀ k : Nat, k % 8 = 4 -> -1 <= Int32.toInt (tD k) /\ Int32.toInt (tD k) <= 7) -> (∀ k : Nat, k % 8 = 6 -> 0 <= Int32.toInt (tD k) /\ Int32.toInt (tD k) <= 9) -> (0 <= Int32.toInt qB /\ Int32.toInt qB <= 16) -> (30 - Int32.toInt x5 < n21) -> K21 x1 x2 x3 x4 x5 jE eW eY dU fY gJ jG nU qY qU pR uM tD qB jK) (x1 x2 x4 x5 k0 k1 jE eW eY dU fY gJ jG nU : Int32) (qY qU : Nat -> Int32) (pR uM : Int32) (tD : Nat -> Int32) (qB : Int32) (jK : Nat -> Int32) (aBK : 1 <= Int32.toInt x1 /\ Int32.toInt x1 <= 30) (aDO : 0 <= Int32.toInt x4 /\ Int32.toInt x4 <= 0) (aF7 : 0 <= Int32.toInt x5 /\ Int32.toInt x5 <= 29) (h_k1 : 0 <= Int32.toInt k1 /\ Int32.toInt k1 <= 1) (aAC : -1 <= Int32.toInt fY /\ Int32.toInt fY <= 7) (zK : 0 <= Int32.toInt jG /\ Int32.toInt jG <= 9) (aAr : 0 <= Int32.toInt pR /\ Int32.toInt pR <= 12) (aBy : 0 <= Int32.toInt uM /\ Int32.toInt uM <= 12) (aBF : ∀ k : Nat, k % 8 = 4 -> -1 <= Int32.toInt (tD k) /\ Int32.toInt (tD k) <= 7) (aBG : ∀ k : Nat, k % 8 = 6 -> 0 <= Int32.toInt (tD k) /\ Int32.toInt (tD k) <= 9) (aAK : 0 <= Int32.toInt qB /\ Int32.toInt qB <= 16) (hn21 : 30 - Int32.toInt x5 <= n21) : ws_X9_doActs_99 post K21 wE dN bD uU gF pL qF mX oE dY pQ pN x1 x2 x4 x5 k0 k1 jE eW eY dU fY gJ jG nU qY qU pR uM tD qB jK := by
  intro v40 ev40
  have hv40 := congrArg Int32.toInt ev40
  have f42 := aAT x2
  have f43 := aAT v40
  have f44 := aAT jE
  have f45 := aAT eW
  have f46 := aAT eY
  have f47 := aAT dU
  have f48 := aAT gJ
  have f49 := aAT nU
  exact ts_X9_doActs_101 wE dN bD uU gF pL qF mX oE dY pQ pN xL wX zU hpost hK21 x1 x2 v40 x4 x5 jE eW eY dU fY gJ jG nU qY qU pR uM tD qB jK aBK (by omega) aF7 aAC zK aAr aBy aBF aBG aAK hn21
set_option maxHeartbeats 8000000 in
set_option maxRecDepth 200000 in
theorem ts_X9_doActs_94 {post : Int32 -> Int32 -> Int32 -> Int32 -> Int32 -> Int32 -> Int32 -> Int32 -> Int32 -> (Nat -> Int32) -> (Nat -> Int32) -> Int32 -> Int32 -> (Nat -> Int32) -> Int32 -> (Nat -> Int32) -> Prop} {K21 : Int32 -> Int32 -> Int32 -> Int32 -> Int32 -> Int32 -> Int32 -> Int32 -> Int32 -> Int32 -> Int32 -> Int32 -> Int32 -> (Nat -> Int32) -> (Nat -> Int32) -> Int32 -> Int32 -> (Nat -> Int32) -> Int32 -> (Nat -> Int32) -> Prop} {n21 : Int} (wE : Nat -> Int32) (dN bD : Int32) (uU gF pL qF mX oE dY : Nat -> Int32) (pQ : Int32) (pN : Nat -> Int32) (xL : 0 <= Int32.toInt dN /\ Int32.toInt dN <= 16) (wX : 0 <= Int32.toInt bD /\ Int32.toInt bD <= 8) (zU : 0 <= Int32.toInt pQ /\ Int32.toInt pQ <= 40) (hpost : ∀ (r : Int32) (aHN : Int32) (aGq : Int32) (aGr : Int32) (aFB : Int32) (aCx : Int32) (aI5 : Int32) (aDz : Int32) (aFi : Int32) (aCG : Nat -> Int32) (aB4 : Nat -> Int32) (aBa : Int32) (aEN : Int32) (aCN : Nat -> Int32) (zV : Int32) (aAV : Nat -> Int32), (-1 <= Int32.toInt aCx /\ Int32.toInt aCx <= 7) -> (0 <= Int32.toInt aDz /\ Int32.toInt aDz <= 9) -> (0 <= Int32.toInt aBa /\ Int32.toInt aBa <= 12) -> (0 <= Int32.toInt aEN /\ Int32.toInt aEN <= 12) -> (∀ k : Nat, k % 8 = 4 -> -1 <= Int32.toInt (aCN k) /\ Int32.toInt (aCN k) <= 7) -> (∀ k : Nat, k % 8 = 6 -> 0 <= Int32.toInt (aCN k) /\ Int32.toInt (aCN k) <= 9) -> (2 <= Int32.toInt zV /\ Int32.toInt zV <= 2) -> post r aHN aGq aGr aFB aCx aI5 aDz aFi aCG aB4 aBa aEN aCN zV aAV) (hK21 : ∀ (x1 : Int32) (x2 : Int32) (x3 : Int32) (x4 : Int32) (x5 : Int32) (jE : Int32) (eW : Int32) (eY : Int32) (dU : Int32) (fY : Int32) (gJ : Int32) (jG : Int32) (nU : Int32) (qY : Nat -> Int32) (qU : Nat -> Int32) (pR : Int32) (uM : Int32) (tD : Nat -> Int32) (qB : Int32) (jK : Nat -> Int32), (-1 <= Int32.toInt x1 /\ Int32.toInt x1 <= 30) -> (0 <= Int32.toInt x4 /\ Int32.toInt x4 <= 1) -> (0 <= Int32.toInt x5 /\ Int32.toInt x5 <= 30) -> (-1 <= Int32.toInt fY /\ Int32.toInt fY <= 7) -> (0 <= Int32.toInt jG /\ Int32.toInt jG <= 9) -> (0 <= Int32.toInt pR /\ Int32.toInt pR <= 12) -> (0 <= Int32.toInt uM /\ Int32.toInt uM <= 12) -> (∀ k : Nat, k % 8 = 4 -> -1 <= Int32.toInt (tD k) /\ Int32.toInt (tD k) <= 7) -> (∀ k : Nat, k % 8 = 6 -> 0 <= Int32.toInt (tD k) /\ Int32.toInt (tD k) <= 9) -> (0 <= Int32.toInt qB /\ Int32.toInt qB <= 16) -> (30 - Int32.toInt x5 < n21) -> K21 x1 x2 x3 x4 x5 jE eW eY dU fY gJ jG nU qY qU pR uM tD qB jK) (x1 x2 x4 x5 k0 jE eW eY dU fY gJ jG nU : Int32) (qY qU : Nat -> Int32) (pR uM : Int32) (tD : Nat -> Int32) (qB : Int32) (jK : Nat -> Int32) (aBK : 1 <= Int32.toInt x1 /\ Int32.toInt x1 <= 30) (aDO : 0 <= Int32.toInt x4 /\ Int32.toInt x4 <= 0) (aF7 : 0 <= Int32.toInt x5 /\ Int32.toInt x5 <= 29) (aAC : -1 <= Int32.toInt fY /\ Int32.toInt fY <= 7) (zK : 0 <= Int32.toInt jG /\ Int32.toInt jG <= 9) (aAr : 0 <= Int32.toInt pR /\ Int32.toInt pR <= 12) (aBy : 0 <= Int32.toInt uM /\ Int32.toInt uM <= 12) (aBF : ∀ k : Nat, k % 8 = 4 -> -1 <= Int32.toInt (tD k) /\ Int32.toInt (tD k) <= 7) (aBG : ∀ k : Nat, k % 8 = 6 -> 0 <= Int32.toInt (tD k) /\ Int32.toInt (tD k) <= 9) (aAK : 0 <= Int32.toInt qB /\ Int32.toInt qB <= 16) (hn21 : 30 - Int32.toInt x5 <= n21) : ws_X9_doActs_94 post K21 wE dN bD uU gF pL qF mX oE dY pQ pN x1 x2 x4 x5 k0 jE eW eY dU fY gJ jG nU qY qU pR uM tD qB jK := by
  have l0 := aEc
  have f50 := aAT x2
  have f51 := aAT k0
  have f52 := aAT jE
  have f53 := aAT eW
  have f54 := aAT eY
  have f55 := aAT dU
  have f56 := aAT gJ
  have f57 := aAT nU
  exact ts_X9_doActs_99 wE dN bD uU gF pL qF mX oE dY pQ pN xL wX zU hpost hK21 x1 x2 x4 x5 k0 1 jE eW eY dU fY gJ jG nU qY qU pR uM tD qB jK aBK aDO aF7 (by omega) aAC zK aAr aBy aBF aBG aAK hn21
set_option maxHeartbeats 8000000 in
set_option maxRecDepth 200000 in
theorem ts_X9_doActs_21 {post : Int32 -> Int32 -> Int32 -> Int32 -> Int32 -> Int32 -> Int32 -> Int32 -> Int32 -> (Nat -> Int32) -> (Nat -> Int32) -> Int32 -> Int32 -> (Nat -> Int32) -> Int32 -> (Nat -> Int32) -> Prop} {next : Int32 -> Int32 -> Int32 -> Int32 -> Int32 -> Int32 -> Int32 -> Int32 -> Int32 -> Int32 -> Int32 -> Int32 -> Int32 -> (Nat -> Int32) -> (Nat -> Int32) -> Int32 -> Int32 -> (Nat -> Int32) -> Int32 -> (Nat -> Int32) -> Prop} {n21 : Int} (wE : Nat -> Int32) (dN bD : Int32) (uU gF pL qF mX oE dY : Nat -> Int32) (pQ : Int32) (pN : Nat -> Int32) (xL : 0 <= Int32.toInt dN /\ Int32.toInt dN <= 16) (wX : 0 <= Int32.toInt bD /\ Int32.toInt bD <= 8) (zU : 0 <= Int32.toInt pQ /\ Int32.toInt pQ <= 40) (hpost : ∀ (r : Int32) (aHN : Int32) (aGq : Int32) (aGr : Int32) (aFB : Int32) (aCx : Int32) (aI5 : Int32) (aDz : Int32) (aFi : Int32) (aCG : Nat -> Int32) (aB4 : Nat -> Int32) (aBa : Int32) (aEN : Int32) (aCN : Nat -> Int32) (zV : Int32) (aAV : Nat -> Int32), (-1 <= Int32.toInt aCx /\ Int32.toInt aCx <= 7) -> (0 <= Int32.toInt aDz /\ Int32.toInt aDz <= 9) -> (0 <= Int32.toInt aBa /\ Int32.toInt aBa <= 12) -> (0 <= Int32.toInt aEN /\ Int32.toInt aEN <= 12) -> (∀ k : Nat, k % 8 = 4 -> -1 <= Int32.toInt (aCN k) /\ Int32.toInt (aCN k) <= 7) -> (∀ k : Nat, k % 8 = 6 -> 0 <= Int32.toInt (aCN k) /\ Int32.toInt (aCN k) <= 9) -> (2 <= Int32.toInt zV /\ Int32.toInt zV <= 2) -> post r aHN aGq aGr aFB aCx aI5 aDz aFi aCG aB4 aBa aEN aCN zV aAV) (hKn : ∀ (x1 : Int32) (x2 : Int32) (x3 : Int32) (x4 : Int32) (x5 : Int32) (jE : Int32) (eW : Int32) (eY : Int32) (dU : Int32) (fY : Int32) (gJ : Int32) (jG : Int32) (nU : Int32) (qY : Nat -> Int32) (qU : Nat -> Int32) (pR : Int32) (uM : Int32) (tD : Nat -> Int32) (qB : Int32) (jK : Nat -> Int32), (-1 <= Int32.toInt x1 /\ Int32.toInt x1 <= 30) -> (0 <= Int32.toInt x4 /\ Int32.toInt x4 <= 1) -> (0 <= Int32.toInt x5 /\ Int32.toInt x5 <= 30) -> (-1 <= Int32.toInt fY /\ Int32.toInt fY <= 7) -> (0 <= Int32.toInt jG /\ Int32.toInt jG <= 9) -> (0 <= Int32.toInt pR /\ Int32.toInt pR <= 12) -> (0 <= Int32.toInt uM /\ Int32.toInt uM <= 12) -> (∀ k : Nat, k % 8 = 4 -> -1 <= Int32.toInt (tD k) /\ Int32.toInt (tD k) <= 7) -> (∀ k : Nat, k % 8 = 6 -> 0 <= Int32.toInt (tD k) /\ Int32.toInt (tD k) <= 9) -> (0 <= Int32.toInt qB /\ Int32.toInt qB <= 16) -> (30 - Int32.toInt x5 < n21) -> next x1 x2 x3 x4 x5 jE eW eY dU fY gJ jG nU qY qU pR uM tD qB jK) (x1 x2 x3 x4 x5 jE eW eY dU fY gJ jG nU : Int32) (qY qU : Nat -> Int32) (pR uM : Int32) (tD : Nat -> Int32) (qB : Int32) (jK : Nat -> Int32) (aBK : -1 <= Int32.toInt x1 /\ Int32.toInt x1 <= 30) (aDO : 0 <= Int32.toInt x4 /\ Int32.toInt x4 <= 1) (aF7 : 0 <= Int32.toInt x5 /\ Int32.toInt x5 <= 30) (aAC : -1 <= Int32.toInt fY /\ Int32.toInt fY <= 7) (zK : 0 <= Int32.toInt jG /\ Int32.toInt jG <= 9) (aAr : 0 <= Int32.toInt pR /\ Int32.toInt pR <= 12) (aBy : 0 <= Int32.toInt uM /\ Int32.toInt uM <= 12) (aBF : ∀ k : Nat, k % 8 = 4 -> -1 <= Int32.toInt (tD k) /\ Int32.toInt (tD k) <= 7) (aBG : ∀ k : Nat, k % 8 = 6 -> 0 <= Int32.toInt (tD k) /\ Int32.toInt (tD k) <= 9) (aAK : 0 <= Int32.toInt qB /\ Int32.toInt qB <= 16) (hn21 : 30 - Int32.toInt x5 <= n21) : ws_X9_doActs_21 post next wE dN bD uU gF pL qF mX oE dY pQ pN x1 x2 x3 x4 x5 jE eW eY dU fY gJ jG nU qY qU pR uM tD qB jK := by
  have l0 := aE0
  have l1 := aEc
  have l2 := li_104
  have l3 := li_112
  have l4 := li_30
  refine And.intro (fun c58 => ?_) (fun c58 => ?_)
  · skip
    have c58 := (aAO _ _).mp c58
    have f59 := aAT x2
    have f60 := aAT x3
    have f61 := aAT jE
    have f62 := aAT eW
    have f63 := aAT eY
    have f64 := aAT dU
    have f65 := aAT gJ
    have f66 := aAT nU
    exact ts_X9_doActs_107 wE dN bD uU gF pL qF mX oE dY pQ pN xL wX zU hpost x2 x3 x4 jE eW eY dU fY gJ jG nU qY qU pR uM tD qB jK aDO aAC zK aAr aBy aBF aBG aAK
  · skip
    have c58 := mt (aAO _ _).mpr c58
    refine And.intro (fun c67 => ?_) (fun c67 => ?_)
    · skip
      have c67 := (aAO _ _).mp c67
      exfalso; omega
    · skip
      have c67 := mt (aAO _ _).mpr c67
      refine And.intro (fun c68 => ?_) (fun c68 => ?_)
      · skip
        have c68 := mt (zJ _ _).mpr c68
        have f69 := aAT x2
        have f70 := aAT x3
        have f71 := aAT jE
        have f72 := aAT eW
        have f73 := aAT eY
        have f74 := aAT dU
        have f75 := aAT gJ
        have f76 := aAT nU
        exact ts_X9_doActs_107 wE dN bD uU gF pL qF mX oE dY pQ pN xL wX zU hpost x2 x3 x4 jE eW eY dU fY gJ jG nU qY qU pR uM tD qB jK aDO aAC zK aAr aBy aBF aBG aAK
      · skip
        have c68 := (zJ _ _).mp c68
        refine And.intro (aBZ (by omega)) ?_
        intro v77 ev77
        have hv77 := congrArg Int32.toInt ev77
        intro v79 ev79
        refine And.intro (aBZ (by omega)) ?_
        intro v80 ev80
        have hv80 := congrArg Int32.toInt ev80
        intro v81 ev81
        refine t_X9_doAct xL wX aAC zK zU (fun r92 no_apron_82 no_basket_83 no_ground_84 no_bruised_85 no_ladder_86 no_helper_87 no_today_88 no_clock_89 ru_given_90 ru_stack_91 h_no_ladder_86 h_no_today_88 => ?_)
        have f94 := aAT r92
        refine And.intro (fun c93 => ?_) (fun c93 => ?_)
        · skip
          have c93 := (aAO _ _).mp c93
          intro v95 ev95
          have hv95 := congrArg Int32.toInt ev95
          have f98 := aAT v79
          refine And.intro (fun c97 => ?_) (fun c97 => ?_)
          · skip
            have c97 := (zJ _ _).mp c97
            have f99 := aAT v95
            have f100 := aAT x3
            have f101 := aAT no_apron_82
            have f102 := aAT no_basket_83
            have f103 := aAT no_ground_84
            have f104 := aAT no_bruised_85
            have f105 := aAT no_helper_87
            have f106 := aAT no_clock_89
            exact ts_X9_doActs_94 wE dN bD uU gF pL qF mX oE dY pQ pN xL wX zU hpost hKn x1 v95 x4 x5 x3 no_apron_82 no_basket_83 no_ground_84 no_bruised_85 no_ladder_86 no_helper_87 no_today_88 no_clock_89 ru_given_90 ru_stack_91 pR uM tD qB jK (by omega) (by omega) (by omega) h_no_ladder_86 h_no_today_88 aAr aBy aBF aBG aAK hn21
          · skip
            have c97 := mt (zJ _ _).mpr c97
            refine And.intro (fun c107 => ?_) (fun c107 => ?_)
            · skip
              have c107 := mt (zJ _ _).mpr c107
              have f108 := aAT v95
              have f109 := aAT x3
              have f110 := aAT no_apron_82
              have f111 := aAT no_basket_83
              have f112 := aAT no_ground_84
              have f113 := aAT no_bruised_85
              have f114 := aAT no_helper_87
              have f115 := aAT no_clock_89
              exact ts_X9_doActs_99 wE dN bD uU gF pL qF mX oE dY pQ pN xL wX zU hpost hKn x1 v95 x4 x5 x3 0 no_apron_82 no_basket_83 no_ground_84 no_bruised_85 no_ladder_86 no_helper_87 no_today_88 no_clock_89 ru_given_90 ru_stack_91 pR uM tD qB jK (by omega) (by omega) (by omega) (by omega) h_no_ladder_86 h_no_today_88 aAr aBy aBF aBG aAK hn21
            · skip
              have c107 := (zJ _ _).mp c107
              have f116 := aAT v95
              have f117 := aAT x3
              have f118 := aAT no_apron_82
              have f119 := aAT no_basket_83
              have f120 := aAT no_ground_84
              have f121 := aAT no_bruised_85
              have f122 := aAT no_helper_87
              have f123 := aAT no_clock_89
              exact ts_X9_doActs_94 wE dN bD uU gF pL qF mX oE dY pQ pN xL wX zU hpost hKn x1 v95 x4 x5 x3 no_apron_82 no_basket_83 no_ground_84 no_bruised_85 no_ladder_86 no_helper_87 no_today_88 no_clock_89 ru_given_90 ru_stack_91 pR uM tD qB jK (by omega) (by omega) (by omega) h_no_ladder_86 h_no_today_88 aAr aBy aBF aBG aAK hn21
        · skip
          have c93 := mt (aAO _ _).mpr c93
          have f124 := aAT x2
          have f125 := aAT x3
          have f126 := aAT no_apron_82
          have f127 := aAT no_basket_83
          have f128 := aAT no_ground_84
          have f129 := aAT no_bruised_85
          have f130 := aAT no_helper_87
          have f131 := aAT no_clock_89
          exact ts_X9_doActs_101 wE dN bD uU gF pL qF mX oE dY pQ pN xL wX zU hpost hKn x1 x2 x3 1 x5 no_apron_82 no_basket_83 no_ground_84 no_bruised_85 no_ladder_86 no_helper_87 no_today_88 no_clock_89 ru_given_90 ru_stack_91 pR uM tD qB jK (by omega) (by omega) (by omega) h_no_ladder_86 h_no_today_88 aAr aBy aBF aBG aAK hn21
set_option maxHeartbeats 8000000 in
set_option maxRecDepth 200000 in
theorem tb_X9_doActs_21 {post : Int32 -> Int32 -> Int32 -> Int32 -> Int32 -> Int32 -> Int32 -> Int32 -> Int32 -> (Nat -> Int32) -> (Nat -> Int32) -> Int32 -> Int32 -> (Nat -> Int32) -> Int32 -> (Nat -> Int32) -> Prop} (wE : Nat -> Int32) (dN bD : Int32) (uU gF pL qF mX oE dY : Nat -> Int32) (pQ : Int32) (pN : Nat -> Int32) (xL : 0 <= Int32.toInt dN /\ Int32.toInt dN <= 16) (wX : 0 <= Int32.toInt bD /\ Int32.toInt bD <= 8) (zU : 0 <= Int32.toInt pQ /\ Int32.toInt pQ <= 40) (hpost : ∀ (r : Int32) (aHN : Int32) (aGq : Int32) (aGr : Int32) (aFB : Int32) (aCx : Int32) (aI5 : Int32) (aDz : Int32) (aFi : Int32) (aCG : Nat -> Int32) (aB4 : Nat -> Int32) (aBa : Int32) (aEN : Int32) (aCN : Nat -> Int32) (zV : Int32) (aAV : Nat -> Int32), (-1 <= Int32.toInt aCx /\ Int32.toInt aCx <= 7) -> (0 <= Int32.toInt aDz /\ Int32.toInt aDz <= 9) -> (0 <= Int32.toInt aBa /\ Int32.toInt aBa <= 12) -> (0 <= Int32.toInt aEN /\ Int32.toInt aEN <= 12) -> (∀ k : Nat, k % 8 = 4 -> -1 <= Int32.toInt (aCN k) /\ Int32.toInt (aCN k) <= 7) -> (∀ k : Nat, k % 8 = 6 -> 0 <= Int32.toInt (aCN k) /\ Int32.toInt (aCN k) <= 9) -> (2 <= Int32.toInt zV /\ Int32.toInt zV <= 2) -> post r aHN aGq aGr aFB aCx aI5 aDz aFi aCG aB4 aBa aEN aCN zV aAV) : ∀ (n : Nat) (x1 x2 x3 x4 x5 jE eW eY dU fY gJ jG nU : Int32) (qY qU : Nat -> Int32) (pR uM : Int32) (tD : Nat -> Int32) (qB : Int32) (jK : Nat -> Int32), (-1 <= Int32.toInt x1 /\ Int32.toInt x1 <= 30) -> (0 <= Int32.toInt x4 /\ Int32.toInt x4 <= 1) -> (0 <= Int32.toInt x5 /\ Int32.toInt x5 <= 30) -> (-1 <= Int32.toInt fY /\ Int32.toInt fY <= 7) -> (0 <= Int32.toInt jG /\ Int32.toInt jG <= 9) -> (0 <= Int32.toInt pR /\ Int32.toInt pR <= 12) -> (0 <= Int32.toInt uM /\ Int32.toInt uM <= 12) -> (∀ k : Nat, k % 8 = 4 -> -1 <= Int32.toInt (tD k) /\ Int32.toInt (tD k) <= 7) -> (∀ k : Nat, k % 8 = 6 -> 0 <= Int32.toInt (tD k) /\ Int32.toInt (tD k) <= 9) -> (0 <= Int32.toInt qB /\ Int32.toInt qB <= 16) -> (30 - Int32.toInt x5 < (n : Int)) -> wb_X9_doActs_21 post wE dN bD uU gF pL qF mX oE dY pQ pN n x1 x2 x3 x4 x5 jE eW eY dU fY gJ jG nU qY qU pR uM tD qB jK := by
  intro n
  induction n with
  | zero =>
    intro x1 x2 x3 x4 x5 jE eW eY dU fY gJ jG nU qY qU pR uM tD qB jK aBK aDO aF7 aAC zK aAr aBy aBF aBG aAK hm
    exfalso; omega
  | succ n ih =>
    intro x1 x2 x3 x4 x5 jE eW eY dU fY gJ jG nU qY qU pR uM tD qB jK aBK aDO aF7 aAC zK aAr aBy aBF aBG aAK hm
    exact ts_X9_doActs_21 wE dN bD uU gF pL qF mX oE dY pQ pN xL wX zU hpost ih x1 x2 x3 x4 x5 jE eW eY dU fY gJ jG nU qY qU pR uM tD qB jK aBK aDO aF7 aAC zK aAr aBy aBF aBG aAK (by omega)
set_option maxHeartbeats 8000000 in
set_option maxRecDepth 200000 in
theorem t_X9_doActs {post : Int32 -> Int32 -> Int32 -> Int32 -> Int32 -> Int32 -> Int32 -> Int32 -> Int32 -> (Nat -> Int32) -> (Nat -> Int32) -> Int32 -> Int32 -> (Nat -> Int32) -> Int32 -> (Nat -> Int32) -> Prop} {p0 : Int32} {wE : Nat -> Int32} {dN bD : Int32} {uU gF pL qF mX oE dY : Nat -> Int32} {jE eW eY dU fY gJ jG nU pQ : Int32} {qY qU pN : Nat -> Int32} {pR uM : Int32} {tD : Nat -> Int32} {qB : Int32} {jK : Nat -> Int32} (h_p0 : -1 <= Int32.toInt p0 /\ Int32.toInt p0 <= 30) (xL : 0 <= Int32.toInt dN /\ Int32.toInt dN <= 16) (wX : 0 <= Int32.toInt bD /\ Int32.toInt bD <= 8) (aAC : -1 <= Int32.toInt fY /\ Int32.toInt fY <= 7) (zK : 0 <= Int32.toInt jG /\ Int32.toInt jG <= 9) (zU : 0 <= Int32.toInt pQ /\ Int32.toInt pQ <= 40) (aAr : 0 <= Int32.toInt pR /\ Int32.toInt pR <= 12) (aBy : 0 <= Int32.toInt uM /\ Int32.toInt uM <= 12) (aBF : ∀ k : Nat, k % 8 = 4 -> -1 <= Int32.toInt (tD k) /\ Int32.toInt (tD k) <= 7) (aBG : ∀ k : Nat, k % 8 = 6 -> 0 <= Int32.toInt (tD k) /\ Int32.toInt (tD k) <= 9) (aAK : 0 <= Int32.toInt qB /\ Int32.toInt qB <= 16) (hpost : ∀ (r : Int32) (aHN : Int32) (aGq : Int32) (aGr : Int32) (aFB : Int32) (aCx : Int32) (aI5 : Int32) (aDz : Int32) (aFi : Int32) (aCG : Nat -> Int32) (aB4 : Nat -> Int32) (aBa : Int32) (aEN : Int32) (aCN : Nat -> Int32) (zV : Int32) (aAV : Nat -> Int32), (-1 <= Int32.toInt aCx /\ Int32.toInt aCx <= 7) -> (0 <= Int32.toInt aDz /\ Int32.toInt aDz <= 9) -> (0 <= Int32.toInt aBa /\ Int32.toInt aBa <= 12) -> (0 <= Int32.toInt aEN /\ Int32.toInt aEN <= 12) -> (∀ k : Nat, k % 8 = 4 -> -1 <= Int32.toInt (aCN k) /\ Int32.toInt (aCN k) <= 7) -> (∀ k : Nat, k % 8 = 6 -> 0 <= Int32.toInt (aCN k) /\ Int32.toInt (aCN k) <= 9) -> (2 <= Int32.toInt zV /\ Int32.toInt zV <= 2) -> post r aHN aGq aGr aFB aCx aI5 aDz aFi aCG aB4 aBa aEN aCN zV aAV) : wp_X9_doActs post p0 wE dN bD uU gF pL qF mX oE dY jE eW eY dU fY gJ jG nU pQ qY qU pN pR uM tD qB jK := by
  have l0 := aE0
  have l1 := aEc
  have l2 := li_104
  have l3 := li_2
  have l4 := li_3
  have l5 := li_4
  have l6 := li_5
  have l7 := li_6
  have l8 := li_7
  have l9 := li_8
  intro v132 ev132
  have f133 : Int32.toInt (uM * 8) = Int32.toInt uM * 8 := ta_mulc _ _ (by decide) (by omega)
  rw [<- ev132] at f133
  refine And.intro (fun c134 => ?_) (fun c134 => ?_)
  · skip
    have c134 := (aAd _ _).mp c134
    exfalso; omega
  · skip
    have c134 := mt (aAd _ _).mpr c134
    have f136 : Int32.toInt (104 - 8) = Int32.toInt (104 : Int32) - Int32.toInt (8 : Int32) := aCA _ _ (by omega)
    refine And.intro (fun c135 => ?_) (fun c135 => ?_)
    · skip
      have c135 := (aAO _ _).mp c135
      refine And.intro (aBZ (by omega)) ?_
      have f138 := aAT jE
      have e137 : ∀ k : Nat, k % 8 = 4 -> -1 <= Int32.toInt ((upd tD v132.toNatClampNeg jE) k) /\ Int32.toInt ((upd tD v132.toNatClampNeg jE) k) <= 7 := aCJ (C := fun k => k % 8 = 4) aBF (fun hk => by have e9 : v132.toNatClampNeg = (Int32.toInt v132).toNat := rfl; have hk : v132.toNatClampNeg % 8 = 4 := hk; omega)
      have e139 : ∀ k : Nat, k % 8 = 6 -> 0 <= Int32.toInt ((upd tD v132.toNatClampNeg jE) k) /\ Int32.toInt ((upd tD v132.toNatClampNeg jE) k) <= 9 := aCJ (C := fun k => k % 8 = 6) aBG (fun hk => by have e9 : v132.toNatClampNeg = (Int32.toInt v132).toNat := rfl; have hk : v132.toNatClampNeg % 8 = 6 := hk; omega)
      intro v140 ev140
      have f141 : Int32.toInt (v132 + 1) = Int32.toInt v132 + Int32.toInt (1 : Int32) := aAD _ _ (by omega)
      rw [<- ev140] at f141
      refine And.intro (aBZ (by omega)) ?_
      have f143 := aAT eW
      have e142 : ∀ k : Nat, k % 8 = 4 -> -1 <= Int32.toInt ((upd (upd tD v132.toNatClampNeg jE) v140.toNatClampNeg eW) k) /\ Int32.toInt ((upd (upd tD v132.toNatClampNeg jE) v140.toNatClampNeg eW) k) <= 7 := aCJ (C := fun k => k % 8 = 4) e137 (fun hk => by have e9 : v140.toNatClampNeg = (Int32.toInt v140).toNat := rfl; have hk : v140.toNatClampNeg % 8 = 4 := hk; omega)
      have e144 : ∀ k : Nat, k % 8 = 6 -> 0 <= Int32.toInt ((upd (upd tD v132.toNatClampNeg jE) v140.toNatClampNeg eW) k) /\ Int32.toInt ((upd (upd tD v132.toNatClampNeg jE) v140.toNatClampNeg eW) k) <= 9 := aCJ (C := fun k => k % 8 = 6) e139 (fun hk => by have e9 : v140.toNatClampNeg = (Int32.toInt v140).toNat := rfl; have hk : v140.toNatClampNeg % 8 = 6 := hk; omega)
      intro v145 ev145
      have f146 : Int32.toInt (v132 + 2) = Int32.toInt v132 + Int32.toInt (2 : Int32) := aAD _ _ (by omega)
      rw [<- ev145] at f146
      refine And.intro (aBZ (by omega)) ?_
      have f148 := aAT eY
      have e147 : ∀ k : Nat, k % 8 = 4 -> -1 <= Int32.toInt ((upd (upd (upd tD v132.toNatClampNeg jE) v140.toNatClampNeg eW) v145.toNatClampNeg eY) k) /\ Int32.toInt ((upd (upd (upd tD v132.toNatClampNeg jE) v140.toNatClampNeg eW) v145.toNatClampNeg eY) k) <= 7 := aCJ (C := fun k => k % 8 = 4) e142 (fun hk => by have e9 : v145.toNatClampNeg = (Int32.toInt v145).toNat := rfl; have hk : v145.toNatClampNeg % 8 = 4 := hk; omega)
      have e149 : ∀ k : Nat, k % 8 = 6 -> 0 <= Int32.toInt ((upd (upd (upd tD v132.toNatClampNeg jE) v140.toNatClampNeg eW) v145.toNatClampNeg eY) k) /\ Int32.toInt ((upd (upd (upd tD v132.toNatClampNeg jE) v140.toNatClampNeg eW) v145.toNatClampNeg eY) k) <= 9 := aCJ (C := fun k => k % 8 = 6) e144 (fun hk => by have e9 : v145.toNatClampNeg = (Int32.toInt v145).toNat := rfl; have hk : v145.toNatClampNeg % 8 = 6 := hk; omega)
      intro v150 ev150
      have f151 : Int32.toInt (v132 + 3) = Int32.toInt v132 + Int32.toInt (3 : Int32) := aAD _ _ (by omega)
      rw [<- ev150] at f151
      refine And.intro (aBZ (by omega)) ?_
      have f153 := aAT dU
      have e152 : ∀ k : Nat, k % 8 = 4 -> -1 <= Int32.toInt ((upd (upd (upd (upd tD v132.toNatClampNeg jE) v140.toNatClampNeg eW) v145.toNatClampNeg eY) v150.toNatClampNeg dU) k) /\ Int32.toInt ((upd (upd (upd (upd tD v132.toNatClampNeg jE) v140.toNatClampNeg eW) v145.toNatClampNeg eY) v150.toNatClampNeg dU) k) <= 7 := aCJ (C := fun k => k % 8 = 4) e147 (fun hk => by have e9 : v150.toNatClampNeg = (Int32.toInt v150).toNat := rfl; have hk : v150.toNatClampNeg % 8 = 4 := hk; omega)
      have e154 : ∀ k : Nat, k % 8 = 6 -> 0 <= Int32.toInt ((upd (upd (upd (upd tD v132.toNatClampNeg jE) v140.toNatClampNeg eW) v145.toNatClampNeg eY) v150.toNatClampNeg dU) k) /\ Int32.toInt ((upd (upd (upd (upd tD v132.toNatClampNeg jE) v140.toNatClampNeg eW) v145.toNatClampNeg eY) v150.toNatClampNeg dU) k) <= 9 := aCJ (C := fun k => k % 8 = 6) e149 (fun hk => by have e9 : v150.toNatClampNeg = (Int32.toInt v150).toNat := rfl; have hk : v150.toNatClampNeg % 8 = 6 := hk; omega)
      intro v155 ev155
      have f156 : Int32.toInt (v132 + 4) = Int32.toInt v132 + Int32.toInt (4 : Int32) := aAD _ _ (by omega)
      rw [<- ev155] at f156
      refine And.intro (aBZ (by omega)) ?_
      have e157 : ∀ k : Nat, k % 8 = 4 -> -1 <= Int32.toInt ((upd (upd (upd (upd (upd tD v132.toNatClampNeg jE) v140.toNatClampNeg eW) v145.toNatClampNeg eY) v150.toNatClampNeg dU) v155.toNatClampNeg fY) k) /\ Int32.toInt ((upd (upd (upd (upd (upd tD v132.toNatClampNeg jE) v140.toNatClampNeg eW) v145.toNatClampNeg eY) v150.toNatClampNeg dU) v155.toNatClampNeg fY) k) <= 7 := aCJ (C := fun k => k % 8 = 4) e152 (fun hk => by have e9 : v155.toNatClampNeg = (Int32.toInt v155).toNat := rfl; have hk : v155.toNatClampNeg % 8 = 4 := hk; omega)
      have e158 : ∀ k : Nat, k % 8 = 6 -> 0 <= Int32.toInt ((upd (upd (upd (upd (upd tD v132.toNatClampNeg jE) v140.toNatClampNeg eW) v145.toNatClampNeg eY) v150.toNatClampNeg dU) v155.toNatClampNeg fY) k) /\ Int32.toInt ((upd (upd (upd (upd (upd tD v132.toNatClampNeg jE) v140.toNatClampNeg eW) v145.toNatClampNeg eY) v150.toNatClampNeg dU) v155.toNatClampNeg fY) k) <= 9 := aCJ (C := fun k => k % 8 = 6) e154 (fun hk => by have e9 : v155.toNatClampNeg = (Int32.toInt v155).toNat := rfl; have hk : v155.toNatClampNeg % 8 = 6 := hk; omega)
      intro v159 ev159
      have f160 : Int32.toInt (v132 + 5) = Int32.toInt v132 + Int32.toInt (5 : Int32) := aAD _ _ (by omega)
      rw [<- ev159] at f160
      refine And.intro (aBZ (by omega)) ?_
      have f162 := aAT gJ
      have e161 : ∀ k : Nat, k % 8 = 4 -> -1 <= Int32.toInt ((upd (upd (upd (upd (upd (upd tD v132.toNatClampNeg jE) v140.toNatClampNeg eW) v145.toNatClampNeg eY) v150.toNatClampNeg dU) v155.toNatClampNeg fY) v159.toNatClampNeg gJ) k) /\ Int32.toInt ((upd (upd (upd (upd (upd (upd tD v132.toNatClampNeg jE) v140.toNatClampNeg eW) v145.toNatClampNeg eY) v150.toNatClampNeg dU) v155.toNatClampNeg fY) v159.toNatClampNeg gJ) k) <= 7 := aCJ (C := fun k => k % 8 = 4) e157 (fun hk => by have e9 : v159.toNatClampNeg = (Int32.toInt v159).toNat := rfl; have hk : v159.toNatClampNeg % 8 = 4 := hk; omega)
      have e163 : ∀ k : Nat, k % 8 = 6 -> 0 <= Int32.toInt ((upd (upd (upd (upd (upd (upd tD v132.toNatClampNeg jE) v140.toNatClampNeg eW) v145.toNatClampNeg eY) v150.toNatClampNeg dU) v155.toNatClampNeg fY) v159.toNatClampNeg gJ) k) /\ Int32.toInt ((upd (upd (upd (upd (upd (upd tD v132.toNatClampNeg jE) v140.toNatClampNeg eW) v145.toNatClampNeg eY) v150.toNatClampNeg dU) v155.toNatClampNeg fY) v159.toNatClampNeg gJ) k) <= 9 := aCJ (C := fun k => k % 8 = 6) e158 (fun hk => by have e9 : v159.toNatClampNeg = (Int32.toInt v159).toNat := rfl; have hk : v159.toNatClampNeg % 8 = 6 := hk; omega)
      intro v164 ev164
      have f165 : Int32.toInt (v132 + 6) = Int32.toInt v132 + Int32.toInt (6 : Int32) := aAD _ _ (by omega)
      rw [<- ev164] at f165
      refine And.intro (aBZ (by omega)) ?_
      have e166 : ∀ k : Nat, k % 8 = 4 -> -1 <= Int32.toInt ((upd (upd (upd (upd (upd (upd (upd tD v132.toNatClampNeg jE) v140.toNatClampNeg eW) v145.toNatClampNeg eY) v150.toNatClampNeg dU) v155.toNatClampNeg fY) v159.toNatClampNeg gJ) v164.toNatClampNeg jG) k) /\ Int32.toInt ((upd (upd (upd (upd (upd (upd (upd tD v132.toNatClampNeg jE) v140.toNatClampNeg eW) v145.toNatClampNeg eY) v150.toNatClampNeg dU) v155.toNatClampNeg fY) v159.toNatClampNeg gJ) v164.toNatClampNeg jG) k) <= 7 := aCJ (C := fun k => k % 8 = 4) e161 (fun hk => by have e9 : v164.toNatClampNeg = (Int32.toInt v164).toNat := rfl; have hk : v164.toNatClampNeg % 8 = 4 := hk; omega)
      have e167 : ∀ k : Nat, k % 8 = 6 -> 0 <= Int32.toInt ((upd (upd (upd (upd (upd (upd (upd tD v132.toNatClampNeg jE) v140.toNatClampNeg eW) v145.toNatClampNeg eY) v150.toNatClampNeg dU) v155.toNatClampNeg fY) v159.toNatClampNeg gJ) v164.toNatClampNeg jG) k) /\ Int32.toInt ((upd (upd (upd (upd (upd (upd (upd tD v132.toNatClampNeg jE) v140.toNatClampNeg eW) v145.toNatClampNeg eY) v150.toNatClampNeg dU) v155.toNatClampNeg fY) v159.toNatClampNeg gJ) v164.toNatClampNeg jG) k) <= 9 := aCJ (C := fun k => k % 8 = 6) e163 (fun hk => by have e9 : v164.toNatClampNeg = (Int32.toInt v164).toNat := rfl; have hk : v164.toNatClampNeg % 8 = 6 := hk; omega)
      intro v168 ev168
      have f169 : Int32.toInt (v132 + 7) = Int32.toInt v132 + Int32.toInt (7 : Int32) := aAD _ _ (by omega)
      rw [<- ev168] at f169
      refine And.intro (aBZ (by omega)) ?_
      have f171 := aAT nU
      have e170 : ∀ k : Nat, k % 8 = 4 -> -1 <= Int32.toInt ((upd (upd (upd (upd (upd (upd (upd (upd tD v132.toNatClampNeg jE) v140.toNatClampNeg eW) v145.toNatClampNeg eY) v150.toNatClampNeg dU) v155.toNatClampNeg fY) v159.toNatClampNeg gJ) v164.toNatClampNeg jG) v168.toNatClampNeg nU) k) /\ Int32.toInt ((upd (upd (upd (upd (upd (upd (upd (upd tD v132.toNatClampNeg jE) v140.toNatClampNeg eW) v145.toNatClampNeg eY) v150.toNatClampNeg dU) v155.toNatClampNeg fY) v159.toNatClampNeg gJ) v164.toNatClampNeg jG) v168.toNatClampNeg nU) k) <= 7 := aCJ (C := fun k => k % 8 = 4) e166 (fun hk => by have e9 : v168.toNatClampNeg = (Int32.toInt v168).toNat := rfl; have hk : v168.toNatClampNeg % 8 = 4 := hk; omega)
      have e172 : ∀ k : Nat, k % 8 = 6 -> 0 <= Int32.toInt ((upd (upd (upd (upd (upd (upd (upd (upd tD v132.toNatClampNeg jE) v140.toNatClampNeg eW) v145.toNatClampNeg eY) v150.toNatClampNeg dU) v155.toNatClampNeg fY) v159.toNatClampNeg gJ) v164.toNatClampNeg jG) v168.toNatClampNeg nU) k) /\ Int32.toInt ((upd (upd (upd (upd (upd (upd (upd (upd tD v132.toNatClampNeg jE) v140.toNatClampNeg eW) v145.toNatClampNeg eY) v150.toNatClampNeg dU) v155.toNatClampNeg fY) v159.toNatClampNeg gJ) v164.toNatClampNeg jG) v168.toNatClampNeg nU) k) <= 9 := aCJ (C := fun k => k % 8 = 6) e167 (fun hk => by have e9 : v168.toNatClampNeg = (Int32.toInt v168).toNat := rfl; have hk : v168.toNatClampNeg % 8 = 6 := hk; omega)
      exact ⟨32, tb_X9_doActs_21 wE dN bD uU gF pL qF mX oE dY pQ pN xL wX zU hpost _ p0 0 0 0 0 jE eW eY dU fY gJ jG nU qY qU pR uM (upd (upd (upd (upd (upd (upd (upd (upd tD v132.toNatClampNeg jE) v140.toNatClampNeg eW) v145.toNatClampNeg eY) v150.toNatClampNeg dU) v155.toNatClampNeg fY) v159.toNatClampNeg gJ) v164.toNatClampNeg jG) v168.toNatClampNeg nU) qB jK h_p0 (by omega) (by omega) aAC zK aAr aBy e170 e172 aAK (by omega)⟩
    · skip
      have c135 := mt (aAO _ _).mpr c135
      exfalso; omega
set_option maxHeartbeats 8000000 in
set_option maxRecDepth 200000 in
theorem ts_X9_readAct_143 {post : Int32 -> Int32 -> Prop} (rX : Int32) (qM : Nat -> Int32) (aA2 : 0 <= Int32.toInt rX /\ Int32.toInt rX <= 60) (aAI : ∀ k : Nat, 0 <= Int32.toInt (qM k) /\ Int32.toInt (qM k) <= 65535) (hpost : ∀ (r : Int32) (aBS : Int32), (0 <= Int32.toInt aBS /\ Int32.toInt aBS <= 80) -> post r aBS) (x1 x2 qJ : Int32) (aBK : 97 <= Int32.toInt x1 /\ Int32.toInt x1 <= 125) (aBN : 0 <= Int32.toInt x2 /\ Int32.toInt x2 <= 2) (aA0 : 0 <= Int32.toInt qJ /\ Int32.toInt qJ <= 60) : aUJ post rX qM x1 x2 qJ := by
  have l0 := aI2
  have l1 := aE0
  have l2 := aEc
  have l3 := li_100
  refine And.intro (fun c1 => ?_) (fun c1 => ?_)
  · skip
    have c1 := (aAO _ _).mp c1
    refine And.intro (fun c2 => ?_) (fun c2 => ?_)
    · skip
      have c2 := mt (zJ _ _).mpr c2
      refine aXN (by omega) (by omega) (by omega) aAI (fun r4 tx_place_3 h_tx_place_3 => ?_)
      have f6 := aAT r4
      refine And.intro (fun c5 => ?_) (fun c5 => ?_)
      · skip
        have c5 := mt (zJ _ _).mpr c5
        intro v7 ev7
        have f8 : Int32.toInt (x1 * 100) = Int32.toInt x1 * 100 := ta_mulc _ _ (by decide) (by omega)
        rw [<- ev7] at f8
        exact hpost _ _ h_tx_place_3
      · skip
        have c5 := (zJ _ _).mp c5
        exact hpost _ _ h_tx_place_3
    · skip
      have c2 := (zJ _ _).mp c2
      exact hpost _ _ (by omega)
  · skip
    have c1 := mt (aAO _ _).mpr c1
    intro v9 ev9
    have f10 : Int32.toInt (qJ + 1) = Int32.toInt qJ + Int32.toInt (1 : Int32) := aAD _ _ (by omega)
    rw [<- ev9] at f10
    refine And.intro (fun c11 => ?_) (fun c11 => ?_)
    · skip
      have c11 := mt (zJ _ _).mpr c11
      refine aXN (by omega) (by omega) (by omega) aAI (fun r13 tx_place_12 h_tx_place_12 => ?_)
      have f15 := aAT r13
      refine And.intro (fun c14 => ?_) (fun c14 => ?_)
      · skip
        have c14 := mt (zJ _ _).mpr c14
        intro v16 ev16
        have f17 : Int32.toInt (x1 * 100) = Int32.toInt x1 * 100 := ta_mulc _ _ (by decide) (by omega)
        rw [<- ev16] at f17
        exact hpost _ _ h_tx_place_12
      · skip
        have c14 := (zJ _ _).mp c14
        exact hpost _ _ h_tx_place_12
    · skip
      have c11 := (zJ _ _).mp c11
      exact hpost _ _ (by omega)
set_option maxHeartbeats 8000000 in
set_option maxRecDepth 200000 in
theorem ts_X9_readAct_133 {post : Int32 -> Int32 -> Prop} (rX : Int32) (qM : Nat -> Int32) (aA2 : 0 <= Int32.toInt rX /\ Int32.toInt rX <= 60) (aAI : ∀ k : Nat, 0 <= Int32.toInt (qM k) /\ Int32.toInt (qM k) <= 65535) (hpost : ∀ (r : Int32) (aBS : Int32), (0 <= Int32.toInt aBS /\ Int32.toInt aBS <= 80) -> post r aBS) (x1 qJ : Int32) (aBK : 104 <= Int32.toInt x1 /\ Int32.toInt x1 <= 112) (aA0 : 0 <= Int32.toInt qJ /\ Int32.toInt qJ <= 60) : ws_X9_readAct_133 post rX qM x1 qJ := by
  have l0 := li_2
  exact ts_X9_readAct_143 rX qM aA2 aAI hpost x1 2 qJ (by omega) (by omega) aA0
set_option maxHeartbeats 8000000 in
set_option maxRecDepth 200000 in
theorem ts_X9_readAct_138 {post : Int32 -> Int32 -> Prop} (rX : Int32) (qM : Nat -> Int32) (aA2 : 0 <= Int32.toInt rX /\ Int32.toInt rX <= 60) (aAI : ∀ k : Nat, 0 <= Int32.toInt (qM k) /\ Int32.toInt (qM k) <= 65535) (hpost : ∀ (r : Int32) (aBS : Int32), (0 <= Int32.toInt aBS /\ Int32.toInt aBS <= 80) -> post r aBS) (x1 x2 qJ : Int32) (aBK : 97 <= Int32.toInt x1 /\ Int32.toInt x1 <= 125) (aBN : 0 <= Int32.toInt x2 /\ Int32.toInt x2 <= 0) (aA0 : 0 <= Int32.toInt qJ /\ Int32.toInt qJ <= 60) : aUI post rX qM x1 x2 qJ := by
  exact ts_X9_readAct_143 rX qM aA2 aAI hpost x1 x2 qJ aBK (by omega) aA0
set_option maxHeartbeats 8000000 in
set_option maxRecDepth 200000 in
theorem t_X9_readAct {post : Int32 -> Int32 -> Prop} {qJ rX : Int32} {qM : Nat -> Int32} (aA0 : 0 <= Int32.toInt qJ /\ Int32.toInt qJ <= 60) (aA2 : 0 <= Int32.toInt rX /\ Int32.toInt rX <= 60) (aAI : ∀ k : Nat, 0 <= Int32.toInt (qM k) /\ Int32.toInt (qM k) <= 65535) (hpost : ∀ (r : Int32) (aBS : Int32), (0 <= Int32.toInt aBS /\ Int32.toInt aBS <= 80) -> post r aBS) : wp_X9_readAct post qJ rX qM := by
  have l0 := aI2
  have l1 := aE0
  have l2 := aEc
  have l3 := li_100
  have l4 := li_104
  have l5 := li_107
  have l6 := li_109
  have l7 := li_111
  have l8 := li_112
  have l9 := li_122
  have l10 := li_97
  refine And.intro (fun c18 => ?_) (fun c18 => ?_)
  · skip
    have c18 := (aAO _ _).mp c18
    refine And.intro (fun c19 => ?_) ?_
    · skip
      have c19 := (zJ _ _).mp c19
      exfalso; omega
    refine And.intro (fun c20 => ?_) ?_
    · skip
      have c20 := (zJ _ _).mp c20
      exfalso; omega
    refine And.intro (fun c21 => ?_) ?_
    · skip
      have c21 := (zJ _ _).mp c21
      exfalso; omega
    refine And.intro (fun c22 => ?_) ?_
    · skip
      have c22 := (zJ _ _).mp c22
      exfalso; omega
    refine And.intro (fun c23 => ?_) ?_
    · skip
      have c23 := (zJ _ _).mp c23
      exfalso; omega
    refine And.intro (fun c24 => ?_) ?_
    · skip
      have c24 := (zJ _ _).mp c24
      exfalso; omega
    refine And.intro (fun c25 => ?_) ?_
    · skip
      have c25 := (zJ _ _).mp c25
      exfalso; omega
    refine And.intro (fun c26 => ?_) ?_
    · skip
      have c26 := (zJ _ _).mp c26
      exfalso; omega
    intro c27 c28 c29 c30 c31 c32 c33 c34
    have c27 := mt (zJ _ _).mpr c27
    have c28 := mt (zJ _ _).mpr c28
    have c29 := mt (zJ _ _).mpr c29
    have c30 := mt (zJ _ _).mpr c30
    have c31 := mt (zJ _ _).mpr c31
    have c32 := mt (zJ _ _).mpr c32
    have c33 := mt (zJ _ _).mpr c33
    have c34 := mt (zJ _ _).mpr c34
    exact hpost _ _ (by omega)
  · skip
    have c18 := mt (aAO _ _).mpr c18
    refine And.intro (aBZ (by omega)) ?_
    intro v35 ev35
    have f36 := aAI qJ.toNatClampNeg
    have hv35 := congrArg Int32.toInt ev35
    refine And.intro (fun c37 => ?_) ?_
    · skip
      have c37 := (zJ _ _).mp c37
      exact ts_X9_readAct_138 rX qM aA2 aAI hpost v35 0 qJ (by omega) (by omega) aA0
    refine And.intro (fun c38 => ?_) ?_
    · skip
      have c38 := (zJ _ _).mp c38
      exact ts_X9_readAct_138 rX qM aA2 aAI hpost v35 0 qJ (by omega) (by omega) aA0
    refine And.intro (fun c39 => ?_) ?_
    · skip
      have c39 := (zJ _ _).mp c39
      exact ts_X9_readAct_133 rX qM aA2 aAI hpost v35 qJ (by omega) aA0
    refine And.intro (fun c40 => ?_) ?_
    · skip
      have c40 := (zJ _ _).mp c40
      exact ts_X9_readAct_138 rX qM aA2 aAI hpost v35 0 qJ (by omega) (by omega) aA0
    refine And.intro (fun c41 => ?_) ?_
    · skip
      have c41 := (zJ _ _).mp c41
      exact ts_X9_readAct_143 rX qM aA2 aAI hpost v35 1 qJ (by omega) (by omega) aA0
    refine And.intro (fun c42 => ?_) ?_
    · skip
      have c42 := (zJ _ _).mp c42
      exact ts_X9_readAct_138 rX qM aA2 aAI hpost v35 0 qJ (by omega) (by omega) aA0
    refine And.intro (fun c43 => ?_) ?_
    · skip
      have c43 := (zJ _ _).mp c43
      exact ts_X9_readAct_133 rX qM aA2 aAI hpost v35 qJ (by omega) aA0
    refine And.intro (fun c44 => ?_) ?_
    · skip
      have c44 := (zJ _ _).mp c44
      exact ts_X9_readAct_138 rX qM aA2 aAI hpost v35 0 qJ (by omega) (by omega) aA0
    intro c45 c46 c47 c48 c49 c50 c51 c52
    have c45 := mt (zJ _ _).mpr c45
    have c46 := mt (zJ _ _).mpr c46
    have c47 := mt (zJ _ _).mpr c47
    have c48 := mt (zJ _ _).mpr c48
    have c49 := mt (zJ _ _).mpr c49
    have c50 := mt (zJ _ _).mpr c50
    have c51 := mt (zJ _ _).mpr c51
    have c52 := mt (zJ _ _).mpr c52
    exact hpost _ _ (by omega)
set_option maxHeartbeats 8000000 in
set_option maxRecDepth 200000 in
theorem ts_X9_readActs_2 {post next : Int32 -> (Nat -> Int32) -> Int32 -> Prop} {n2 : Int} (rX : Int32) (qM : Nat -> Int32) (aA2 : 0 <= Int32.toInt rX /\ Int32.toInt rX <= 60) (aAI : ∀ k : Nat, 0 <= Int32.toInt (qM k) /\ Int32.toInt (qM k) <= 65535) (hpost : ∀ (r : Int32) (x_acts' : Nat -> Int32) (aBS : Int32), (-1 <= Int32.toInt r /\ Int32.toInt r <= 30) -> (0 <= Int32.toInt aBS /\ Int32.toInt aBS <= 80) -> post r x_acts' aBS) (hKn : ∀ (x1 : Int32) (wE : Nat -> Int32) (qJ : Int32), (0 <= Int32.toInt x1 /\ Int32.toInt x1 <= 30) -> (0 <= Int32.toInt qJ /\ Int32.toInt qJ <= 60) -> (30 - Int32.toInt x1 < n2) -> next x1 wE qJ) (x1 : Int32) (wE : Nat -> Int32) (qJ : Int32) (aBK : 0 <= Int32.toInt x1 /\ Int32.toInt x1 <= 30) (aA0 : 0 <= Int32.toInt qJ /\ Int32.toInt qJ <= 60) (hn2 : 30 - Int32.toInt x1 <= n2) : ws_X9_readActs_2 post next rX qM x1 wE qJ := by
  have l0 := aI2
  have l1 := aEc
  have l2 := li_30
  have l3 := li_59
  refine And.intro (fun c1 => ?_) (fun c1 => ?_)
  · skip
    have c1 := (aAO _ _).mp c1
    exact hpost _ _ _ (by omega) (by omega)
  · skip
    have c1 := mt (aAO _ _).mpr c1
    refine t_X9_readAct aA0 aA2 aAI (fun r3 aCK h_tx_place_2 => ?_)
    have f5 := aAT r3
    refine And.intro (fun c4 => ?_) (fun c4 => ?_)
    · skip
      have c4 := mt (zJ _ _).mpr c4
      refine And.intro (aBZ (by omega)) ?_
      refine And.intro (fun c6 => ?_) (fun c6 => ?_)
      · skip
        have c6 := (aAO _ _).mp c6
        refine And.intro (fun h9 => absurd h9 (by decide)) (fun _ => ?_)
        refine And.intro (fun h9 => absurd h9 (by decide)) (fun _ => ?_)
        have f7 : Int32.toInt (x1 + 1) = Int32.toInt x1 + Int32.toInt (1 : Int32) := aAD _ _ (by omega)
        exact hpost _ _ _ (by omega) h_tx_place_2
      · skip
        have c6 := mt (aAO _ _).mpr c6
        refine And.intro (aBZ (by omega)) ?_
        intro v8 ev8
        have f9 := aAI aCK.toNatClampNeg
        have hv8 := congrArg Int32.toInt ev8
        refine And.intro (fun c10 => ?_) (fun c10 => ?_)
        · skip
          have c10 := (zJ _ _).mp c10
          intro v11 ev11
          have f12 : Int32.toInt (aCK + 1) = Int32.toInt aCK + Int32.toInt (1 : Int32) := aAD _ _ (by omega)
          rw [<- ev11] at f12
          refine And.intro (fun _ => ?_) (fun h9 => absurd h9 (by decide))
          intro v13 ev13
          have f14 : Int32.toInt (x1 + 1) = Int32.toInt x1 + Int32.toInt (1 : Int32) := aAD _ _ (by omega)
          rw [<- ev13] at f14
          exact hKn v13 (upd wE x1.toNatClampNeg r3) v11 (by omega) (by omega) (by omega)
        · skip
          have c10 := mt (zJ _ _).mpr c10
          refine And.intro (fun h9 => absurd h9 (by decide)) (fun _ => ?_)
          have f15 : Int32.toInt (x1 + 1) = Int32.toInt x1 + Int32.toInt (1 : Int32) := aAD _ _ (by omega)
          exact hpost _ _ _ (by omega) h_tx_place_2
    · skip
      have c4 := (zJ _ _).mp c4
      exact hpost _ _ _ (by omega) h_tx_place_2
set_option maxHeartbeats 8000000 in
set_option maxRecDepth 200000 in
theorem tb_X9_readActs_2 {post : Int32 -> (Nat -> Int32) -> Int32 -> Prop} (rX : Int32) (qM : Nat -> Int32) (aA2 : 0 <= Int32.toInt rX /\ Int32.toInt rX <= 60) (aAI : ∀ k : Nat, 0 <= Int32.toInt (qM k) /\ Int32.toInt (qM k) <= 65535) (hpost : ∀ (r : Int32) (x_acts' : Nat -> Int32) (aBS : Int32), (-1 <= Int32.toInt r /\ Int32.toInt r <= 30) -> (0 <= Int32.toInt aBS /\ Int32.toInt aBS <= 80) -> post r x_acts' aBS) : ∀ (n : Nat) (x1 : Int32) (wE : Nat -> Int32) (qJ : Int32), (0 <= Int32.toInt x1 /\ Int32.toInt x1 <= 30) -> (0 <= Int32.toInt qJ /\ Int32.toInt qJ <= 60) -> (30 - Int32.toInt x1 < (n : Int)) -> wb_X9_readActs_2 post rX qM n x1 wE qJ := by
  intro n
  induction n with
  | zero =>
    intro x1 wE qJ aBK aA0 hm
    exfalso; omega
  | succ n ih =>
    intro x1 wE qJ aBK aA0 hm
    exact ts_X9_readActs_2 rX qM aA2 aAI hpost ih x1 wE qJ aBK aA0 (by omega)
set_option maxHeartbeats 8000000 in
set_option maxRecDepth 200000 in
theorem t_X9_readActs {post : Int32 -> (Nat -> Int32) -> Int32 -> Prop} {wE : Nat -> Int32} {qJ rX : Int32} {qM : Nat -> Int32} (aA0 : 0 <= Int32.toInt qJ /\ Int32.toInt qJ <= 0) (aA2 : 0 <= Int32.toInt rX /\ Int32.toInt rX <= 60) (aAI : ∀ k : Nat, 0 <= Int32.toInt (qM k) /\ Int32.toInt (qM k) <= 65535) (hpost : ∀ (r : Int32) (x_acts' : Nat -> Int32) (aBS : Int32), (-1 <= Int32.toInt r /\ Int32.toInt r <= 30) -> (0 <= Int32.toInt aBS /\ Int32.toInt aBS <= 80) -> post r x_acts' aBS) : wp_X9_readActs post wE qJ rX qM := by
  have l0 := aE0
  exact ⟨32, tb_X9_readActs_2 rX qM aA2 aAI hpost _ 0 wE qJ (by omega) (by omega) (by omega)⟩
set_option maxHeartbeats 8000000 in
set_option maxRecDepth 200000 in
theorem ts_X9_day_68 {post : Int32 -> (Nat -> Int32) -> Int32 -> Int32 -> Int32 -> Int32 -> Int32 -> Int32 -> Int32 -> Int32 -> Int32 -> Int32 -> Int32 -> (Nat -> Int32) -> (Nat -> Int32) -> Int32 -> Int32 -> (Nat -> Int32) -> Int32 -> (Nat -> Int32) -> Prop} (qM : Nat -> Int32) (dN bD : Int32) (uU gF pL qF mX oE dY : Nat -> Int32) (pQ : Int32) (pN : Nat -> Int32) (aAI : ∀ k : Nat, 0 <= Int32.toInt (qM k) /\ Int32.toInt (qM k) <= 65535) (xL : 0 <= Int32.toInt dN /\ Int32.toInt dN <= 16) (wX : 0 <= Int32.toInt bD /\ Int32.toInt bD <= 8) (zU : 0 <= Int32.toInt pQ /\ Int32.toInt pQ <= 40) (hpost : ∀ (r : Int32) (x_acts' : Nat -> Int32) (aCZ : Int32) (aBS : Int32) (aGd : Int32) (aHN : Int32) (aGq : Int32) (aGr : Int32) (aFB : Int32) (aCx : Int32) (aI5 : Int32) (aDz : Int32) (aFi : Int32) (aCG : Nat -> Int32) (aB4 : Nat -> Int32) (aBa : Int32) (aEN : Int32) (aCN : Nat -> Int32) (zV : Int32) (aAV : Nat -> Int32), (0 <= Int32.toInt aCZ /\ Int32.toInt aCZ <= 0) -> (0 <= Int32.toInt aBS /\ Int32.toInt aBS <= 80) -> (0 <= Int32.toInt aGd /\ Int32.toInt aGd <= 60) -> (-1 <= Int32.toInt aCx /\ Int32.toInt aCx <= 7) -> (0 <= Int32.toInt aDz /\ Int32.toInt aDz <= 9) -> (0 <= Int32.toInt aBa /\ Int32.toInt aBa <= 12) -> (0 <= Int32.toInt aEN /\ Int32.toInt aEN <= 12) -> (∀ k : Nat, k % 8 = 4 -> -1 <= Int32.toInt (aCN k) /\ Int32.toInt (aCN k) <= 7) -> (∀ k : Nat, k % 8 = 6 -> 0 <= Int32.toInt (aCN k) /\ Int32.toInt (aCN k) <= 9) -> (0 <= Int32.toInt zV /\ Int32.toInt zV <= 16) -> post r x_acts' aCZ aBS aGd aHN aGq aGr aFB aCx aI5 aDz aFi aCG aB4 aBa aEN aCN zV aAV) (k0 : Int32) (wE : Nat -> Int32) (qL qJ rX jE eW eY dU fY gJ jG nU : Int32) (qY qU : Nat -> Int32) (pR uM : Int32) (tD : Nat -> Int32) (qB : Int32) (jK : Nat -> Int32) (aBH : 0 <= Int32.toInt qL /\ Int32.toInt qL <= 80) (aA0 : 0 <= Int32.toInt qJ /\ Int32.toInt qJ <= 80) (aA2 : 0 <= Int32.toInt rX /\ Int32.toInt rX <= 60) (aAC : -1 <= Int32.toInt fY /\ Int32.toInt fY <= 7) (zK : 0 <= Int32.toInt jG /\ Int32.toInt jG <= 9) (aAr : 0 <= Int32.toInt pR /\ Int32.toInt pR <= 12) (aBy : 0 <= Int32.toInt uM /\ Int32.toInt uM <= 12) (aBF : ∀ k : Nat, k % 8 = 4 -> -1 <= Int32.toInt (tD k) /\ Int32.toInt (tD k) <= 7) (aBG : ∀ k : Nat, k % 8 = 6 -> 0 <= Int32.toInt (tD k) /\ Int32.toInt (tD k) <= 9) (aAK : 0 <= Int32.toInt qB /\ Int32.toInt qB <= 16) : ws_X9_day_68 post qM dN bD uU gF pL qF mX oE dY pQ pN k0 wE qL qJ rX jE eW eY dU fY gJ jG nU qY qU pR uM tD qB jK := by
  have l0 := aE0
  exact hpost _ _ _ _ _ _ _ _ _ _ _ _ _ _ _ _ _ _ _ _ (by omega) aA0 aA2 aAC zK aAr aBy aBF aBG aAK
set_option maxHeartbeats 8000000 in
set_option maxRecDepth 200000 in
theorem ts_X9_day_48 {post : Int32 -> (Nat -> Int32) -> Int32 -> Int32 -> Int32 -> Int32 -> Int32 -> Int32 -> Int32 -> Int32 -> Int32 -> Int32 -> Int32 -> (Nat -> Int32) -> (Nat -> Int32) -> Int32 -> Int32 -> (Nat -> Int32) -> Int32 -> (Nat -> Int32) -> Prop} (qM : Nat -> Int32) (dN bD : Int32) (uU gF pL qF mX oE dY : Nat -> Int32) (pQ : Int32) (pN : Nat -> Int32) (aAI : ∀ k : Nat, 0 <= Int32.toInt (qM k) /\ Int32.toInt (qM k) <= 65535) (xL : 0 <= Int32.toInt dN /\ Int32.toInt dN <= 16) (wX : 0 <= Int32.toInt bD /\ Int32.toInt bD <= 8) (zU : 0 <= Int32.toInt pQ /\ Int32.toInt pQ <= 40) (hpost : ∀ (r : Int32) (x_acts' : Nat -> Int32) (aCZ : Int32) (aBS : Int32) (aGd : Int32) (aHN : Int32) (aGq : Int32) (aGr : Int32) (aFB : Int32) (aCx : Int32) (aI5 : Int32) (aDz : Int32) (aFi : Int32) (aCG : Nat -> Int32) (aB4 : Nat -> Int32) (aBa : Int32) (aEN : Int32) (aCN : Nat -> Int32) (zV : Int32) (aAV : Nat -> Int32), (0 <= Int32.toInt aCZ /\ Int32.toInt aCZ <= 0) -> (0 <= Int32.toInt aBS /\ Int32.toInt aBS <= 80) -> (0 <= Int32.toInt aGd /\ Int32.toInt aGd <= 60) -> (-1 <= Int32.toInt aCx /\ Int32.toInt aCx <= 7) -> (0 <= Int32.toInt aDz /\ Int32.toInt aDz <= 9) -> (0 <= Int32.toInt aBa /\ Int32.toInt aBa <= 12) -> (0 <= Int32.toInt aEN /\ Int32.toInt aEN <= 12) -> (∀ k : Nat, k % 8 = 4 -> -1 <= Int32.toInt (aCN k) /\ Int32.toInt (aCN k) <= 7) -> (∀ k : Nat, k % 8 = 6 -> 0 <= Int32.toInt (aCN k) /\ Int32.toInt (aCN k) <= 9) -> (0 <= Int32.toInt zV /\ Int32.toInt zV <= 16) -> post r x_acts' aCZ aBS aGd aHN aGq aGr aFB aCx aI5 aDz aFi aCG aB4 aBa aEN aCN zV aAV) (x1 k0 : Int32) (wE : Nat -> Int32) (qL qJ rX jE eW eY dU fY gJ jG nU : Int32) (qY qU : Nat -> Int32) (pR uM : Int32) (tD : Nat -> Int32) (qB : Int32) (jK : Nat -> Int32) (aBK : -1 <= Int32.toInt x1 /\ Int32.toInt x1 <= 30) (h_k0 : 0 <= Int32.toInt k0 /\ Int32.toInt k0 <= 1) (aBH : 0 <= Int32.toInt qL /\ Int32.toInt qL <= 80) (aA0 : 0 <= Int32.toInt qJ /\ Int32.toInt qJ <= 80) (aA2 : 0 <= Int32.toInt rX /\ Int32.toInt rX <= 60) (aAC : -1 <= Int32.toInt fY /\ Int32.toInt fY <= 7) (zK : 0 <= Int32.toInt jG /\ Int32.toInt jG <= 9) (aAr : 0 <= Int32.toInt pR /\ Int32.toInt pR <= 12) (aBy : 0 <= Int32.toInt uM /\ Int32.toInt uM <= 12) (aBF : ∀ k : Nat, k % 8 = 4 -> -1 <= Int32.toInt (tD k) /\ Int32.toInt (tD k) <= 7) (aBG : ∀ k : Nat, k % 8 = 6 -> 0 <= Int32.toInt (tD k) /\ Int32.toInt (tD k) <= 9) (aAK : 0 <= Int32.toInt qB /\ Int32.toInt qB <= 16) : ws_X9_day_48 post qM dN bD uU gF pL qF mX oE dY pQ pN x1 k0 wE qL qJ rX jE eW eY dU fY gJ jG nU qY qU pR uM tD qB jK := by
  have l0 := aI2
  have l1 := aE0
  refine And.intro (fun c1 => ?_) (fun c1 => ?_)
  · skip
    have c1 := (zJ _ _).mp c1
    have f2 : Int32.toInt ((-1) - qJ) = Int32.toInt ((-1) : Int32) - Int32.toInt qJ := aCA _ _ (by omega)
    obtain ⟨w3, ew3⟩ : ∃ w9 : Int32, w9 = (-1) - qJ := ⟨_, rfl⟩
    rw [<- ew3] at f2
    have f4 := aAT jE
    have f5 := aAT eW
    have f6 := aAT eY
    have f7 := aAT dU
    have f8 := aAT gJ
    have f9 := aAT nU
    have key9 := ts_X9_day_68 qM dN bD uU gF pL qF mX oE dY pQ pN aAI xL wX zU hpost w3 wE qL qJ rX jE eW eY dU fY gJ jG nU qY qU pR uM tD qB jK aBH aA0 aA2 aAC zK aAr aBy aBF aBG aAK
    subst ew3
    exact key9
  · skip
    have c1 := mt (zJ _ _).mpr c1
    refine t_X9_doActs aBK xL wX aAC zK zU aAr aBy aBF aBG aAK (fun r25 no_apron_10 no_basket_11 no_ground_12 no_bruised_13 no_ladder_14 no_helper_15 no_today_16 no_clock_17 ru_given_18 ru_stack_19 pa_undoable_20 pa_free_21 pa_cells_22 ro_size_23 ro_numbers_24 h_no_ladder_14 h_no_today_16 h_pa_undoable_20 h_pa_free_21 e0_pa_cells_22 e1_pa_cells_22 h_ro_size_23 => ?_)
    have f26 := aAT r25
    have f27 := aAT no_apron_10
    have f28 := aAT no_basket_11
    have f29 := aAT no_ground_12
    have f30 := aAT no_bruised_13
    have f31 := aAT no_helper_15
    have f32 := aAT no_clock_17
    exact ts_X9_day_68 qM dN bD uU gF pL qF mX oE dY pQ pN aAI xL wX zU hpost r25 wE qL qJ rX no_apron_10 no_basket_11 no_ground_12 no_bruised_13 no_ladder_14 no_helper_15 no_today_16 no_clock_17 ru_given_18 ru_stack_19 pa_undoable_20 pa_free_21 pa_cells_22 ro_size_23 ro_numbers_24 aBH aA0 aA2 h_no_ladder_14 h_no_today_16 h_pa_undoable_20 h_pa_free_21 e0_pa_cells_22 e1_pa_cells_22 (by omega)
set_option maxHeartbeats 8000000 in
set_option maxRecDepth 200000 in
theorem ts_X9_day_47 {post : Int32 -> (Nat -> Int32) -> Int32 -> Int32 -> Int32 -> Int32 -> Int32 -> Int32 -> Int32 -> Int32 -> Int32 -> Int32 -> Int32 -> (Nat -> Int32) -> (Nat -> Int32) -> Int32 -> Int32 -> (Nat -> Int32) -> Int32 -> (Nat -> Int32) -> Prop} (qM : Nat -> Int32) (dN bD : Int32) (uU gF pL qF mX oE dY : Nat -> Int32) (pQ : Int32) (pN : Nat -> Int32) (aAI : ∀ k : Nat, 0 <= Int32.toInt (qM k) /\ Int32.toInt (qM k) <= 65535) (xL : 0 <= Int32.toInt dN /\ Int32.toInt dN <= 16) (wX : 0 <= Int32.toInt bD /\ Int32.toInt bD <= 8) (zU : 0 <= Int32.toInt pQ /\ Int32.toInt pQ <= 40) (hpost : ∀ (r : Int32) (x_acts' : Nat -> Int32) (aCZ : Int32) (aBS : Int32) (aGd : Int32) (aHN : Int32) (aGq : Int32) (aGr : Int32) (aFB : Int32) (aCx : Int32) (aI5 : Int32) (aDz : Int32) (aFi : Int32) (aCG : Nat -> Int32) (aB4 : Nat -> Int32) (aBa : Int32) (aEN : Int32) (aCN : Nat -> Int32) (zV : Int32) (aAV : Nat -> Int32), (0 <= Int32.toInt aCZ /\ Int32.toInt aCZ <= 0) -> (0 <= Int32.toInt aBS /\ Int32.toInt aBS <= 80) -> (0 <= Int32.toInt aGd /\ Int32.toInt aGd <= 60) -> (-1 <= Int32.toInt aCx /\ Int32.toInt aCx <= 7) -> (0 <= Int32.toInt aDz /\ Int32.toInt aDz <= 9) -> (0 <= Int32.toInt aBa /\ Int32.toInt aBa <= 12) -> (0 <= Int32.toInt aEN /\ Int32.toInt aEN <= 12) -> (∀ k : Nat, k % 8 = 4 -> -1 <= Int32.toInt (aCN k) /\ Int32.toInt (aCN k) <= 7) -> (∀ k : Nat, k % 8 = 6 -> 0 <= Int32.toInt (aCN k) /\ Int32.toInt (aCN k) <= 9) -> (0 <= Int32.toInt zV /\ Int32.toInt zV <= 16) -> post r x_acts' aCZ aBS aGd aHN aGq aGr aFB aCx aI5 aDz aFi aCG aB4 aBa aEN aCN zV aAV) (x1 : Int32) (wE : Nat -> Int32) (qL qJ rX jE eW eY dU fY gJ jG nU : Int32) (qY qU : Nat -> Int32) (pR uM : Int32) (tD : Nat -> Int32) (qB : Int32) (jK : Nat -> Int32) (aBK : -1 <= Int32.toInt x1 /\ Int32.toInt x1 <= 30) (aBH : 0 <= Int32.toInt qL /\ Int32.toInt qL <= 80) (aA0 : 0 <= Int32.toInt qJ /\ Int32.toInt qJ <= 80) (aA2 : 0 <= Int32.toInt rX /\ Int32.toInt rX <= 60) (aAC : -1 <= Int32.toInt fY /\ Int32.toInt fY <= 7) (zK : 0 <= Int32.toInt jG /\ Int32.toInt jG <= 9) (aAr : 0 <= Int32.toInt pR /\ Int32.toInt pR <= 12) (aBy : 0 <= Int32.toInt uM /\ Int32.toInt uM <= 12) (aBF : ∀ k : Nat, k % 8 = 4 -> -1 <= Int32.toInt (tD k) /\ Int32.toInt (tD k) <= 7) (aBG : ∀ k : Nat, k % 8 = 6 -> 0 <= Int32.toInt (tD k) /\ Int32.toInt (tD k) <= 9) (aAK : 0 <= Int32.toInt qB /\ Int32.toInt qB <= 16) : ws_X9_day_47 post qM dN bD uU gF pL qF mX oE dY pQ pN x1 wE qL qJ rX jE eW eY dU fY gJ jG nU qY qU pR uM tD qB jK := by
  have l0 := aE0
  have f33 := aAT jE
  have f34 := aAT eW
  have f35 := aAT eY
  have f36 := aAT dU
  have f37 := aAT gJ
  have f38 := aAT nU
  exact ts_X9_day_48 qM dN bD uU gF pL qF mX oE dY pQ pN aAI xL wX zU hpost x1 0 wE qL qJ rX jE eW eY dU fY gJ jG nU qY qU pR uM tD qB jK aBK (by omega) aBH aA0 aA2 aAC zK aAr aBy aBF aBG aAK
set_option maxHeartbeats 8000000 in
set_option maxRecDepth 200000 in
theorem ts_X9_day_27 {post : Int32 -> (Nat -> Int32) -> Int32 -> Int32 -> Int32 -> Int32 -> Int32 -> Int32 -> Int32 -> Int32 -> Int32 -> Int32 -> Int32 -> (Nat -> Int32) -> (Nat -> Int32) -> Int32 -> Int32 -> (Nat -> Int32) -> Int32 -> (Nat -> Int32) -> Prop} (qM : Nat -> Int32) (dN bD : Int32) (uU gF pL qF mX oE dY : Nat -> Int32) (pQ : Int32) (pN : Nat -> Int32) (aAI : ∀ k : Nat, 0 <= Int32.toInt (qM k) /\ Int32.toInt (qM k) <= 65535) (xL : 0 <= Int32.toInt dN /\ Int32.toInt dN <= 16) (wX : 0 <= Int32.toInt bD /\ Int32.toInt bD <= 8) (zU : 0 <= Int32.toInt pQ /\ Int32.toInt pQ <= 40) (hpost : ∀ (r : Int32) (x_acts' : Nat -> Int32) (aCZ : Int32) (aBS : Int32) (aGd : Int32) (aHN : Int32) (aGq : Int32) (aGr : Int32) (aFB : Int32) (aCx : Int32) (aI5 : Int32) (aDz : Int32) (aFi : Int32) (aCG : Nat -> Int32) (aB4 : Nat -> Int32) (aBa : Int32) (aEN : Int32) (aCN : Nat -> Int32) (zV : Int32) (aAV : Nat -> Int32), (0 <= Int32.toInt aCZ /\ Int32.toInt aCZ <= 0) -> (0 <= Int32.toInt aBS /\ Int32.toInt aBS <= 80) -> (0 <= Int32.toInt aGd /\ Int32.toInt aGd <= 60) -> (-1 <= Int32.toInt aCx /\ Int32.toInt aCx <= 7) -> (0 <= Int32.toInt aDz /\ Int32.toInt aDz <= 9) -> (0 <= Int32.toInt aBa /\ Int32.toInt aBa <= 12) -> (0 <= Int32.toInt aEN /\ Int32.toInt aEN <= 12) -> (∀ k : Nat, k % 8 = 4 -> -1 <= Int32.toInt (aCN k) /\ Int32.toInt (aCN k) <= 7) -> (∀ k : Nat, k % 8 = 6 -> 0 <= Int32.toInt (aCN k) /\ Int32.toInt (aCN k) <= 9) -> (0 <= Int32.toInt zV /\ Int32.toInt zV <= 16) -> post r x_acts' aCZ aBS aGd aHN aGq aGr aFB aCx aI5 aDz aFi aCG aB4 aBa aEN aCN zV aAV) (k0 : Int32) (wE : Nat -> Int32) (qL qJ rX jE eW eY dU fY gJ jG nU : Int32) (qY qU : Nat -> Int32) (pR uM : Int32) (tD : Nat -> Int32) (qB : Int32) (jK : Nat -> Int32) (h_k0 : -1 <= Int32.toInt k0 /\ Int32.toInt k0 <= 30) (aBH : 0 <= Int32.toInt qL /\ Int32.toInt qL <= 80) (aA0 : 0 <= Int32.toInt qJ /\ Int32.toInt qJ <= 80) (aA2 : 0 <= Int32.toInt rX /\ Int32.toInt rX <= 60) (aAC : -1 <= Int32.toInt fY /\ Int32.toInt fY <= 7) (zK : 0 <= Int32.toInt jG /\ Int32.toInt jG <= 9) (aAr : 0 <= Int32.toInt pR /\ Int32.toInt pR <= 12) (aBy : 0 <= Int32.toInt uM /\ Int32.toInt uM <= 12) (aBF : ∀ k : Nat, k % 8 = 4 -> -1 <= Int32.toInt (tD k) /\ Int32.toInt (tD k) <= 7) (aBG : ∀ k : Nat, k % 8 = 6 -> 0 <= Int32.toInt (tD k) /\ Int32.toInt (tD k) <= 9) (aAK : 0 <= Int32.toInt qB /\ Int32.toInt qB <= 16) : ws_X9_day_27 post qM dN bD uU gF pL qF mX oE dY pQ pN k0 wE qL qJ rX jE eW eY dU fY gJ jG nU qY qU pR uM tD qB jK := by
  have l0 := aI2
  have l1 := aEc
  refine And.intro (fun c39 => ?_) (fun c39 => ?_)
  · skip
    have c39 := (zJ _ _).mp c39
    have f40 := aAT jE
    have f41 := aAT eW
    have f42 := aAT eY
    have f43 := aAT dU
    have f44 := aAT gJ
    have f45 := aAT nU
    exact ts_X9_day_47 qM dN bD uU gF pL qF mX oE dY pQ pN aAI xL wX zU hpost k0 wE qL qJ rX jE eW eY dU fY gJ jG nU qY qU pR uM tD qB jK h_k0 aBH aA0 aA2 aAC zK aAr aBy aBF aBG aAK
  · skip
    have c39 := mt (zJ _ _).mpr c39
    refine And.intro (fun c46 => ?_) (fun c46 => ?_)
    · skip
      have c46 := mt (zJ _ _).mpr c46
      refine And.intro (fun _ => ?_) (fun h9 => absurd h9 (by decide))
      have f47 := aAT jE
      have f48 := aAT eW
      have f49 := aAT eY
      have f50 := aAT dU
      have f51 := aAT gJ
      have f52 := aAT nU
      exact ts_X9_day_47 qM dN bD uU gF pL qF mX oE dY pQ pN aAI xL wX zU hpost k0 wE qL qJ rX jE eW eY dU fY gJ jG nU qY qU pR uM tD qB jK h_k0 aBH aA0 aA2 aAC zK aAr aBy aBF aBG aAK
    · skip
      have c46 := (zJ _ _).mp c46
      refine And.intro (fun h9 => absurd h9 (by decide)) (fun _ => ?_)
      have f53 := aAT jE
      have f54 := aAT eW
      have f55 := aAT eY
      have f56 := aAT dU
      have f57 := aAT gJ
      have f58 := aAT nU
      exact ts_X9_day_48 qM dN bD uU gF pL qF mX oE dY pQ pN aAI xL wX zU hpost k0 1 wE qL qJ rX jE eW eY dU fY gJ jG nU qY qU pR uM tD qB jK h_k0 (by omega) aBH aA0 aA2 aAC zK aAr aBy aBF aBG aAK
set_option maxHeartbeats 8000000 in
set_option maxRecDepth 200000 in
theorem t_X9_day {post : Int32 -> (Nat -> Int32) -> Int32 -> Int32 -> Int32 -> Int32 -> Int32 -> Int32 -> Int32 -> Int32 -> Int32 -> Int32 -> Int32 -> (Nat -> Int32) -> (Nat -> Int32) -> Int32 -> Int32 -> (Nat -> Int32) -> Int32 -> (Nat -> Int32) -> Prop} {wE : Nat -> Int32} {qL qJ rX : Int32} {qM : Nat -> Int32} {dN bD : Int32} {uU gF pL qF mX oE dY : Nat -> Int32} {jE eW eY dU fY gJ jG nU pQ : Int32} {qY qU pN : Nat -> Int32} {pR uM : Int32} {tD : Nat -> Int32} {qB : Int32} {jK : Nat -> Int32} (aBH : 0 <= Int32.toInt qL /\ Int32.toInt qL <= 80) (aA0 : 0 <= Int32.toInt qJ /\ Int32.toInt qJ <= 80) (aA2 : 0 <= Int32.toInt rX /\ Int32.toInt rX <= 80) (aAI : ∀ k : Nat, 0 <= Int32.toInt (qM k) /\ Int32.toInt (qM k) <= 65535) (xL : 0 <= Int32.toInt dN /\ Int32.toInt dN <= 16) (wX : 0 <= Int32.toInt bD /\ Int32.toInt bD <= 8) (aAC : -1 <= Int32.toInt fY /\ Int32.toInt fY <= 7) (zK : 0 <= Int32.toInt jG /\ Int32.toInt jG <= 9) (zU : 0 <= Int32.toInt pQ /\ Int32.toInt pQ <= 40) (aAr : 0 <= Int32.toInt pR /\ Int32.toInt pR <= 12) (aBy : 0 <= Int32.toInt uM /\ Int32.toInt uM <= 12) (aBF : ∀ k : Nat, k % 8 = 4 -> -1 <= Int32.toInt (tD k) /\ Int32.toInt (tD k) <= 7) (aBG : ∀ k : Nat, k % 8 = 6 -> 0 <= Int32.toInt (tD k) /\ Int32.toInt (tD k) <= 9) (aAK : 0 <= Int32.toInt qB /\ Int32.toInt qB <= 16) (hpost : ∀ (r : Int32) (x_acts' : Nat -> Int32) (aCZ : Int32) (aBS : Int32) (aGd : Int32) (aHN : Int32) (aGq : Int32) (aGr : Int32) (aFB : Int32) (aCx : Int32) (aI5 : Int32) (aDz : Int32) (aFi : Int32) (aCG : Nat -> Int32) (aB4 : Nat -> Int32) (aBa : Int32) (aEN : Int32) (aCN : Nat -> Int32) (zV : Int32) (aAV : Nat -> Int32), (0 <= Int32.toInt aCZ /\ Int32.toInt aCZ <= 0) -> (0 <= Int32.toInt aBS /\ Int32.toInt aBS <= 80) -> (0 <= Int32.toInt aGd /\ Int32.toInt aGd <= 60) -> (-1 <= Int32.toInt aCx /\ Int32.toInt aCx <= 7) -> (0 <= Int32.toInt aDz /\ Int32.toInt aDz <= 9) -> (0 <= Int32.toInt aBa /\ Int32.toInt aBa <= 12) -> (0 <= Int32.toInt aEN /\ Int32.toInt aEN <= 12) -> (∀ k : Nat, k % 8 = 4 -> -1 <= Int32.toInt (aCN k) /\ Int32.toInt (aCN k) <= 7) -> (∀ k : Nat, k % 8 = 6 -> 0 <= Int32.toInt (aCN k) /\ Int32.toInt (aCN k) <= 9) -> (0 <= Int32.toInt zV /\ Int32.toInt zV <= 16) -> post r x_acts' aCZ aBS aGd aHN aGq aGr aFB aCx aI5 aDz aFi aCG aB4 aBa aEN aCN zV aAV) : wp_X9_day post wE qL qJ rX qM dN bD uU gF pL qF mX oE dY jE eW eY dU fY gJ jG nU pQ qY qU pN pR uM tD qB jK := by
  have l0 := aE0
  have l1 := li_60
  intro v59 ev59
  have f60 := ti_min qL (60 : Int32)
  have hv59 := congrArg Int32.toInt ev59
  refine And.intro (fun c61 => ?_) (fun c61 => ?_)
  · skip
    have c61 := mt (zJ _ _).mpr c61
    refine t_X9_readActs (by omega) (by omega) aAI (fun r64 x_acts_62 tx_place_63 h_r64 h_tx_place_63 => ?_)
    have f65 := aAT jE
    have f66 := aAT eW
    have f67 := aAT eY
    have f68 := aAT dU
    have f69 := aAT gJ
    have f70 := aAT nU
    exact ts_X9_day_27 qM dN bD uU gF pL qF mX oE dY pQ pN aAI xL wX zU hpost r64 x_acts_62 qL tx_place_63 v59 jE eW eY dU fY gJ jG nU qY qU pR uM tD qB jK h_r64 aBH h_tx_place_63 (by omega) aAC zK aAr aBy aBF aBG aAK
  · skip
    have c61 := (zJ _ _).mp c61
    have f71 := aAT jE
    have f72 := aAT eW
    have f73 := aAT eY
    have f74 := aAT dU
    have f75 := aAT gJ
    have f76 := aAT nU
    exact ts_X9_day_27 qM dN bD uU gF pL qF mX oE dY pQ pN aAI xL wX zU hpost 0 wE qL 0 v59 jE eW eY dU fY gJ jG nU qY qU pR uM tD qB jK (by omega) aBH (by omega) (by omega) aAC zK aAr aBy aBF aBG aAK
