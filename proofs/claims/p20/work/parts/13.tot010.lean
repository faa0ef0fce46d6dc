set_option maxHeartbeats 8000000 in
set_option maxRecDepth 200000 in
theorem ts_X9_readAct_143 {post : Int32 → Int32 → Prop} (rX : Int32) (qM : Nat → Int32) (aA2 : 0 ≤ Int32.toInt rX ∧ Int32.toInt rX ≤ 60) (aAI : ∀ k : Nat, 0 ≤ Int32.toInt (qM k) ∧ Int32.toInt (qM k) ≤ 65535) (hpost : ∀ (r : Int32) (aBS : Int32), (0 ≤ Int32.toInt aBS ∧ Int32.toInt aBS ≤ 80) → post r aBS) (x1 x2 qJ : Int32) (aBK : 97 ≤ Int32.toInt x1 ∧ Int32.toInt x1 ≤ 125) (aBN : 0 ≤ Int32.toInt x2 ∧ Int32.toInt x2 ≤ 2) (aA0 : 0 ≤ Int32.toInt qJ ∧ Int32.toInt qJ ≤ 60) : aUJ post rX qM x1 x2 qJ := by
  have l0 := aI2
  have l1 := aE0
  have l2 := aEc
  have l3 := li_100
  refine And.intro (fun c1 => ?_) (fun c1 => ?_)
  · skip
    have c1 := (aAO _ _).mp c1
    refine And.intro (fun c2 => ?_) (fun c2 => ?_)
    · skip
      have c2 := mt (zJ _ _).mpr c2
      refine aXN (by omega) (by omega) (by omega) aAI (fun r4 tx_place_3 h_tx_place_3 => ?_)
      have f6 := aAT r4
      refine And.intro (fun c5 => ?_) (fun c5 => ?_)
      · skip
        have c5 := mt (zJ _ _).mpr c5
        intro v7 ev7
        have f8 : Int32.toInt (x1 * 100) = Int32.toInt x1 * 100 := ta_mulc _ _ (by decide) (by omega)
        rw [← ev7] at f8
        exact hpost _ _ h_tx_place_3
      · skip
        have c5 := (zJ _ _).mp c5
        exact hpost _ _ h_tx_place_3
    · skip
      have c2 := (zJ _ _).mp c2
      exact hpost _ _ (by omega)
  · skip
    have c1 := mt (aAO _ _).mpr c1
    intro v9 ev9
    have f10 : Int32.toInt (qJ + 1) = Int32.toInt qJ + Int32.toInt (1 : Int32) := aAD _ _ (by omega)
    rw [← ev9] at f10
    refine And.intro (fun c11 => ?_) (fun c11 => ?_)
    · skip
      have c11 := mt (zJ _ _).mpr c11
      refine aXN (by omega) (by omega) (by omega) aAI (fun r13 tx_place_12 h_tx_place_12 => ?_)
      have f15 := aAT r13
      refine And.intro (fun c14 => ?_) (fun c14 => ?_)
      · skip
        have c14 := mt (zJ _ _).mpr c14
        intro v16 ev16
        have f17 : Int32.toInt (x1 * 100) = Int32.toInt x1 * 100 := ta_mulc _ _ (by decide) (by omega)
        rw [← ev16] at f17
        exact hpost _ _ h_tx_place_12
      · skip
        have c14 := (zJ _ _).mp c14
        exact hpost _ _ h_tx_place_12
    · skip
      have c11 := (zJ _ _).mp c11
      exact hpost _ _ (by omega)
set_option maxHeartbeats 8000000 in
set_option maxRecDepth 200000 in
theorem ts_X9_readAct_133 {post : Int32 → Int32 → Prop} (rX : Int32) (qM : Nat → Int32) (aA2 : 0 ≤ Int32.toInt rX ∧ Int32.toInt rX ≤ 60) (aAI : ∀ k : Nat, 0 ≤ Int32.toInt (qM k) ∧ Int32.toInt (qM k) ≤ 65535) (hpost : ∀ (r : Int32) (aBS : Int32), (0 ≤ Int32.toInt aBS ∧ Int32.toInt aBS ≤ 80) → post r aBS) (x1 qJ : Int32) (aBK : 104 ≤ Int32.toInt x1 ∧ Int32.toInt x1 ≤ 112) (aA0 : 0 ≤ Int32.toInt qJ ∧ Int32.toInt qJ ≤ 60) : ws_X9_readAct_133 post rX qM x1 qJ := by
  have l0 := li_2
  exact ts_X9_readAct_143 rX qM aA2 aAI hpost x1 2 qJ (by omega) (by omega) aA0
set_option maxHeartbeats 8000000 in
set_option maxRecDepth 200000 in
theorem ts_X9_readAct_138 {post : Int32 → Int32 → Prop} (rX : Int32) (qM : Nat → Int32) (aA2 : 0 ≤ Int32.toInt rX ∧ Int32.toInt rX ≤ 60) (aAI : ∀ k : Nat, 0 ≤ Int32.toInt (qM k) ∧ Int32.toInt (qM k) ≤ 65535) (hpost : ∀ (r : Int32) (aBS : Int32), (0 ≤ Int32.toInt aBS ∧ Int32.toInt aBS ≤ 80) → post r aBS) (x1 x2 qJ : Int32) (aBK : 97 ≤ Int32.toInt x1 ∧ Int32.toInt x1 ≤ 125) (aBN : 0 ≤ Int32.toInt x2 ∧ Int32.toInt x2 ≤ 0) (aA0 : 0 ≤ Int32.toInt qJ ∧ Int32.toInt qJ ≤ 60) : aUI post rX qM x1 x2 qJ := by
  exact ts_X9_readAct_143 rX qM aA2 aAI hpost x1 x2 qJ aBK (by omega) aA0
set_option maxHeartbeats 8000000 in
set_option maxRecDepth 200000 in
theorem t_X9_readAct {post : Int32 → Int32 → Prop} {qJ rX : Int32} {qM : Nat → Int32} (aA0 : 0 ≤ Int32.toInt qJ ∧ Int32.toInt qJ ≤ 60) (aA2 : 0 ≤ Int32.toInt rX ∧ Int32.toInt rX ≤ 60) (aAI : ∀ k : Nat, 0 ≤ Int32.toInt (qM k) ∧ Int32.toInt (qM k) ≤ 65535) (hpost : ∀ (r : Int32) (aBS : Int32), (0 ≤ Int32.toInt aBS ∧ Int32.toInt aBS ≤ 80) → post r aBS) : wp_X9_readAct post qJ rX qM := by
  have l0 := aI2
  have l1 := aE0
  have l2 := aEc
  have l3 := li_100
  have l4 := li_104
  have l5 := li_107
  have l6 := li_109
  have l7 := li_111
  have l8 := li_112
  have l9 := li_122
  have l10 := li_97
  refine And.intro (fun c18 => ?_) (fun c18 => ?_)
  · skip
    have c18 := (aAO _ _).mp c18
    refine And.intro (fun c19 => ?_) ?_
    · skip
      have c19 := (zJ _ _).mp c19
      exfalso; omega
    refine And.intro (fun c20 => ?_) ?_
    · skip
      have c20 := (zJ _ _).mp c20
      exfalso; omega
    refine And.intro (fun c21 => ?_) ?_
    · skip
      have c21 := (zJ _ _).mp c21
      exfalso; omega
    refine And.intro (fun c22 => ?_) ?_
    · skip
      have c22 := (zJ _ _).mp c22
      exfalso; omega
    refine And.intro (fun c23 => ?_) ?_
    · skip
      have c23 := (zJ _ _).mp c23
      exfalso; omega
    refine And.intro (fun c24 => ?_) ?_
    · skip
      have c24 := (zJ _ _).mp c24
      exfalso; omega
    refine And.intro (fun c25 => ?_) ?_
    · skip
      have c25 := (zJ _ _).mp c25
      exfalso; omega
    refine And.intro (fun c26 => ?_) ?_
    · skip
      have c26 := (zJ _ _).mp c26
      exfalso; omega
    intro c27 c28 c29 c30 c31 c32 c33 c34
    have c27 := mt (zJ _ _).mpr c27
    have c28 := mt (zJ _ _).mpr c28
    have c29 := mt (zJ _ _).mpr c29
    have c30 := mt (zJ _ _).mpr c30
    have c31 := mt (zJ _ _).mpr c31
    have c32 := mt (zJ _ _).mpr c32
    have c33 := mt (zJ _ _).mpr c33
    have c34 := mt (zJ _ _).mpr c34
    exact hpost _ _ (by omega)
  · skip
    have c18 := mt (aAO _ _).mpr c18
    refine And.intro (aBZ (by omega)) ?_
    intro v35 ev35
    have f36 := aAI qJ.toNatClampNeg
    have hv35 := congrArg Int32.toInt ev35
    refine And.intro (fun c37 => ?_) ?_
    · skip
      have c37 := (zJ _ _).mp c37
      exact ts_X9_readAct_138 rX qM aA2 aAI hpost v35 0 qJ (by omega) (by omega) aA0
    refine And.intro (fun c38 => ?_) ?_
    · skip
      have c38 := (zJ _ _).mp c38
      exact ts_X9_readAct_138 rX qM aA2 aAI hpost v35 0 qJ (by omega) (by omega) aA0
    refine And.intro (fun c39 => ?_) ?_
    · skip
      have c39 := (zJ _ _).mp c39
      exact ts_X9_readAct_133 rX qM aA2 aAI hpost v35 qJ (by omega) aA0
    refine And.intro (fun c40 => ?_) ?_
    · skip
      have c40 := (zJ _ _).mp c40
      exact ts_X9_readAct_138 rX qM aA2 aAI hpost v35 0 qJ (by omega) (by omega) aA0
    refine And.intro (fun c41 => ?_) ?_
    · skip
      have c41 := (zJ _ _).mp c41
      exact ts_X9_readAct_143 rX qM aA2 aAI hpost v35 1 qJ (by omega) (by omega) aA0
    refine And.intro (fun c42 => ?_) ?_
    · skip
      have c42 := (zJ _ _).mp c42
      exact ts_X9_readAct_138 rX qM aA2 aAI hpost v35 0 qJ (by omega) (by omega) aA0
    refine And.intro (fun c43 => ?_) ?_
    · skip
      have c43 := (zJ _ _).mp c43
      exact ts_X9_readAct_133 rX qM aA2 aAI hpost v35 qJ (by omega) aA0
    refine And.intro (fun c44 => ?_) ?_
    · skip
      have c44 := (zJ _ _).mp c44
      exact ts_X9_readAct_138 rX qM aA2 aAI hpost v35 0 qJ (by omega) (by omega) aA0
    intro c45 c46 c47 c48 c49 c50 c51 c52
    have c45 := mt (zJ _ _).mpr c45
    have c46 := mt (zJ _ _).mpr c46
    have c47 := mt (zJ _ _).mpr c47
    have c48 := mt (zJ _ _).mpr c48
    have c49 := mt (zJ _ _).mpr c49
    have c50 := mt (zJ _ _).mpr c50
    have c51 := mt (zJ _ _).mpr c51
    have c52 := mt (zJ _ _).mpr c52
    exact hpost _ _ (by omega)
set_option maxHeartbeats 8000000 in
set_option maxRecDepth 200000 in
theorem ts_X9_readActs_2 {post next : Int32 → (Nat → Int32) → Int32 → Prop} {n2 : Int} (rX : Int32) (qM : Nat → Int32) (aA2 : 0 ≤ Int32.toInt rX ∧ Int32.toInt rX ≤ 60) (aAI : ∀ k : Nat, 0 ≤ Int32.toInt (qM k) ∧ Int32.toInt (qM k) ≤ 65535) (hpost : ∀ (r : Int32) (x_acts' : Nat → Int32) (aBS : Int32), (-1 ≤ Int32.toInt r ∧ Int32.toInt r ≤ 30) → (0 ≤ Int32.toInt aBS ∧ Int32.toInt aBS ≤ 80) → post r x_acts' aBS) (hKn : ∀ (x1 : Int32) (wE : Nat → Int32) (qJ : Int32), (0 ≤ Int32.toInt x1 ∧ Int32.toInt x1 ≤ 30) → (0 ≤ Int32.toInt qJ ∧ Int32.toInt qJ ≤ 60) → (30 - Int32.toInt x1 < n2) → next x1 wE qJ) (x1 : Int32) (wE : Nat → Int32) (qJ : Int32) (aBK : 0 ≤ Int32.toInt x1 ∧ Int32.toInt x1 ≤ 30) (aA0 : 0 ≤ Int32.toInt qJ ∧ Int32.toInt qJ ≤ 60) (hn2 : 30 - Int32.toInt x1 ≤ n2) : ws_X9_readActs_2 post next rX qM x1 wE qJ := by
  have l0 := aI2
  have l1 := aEc
  have l2 := li_30
  have l3 := li_59
  refine And.intro (fun c1 => ?_) (fun c1 => ?_)
  · skip
    have c1 := (aAO _ _).mp c1
    exact hpost _ _ _ (by omega) (by omega)
  · skip
    have c1 := mt (aAO _ _).mpr c1
    refine t_X9_readAct aA0 aA2 aAI (fun r3 aCK h_tx_place_2 => ?_)
    have f5 := aAT r3
    refine And.intro (fun c4 => ?_) (fun c4 => ?_)
    · skip
      have c4 := mt (zJ _ _).mpr c4
      refine And.intro (aBZ (by omega)) ?_
      refine And.intro (fun c6 => ?_) (fun c6 => ?_)
      · skip
        have c6 := (aAO _ _).mp c6
        refine And.intro (fun h9 => absurd h9 (by decide)) (fun _ => ?_)
        refine And.intro (fun h9 => absurd h9 (by decide)) (fun _ => ?_)
        have f7 : Int32.toInt (x1 + 1) = Int32.toInt x1 + Int32.toInt (1 : Int32) := aAD _ _ (by omega)
        exact hpost _ _ _ (by omega) h_tx_place_2
      · skip
        have c6 := mt (aAO _ _).mpr c6
        refine And.intro (aBZ (by omega)) ?_
        intro v8 ev8
        have f9 := aAI aCK.toNatClampNeg
        have hv8 := congrArg Int32.toInt ev8
        refine And.intro (fun c10 => ?_) (fun c10 => ?_)
        · skip
          have c10 := (zJ _ _).mp c10
          intro v11 ev11
          have f12 : Int32.toInt (aCK + 1) = Int32.toInt aCK + Int32.toInt (1 : Int32) := aAD _ _ (by omega)
          rw [← ev11] at f12
          refine And.intro (fun _ => ?_) (fun h9 => absurd h9 (by decide))
          intro v13 ev13
          have f14 : Int32.toInt (x1 + 1) = Int32.toInt x1 + Int32.toInt (1 : Int32) := aAD _ _ (by omega)
          rw [← ev13] at f14
          exact hKn v13 (upd wE x1.toNatClampNeg r3) v11 (by omega) (by omega) (by omega)
        · skip
          have c10 := mt (zJ _ _).mpr c10
          refine And.intro (fun h9 => absurd h9 (by decide)) (fun _ => ?_)
          have f15 : Int32.toInt (x1 + 1) = Int32.toInt x1 + Int32.toInt (1 : Int32) := aAD _ _ (by omega)
          exact hpost _ _ _ (by omega) h_tx_place_2
    · skip
      have c4 := (zJ _ _).mp c4
      exact hpost _ _ _ (by omega) h_tx_place_2
set_option maxHeartbeats 8000000 in
set_option maxRecDepth 200000 in
theorem tb_X9_readActs_2 {post : Int32 → (Nat → Int32) → Int32 → Prop} (rX : Int32) (qM : Nat → Int32) (aA2 : 0 ≤ Int32.toInt rX ∧ Int32.toInt rX ≤ 60) (aAI : ∀ k : Nat, 0 ≤ Int32.toInt (qM k) ∧ Int32.toInt (qM k) ≤ 65535) (hpost : ∀ (r : Int32) (x_acts' : Nat → Int32) (aBS : Int32), (-1 ≤ Int32.toInt r ∧ Int32.toInt r ≤ 30) → (0 ≤ Int32.toInt aBS ∧ Int32.toInt aBS ≤ 80) → post r x_acts' aBS) : ∀ (n : Nat) (x1 : Int32) (wE : Nat → Int32) (qJ : Int32), (0 ≤ Int32.toInt x1 ∧ Int32.toInt x1 ≤ 30) → (0 ≤ Int32.toInt qJ ∧ Int32.toInt qJ ≤ 60) → (30 - Int32.toInt x1 < (n : Int)) → wb_X9_readActs_2 post rX qM n x1 wE qJ := by
  intro n
  induction n with
  | zero =>
    intro x1 wE qJ aBK aA0 hm
    exfalso; omega
  | succ n ih =>
    intro x1 wE qJ aBK aA0 hm
    exact ts_X9_readActs_2 rX qM aA2 aAI hpost ih x1 wE qJ aBK aA0 (by omega)
set_option maxHeartbeats 8000000 in
set_option maxRecDepth 200000 in
theorem t_X9_readActs {post : Int32 → (Nat → Int32) → Int32 → Prop} {wE : Nat → Int32} {qJ rX : Int32} {qM : Nat → Int32} (aA0 : 0 ≤ Int32.toInt qJ ∧ Int32.toInt qJ ≤ 0) (aA2 : 0 ≤ Int32.toInt rX ∧ Int32.toInt rX ≤ 60) (aAI : ∀ k : Nat, 0 ≤ Int32.toInt (qM k) ∧ Int32.toInt (qM k) ≤ 65535) (hpost : ∀ (r : Int32) (x_acts' : Nat → Int32) (aBS : Int32), (-1 ≤ Int32.toInt r ∧ Int32.toInt r ≤ 30) → (0 ≤ Int32.toInt aBS ∧ Int32.toInt aBS ≤ 80) → post r x_acts' aBS) : wp_X9_readActs post wE qJ rX qM := by
  have l0 := aE0
  exact ⟨32, tb_X9_readActs_2 rX qM aA2 aAI hpost _ 0 wE qJ (by omega) (by omega) (by omega)⟩
set_option maxHeartbeats 8000000 in
set_option maxRecDepth 200000 in
theorem ts_X9_day_68 {post : Int32 → (Nat → Int32) → Int32 → Int32 → Int32 → Int32 → Int32 → Int32 → Int32 → Int32 → Int32 → Int32 → Int32 → (Nat → Int32) → (Nat → Int32) → Int32 → Int32 → (Nat → Int32) → Int32 → (Nat → Int32) → Prop} (qM : Nat → Int32) (dN bD : Int32) (uU gF pL qF mX oE dY : Nat → Int32) (pQ : Int32) (pN : Nat → Int32) (aAI : ∀ k : Nat, 0 ≤ Int32.toInt (qM k) ∧ Int32.toInt (qM k) ≤ 65535) (xL : 0 ≤ Int32.toInt dN ∧ Int32.toInt dN ≤ 16) (wX : 0 ≤ Int32.toInt bD ∧ Int32.toInt bD ≤ 8) (zU : 0 ≤ Int32.toInt pQ ∧ Int32.toInt pQ ≤ 40) (hpost : ∀ (r : Int32) (x_acts' : Nat → Int32) (aCZ : Int32) (aBS : Int32) (aGd : Int32) (aHN : Int32) (aGq : Int32) (aGr : Int32) (aFB : Int32) (aCx : Int32) (aI5 : Int32) (aDz : Int32) (aFi : Int32) (aCG : Nat → Int32) (aB4 : Nat → Int32) (aBa : Int32) (aEN : Int32) (aCN : Nat → Int32) (zV : Int32) (aAV : Nat → Int32), (0 ≤ Int32.toInt aCZ ∧ Int32.toInt aCZ ≤ 0) → (0 ≤ Int32.toInt aBS ∧ Int32.toInt aBS ≤ 80) → (0 ≤ Int32.toInt aGd ∧ Int32.toInt aGd ≤ 60) → (-1 ≤ Int32.toInt aCx ∧ Int32.toInt aCx ≤ 7) → (0 ≤ Int32.toInt aDz ∧ Int32.toInt aDz ≤ 9) → (0 ≤ Int32.toInt aBa ∧ Int32.toInt aBa ≤ 12) → (0 ≤ Int32.toInt aEN ∧ Int32.toInt aEN ≤ 12) → (∀ k : Nat, k % 8 = 4 → -1 ≤ Int32.toInt (aCN k) ∧ Int32.toInt (aCN k) ≤ 7) → (∀ k : Nat, k % 8 = 6 → 0 ≤ Int32.toInt (aCN k) ∧ Int32.toInt (aCN k) ≤ 9) → (0 ≤ Int32.toInt zV ∧ Int32.toInt zV ≤ 16) → post r x_acts' aCZ aBS aGd aHN aGq aGr aFB aCx aI5 aDz aFi aCG aB4 aBa aEN aCN zV aAV) (k0 : Int32) (wE : Nat → Int32) (qL qJ rX jE eW eY dU fY gJ jG nU : Int32) (qY qU : Nat → Int32) (pR uM : Int32) (tD : Nat → Int32) (qB : Int32) (jK : Nat → Int32) (aBH : 0 ≤ Int32.toInt qL ∧ Int32.toInt qL ≤ 80) (aA0 : 0 ≤ Int32.toInt qJ ∧ Int32.toInt qJ ≤ 80) (aA2 : 0 ≤ Int32.toInt rX ∧ Int32.toInt rX ≤ 60) (aAC : -1 ≤ Int32.toInt fY ∧ Int32.toInt fY ≤ 7) (zK : 0 ≤ Int32.toInt jG ∧ Int32.toInt jG ≤ 9) (aAr : 0 ≤ Int32.toInt pR ∧ Int32.toInt pR ≤ 12) (aBy : 0 ≤ Int32.toInt uM ∧ Int32.toInt uM ≤ 12) (aBF : ∀ k : Nat, k % 8 = 4 → -1 ≤ Int32.toInt (tD k) ∧ Int32.toInt (tD k) ≤ 7) (aBG : ∀ k : Nat, k % 8 = 6 → 0 ≤ Int32.toInt (tD k) ∧ Int32.toInt (tD k) ≤ 9) (aAK : 0 ≤ Int32.toInt qB ∧ Int32.toInt qB ≤ 16) : ws_X9_day_68 post qM dN bD uU gF pL qF mX oE dY pQ pN k0 wE qL qJ rX jE eW eY dU fY gJ jG nU qY qU pR uM tD qB jK := by
  have l0 := aE0
  exact hpost _ _ _ _ _ _ _ _ _ _ _ _ _ _ _ _ _ _ _ _ (by omega) aA0 aA2 aAC zK aAr aBy aBF aBG aAK
set_option maxHeartbeats 8000000 in
set_option maxRecDepth 200000 in
theorem ts_X9_day_48 {post : Int32 → (Nat → Int32) → Int32 → Int32 → Int32 → Int32 → Int32 → Int32 → Int32 → Int32 → Int32 → Int32 → Int32 → (Nat → Int32) → (Nat → Int32) → Int32 → Int32 → (Nat → Int32) → Int32 → (Nat → Int32) → Prop} (qM : Nat → Int32) (dN bD : Int32) (uU gF pL qF mX oE dY : Nat → Int32) (pQ : Int32) (pN : Nat → Int32) (aAI : ∀ k : Nat, 0 ≤ Int32.toInt (qM k) ∧ Int32.toInt (qM k) ≤ 65535) (xL : 0 ≤ Int32.toInt dN ∧ Int32.toInt dN ≤ 16) (wX : 0 ≤ Int32.toInt bD ∧ Int32.toInt bD ≤ 8) (zU : 0 ≤ Int32.toInt pQ ∧ Int32.toInt pQ ≤ 40) (hpost : ∀ (r : Int32) (x_acts' : Nat → Int32) (aCZ : Int32) (aBS : Int32) (aGd : Int32) (aHN : Int32) (aGq : Int32) (aGr : Int32) (aFB : Int32) (aCx : Int32) (aI5 : Int32) (aDz : Int32) (aFi : Int32) (aCG : Nat → Int32) (aB4 : Nat → Int32) (aBa : Int32) (aEN : Int32) (aCN : Nat → Int32) (zV : Int32) (aAV : Nat → Int32), (0 ≤ Int32.toInt aCZ ∧ Int32.toInt aCZ ≤ 0) → (0 ≤ Int32.toInt aBS ∧ Int32.toInt aBS ≤ 80) → (0 ≤ Int32.toInt aGd ∧ Int32.toInt aGd ≤ 60) → (-1 ≤ Int32.toInt aCx ∧ Int32.toInt aCx ≤ 7) → (0 ≤ Int32.toInt aDz ∧ Int32.toInt aDz ≤ 9) → (0 ≤ Int32.toInt aBa ∧ Int32.toInt aBa ≤ 12) → (0 ≤ Int32.toInt aEN ∧ Int32.toInt aEN ≤ 12) → (∀ k : Nat, k % 8 = 4 → -1 ≤ Int32.toInt (aCN k) ∧ Int32.toInt (aCN k) ≤ 7) → (∀ k : Nat, k % 8 = 6 → 0 ≤ Int32.toInt (aCN k) ∧ Int32.toInt (aCN k) ≤ 9) → (0 ≤ Int32.toInt zV ∧ Int32.toInt zV ≤ 16) → post r x_acts' aCZ aBS aGd aHN aGq aGr aFB aCx aI5 aDz aFi aCG aB4 aBa aEN aCN zV aAV) (x1 k0 : Int32) (wE : Nat → Int32) (qL qJ rX jE eW eY dU fY gJ jG nU : Int32) (qY qU : Nat → Int32) (pR uM : Int32) (tD : Nat → Int32) (qB : Int32) (jK : Nat → Int32) (aBK : -1 ≤ Int32.toInt x1 ∧ Int32.toInt x1 ≤ 30) (h_k0 : 0 ≤ Int32.toInt k0 ∧ Int32.toInt k0 ≤ 1) (aBH : 0 ≤ Int32.toInt qL ∧ Int32.toInt qL ≤ 80) (aA0 : 0 ≤ Int32.toInt qJ ∧ Int32.toInt qJ ≤ 80) (aA2 : 0 ≤ Int32.toInt rX ∧ Int32.toInt rX ≤ 60) (aAC : -1 ≤ Int32.toInt fY ∧ Int32.toInt fY ≤ 7) (zK : 0 ≤ Int32.toInt jG ∧ Int32.toInt jG ≤ 9) (aAr : 0 ≤ Int32.toInt pR ∧ Int32.toInt pR ≤ 12) (aBy : 0 ≤ Int32.toInt uM ∧ Int32.toInt uM ≤ 12) (aBF : ∀ k : Nat, k % 8 = 4 → -1 ≤ Int32.toInt (tD k) ∧ Int32.toInt (tD k) ≤ 7) (aBG : ∀ k : Nat, k % 8 = 6 → 0 ≤ Int32.toInt (tD k) ∧ Int32.toInt (tD k) ≤ 9) (aAK : 0 ≤ Int32.toInt qB ∧ Int32.toInt qB ≤ 16) : ws_X9_day_48 post qM dN bD uU gF pL qF mX oE dY pQ pN x1 k0 wE qL qJ rX jE eW eY dU fY gJ jG nU qY qU pR uM tD qB jK := by
  have l0 := aI2
  have l1 := aE0
  refine And.intro (fun c1 => ?_) (fun c1 => ?_)
  · skip
    have c1 := (zJ _ _).mp c1
    have f2 : Int32.toInt ((-1) - qJ) = Int32.toInt ((-1) : Int32) - Int32.toInt qJ := aCA _ _ (by omega)
    obtain ⟨w3, ew3⟩ : ∃ w9 : Int32, w9 = (-1) - qJ := ⟨_, rfl⟩
    rw [← ew3] at f2
    have f4 := aAT jE
    have f5 := aAT eW
    have f6 := aAT eY
    have f7 := aAT dU
    have f8 := aAT gJ
    have f9 := aAT nU
    have key9 := ts_X9_day_68 qM dN bD uU gF pL qF mX oE dY pQ pN aAI xL wX zU hpost w3 wE qL qJ rX jE eW eY dU fY gJ jG nU qY qU pR uM tD qB jK aBH aA0 aA2 aAC zK aAr aBy aBF aBG aAK
    subst ew3
    exact key9
  · skip
    have c1 := mt (zJ _ _).mpr c1
    refine t_X9_doActs aBK xL wX aAC zK zU aAr aBy aBF aBG aAK (fun r25 no_apron_10 no_basket_11 no_ground_12 no_bruised_13 no_ladder_14 no_helper_15 no_today_16 no_clock_17 ru_given_18 ru_stack_19 pa_undoable_20 pa_free_21 pa_cells_22 ro_size_23 ro_numbers_24 h_no_ladder_14 h_no_today_16 h_pa_undoable_20 h_pa_free_21 e0_pa_cells_22 e1_pa_cells_22 h_ro_size_23 => ?_)
    have f26 := aAT r25
    have f27 := aAT no_apron_10
    have f28 := aAT no_basket_11
    have f29 := aAT no_ground_12
    have f30 := aAT no_bruised_13
    have f31 := aAT no_helper_15
    have f32 := aAT no_clock_17
    exact ts_X9_day_68 qM dN bD uU gF pL qF mX oE dY pQ pN aAI xL wX zU hpost r25 wE qL qJ rX no_apron_10 no_basket_11 no_ground_12 no_bruised_13 no_ladder_14 no_helper_15 no_today_16 no_clock_17 ru_given_18 ru_stack_19 pa_undoable_20 pa_free_21 pa_cells_22 ro_size_23 ro_numbers_24 aBH aA0 aA2 h_no_ladder_14 h_no_today_16 h_pa_undoable_20 h_pa_free_21 e0_pa_cells_22 e1_pa_cells_22 (by omega)
set_option maxHeartbeats 8000000 in
set_option maxRecDepth 200000 in
theorem ts_X9_day_47 {post : Int32 → (Nat → Int32) → Int32 → Int32 → Int32 → Int32 → Int32 → Int32 → Int32 → Int32 → Int32 → Int32 → Int32 → (Nat → Int32) → (Nat → Int32) → Int32 → Int32 → (Nat → Int32) → Int32 → (Nat → Int32) → Prop} (qM : Nat → Int32) (dN bD : Int32) (uU gF pL qF mX oE dY : Nat → Int32) (pQ : Int32) (pN : Nat → Int32) (aAI : ∀ k : Nat, 0 ≤ Int32.toInt (qM k) ∧ Int32.toInt (qM k) ≤ 65535) (xL : 0 ≤ Int32.toInt dN ∧ Int32.toInt dN ≤ 16) (wX : 0 ≤ Int32.toInt bD ∧ Int32.toInt bD ≤ 8) (zU : 0 ≤ Int32.toInt pQ ∧ Int32.toInt pQ ≤ 40) (hpost : ∀ (r : Int32) (x_acts' : Nat → Int32) (aCZ : Int32) (aBS : Int32) (aGd : Int32) (aHN : Int32) (aGq : Int32) (aGr : Int32) (aFB : Int32) (aCx : Int32) (aI5 : Int32) (aDz : Int32) (aFi : Int32) (aCG : Nat → Int32) (aB4 : Nat → Int32) (aBa : Int32) (aEN : Int32) (aCN : Nat → Int32) (zV : Int32) (aAV : Nat → Int32), (0 ≤ Int32.toInt aCZ ∧ Int32.toInt aCZ ≤ 0) → (0 ≤ Int32.toInt aBS ∧ Int32.toInt aBS ≤ 80) → (0 ≤ Int32.toInt aGd ∧ Int32.toInt aGd ≤ 60) → (-1 ≤ Int32.toInt aCx ∧ Int32.toInt aCx ≤ 7) → (0 ≤ Int32.toInt aDz ∧ Int32.toInt aDz ≤ 9) → (0 ≤ Int32.toInt aBa ∧ Int32.toInt aBa ≤ 12) → (0 ≤ Int32.toInt aEN ∧ Int32.toInt aEN ≤ 12) → (∀ k : Nat, k % 8 = 4 → -1 ≤ Int32.toInt (aCN k) ∧ Int32.toInt (aCN k) ≤ 7) → (∀ k : Nat, k % 8 = 6 → 0 ≤ Int32.toInt (aCN k) ∧ Int32.toInt (aCN k) ≤ 9) → (0 ≤ Int32.toInt zV ∧ Int32.toInt zV ≤ 16) → post r x_acts' aCZ aBS aGd aHN aGq aGr aFB aCx aI5 aDz aFi aCG aB4 aBa aEN aCN zV aAV) (x1 : Int32) (wE : Nat → Int32) (qL qJ rX jE eW eY dU fY gJ jG nU : Int32) (qY qU : Nat → Int32) (pR uM : Int32) (tD : Nat → Int32) (qB : Int32) (jK : Nat → Int32) (aBK : -1 ≤ Int32.toInt x1 ∧ Int32.toInt x1 ≤ 30) (aBH : 0 ≤ Int32.toInt qL ∧ Int32.toInt qL ≤ 80) (aA0 : 0 ≤ Int32.toInt qJ ∧ Int32.toInt qJ ≤ 80) (aA2 : 0 ≤ Int32.toInt rX ∧ Int32.toInt rX ≤ 60) (aAC : -1 ≤ Int32.toInt fY ∧ Int32.toInt fY ≤ 7) (zK : 0 ≤ Int32.toInt jG ∧ Int32.toInt jG ≤ 9) (aAr : 0 ≤ Int32.toInt pR ∧ Int32.toInt pR ≤ 12) (aBy : 0 ≤ Int32.toInt uM ∧ Int32.toInt uM ≤ 12) (aBF : ∀ k : Nat, k % 8 = 4 → -1 ≤ Int32.toInt (tD k) ∧ Int32.toInt (tD k) ≤ 7) (aBG : ∀ k : Nat, k % 8 = 6 → 0 ≤ Int32.toInt (tD k) ∧ Int32.toInt (tD k) ≤ 9) (aAK : 0 ≤ Int32.toInt qB ∧ Int32.toInt qB ≤ 16) : ws_X9_day_47 post qM dN bD uU gF pL qF mX oE dY pQ pN x1 wE qL qJ rX jE eW eY dU fY gJ jG nU qY qU pR uM tD qB jK := by
  have l0 := aE0
  have f33 := aAT jE
  have f34 := aAT eW
  have f35 := aAT eY
  have f36 := aAT dU
  have f37 := aAT gJ
  have f38 := aAT nU
  exact ts_X9_day_48 qM dN bD uU gF pL qF mX oE dY pQ pN aAI xL wX zU hpost x1 0 wE qL qJ rX jE eW eY dU fY gJ jG nU qY qU pR uM tD qB jK aBK (by omega) aBH aA0 aA2 aAC zK aAr aBy aBF aBG aAK
set_option maxHeartbeats 8000000 in
set_option maxRecDepth 200000 in
theorem ts_X9_day_27 {post : Int32 → (Nat → Int32) → Int32 → Int32 → Int32 → Int32 → Int32 → Int32 → Int32 → Int32 → Int32 → Int32 → Int32 → (Nat → Int32) → (Nat → Int32) → Int32 → Int32 → (Nat → Int32) → Int32 → (Nat → Int32) → Prop} (qM : Nat → Int32) (dN bD : Int32) (uU gF pL qF mX oE dY : Nat → Int32) (pQ : Int32) (pN : Nat → Int32) (aAI : ∀ k : Nat, 0 ≤ Int32.toInt (qM k) ∧ Int32.toInt (qM k) ≤ 65535) (xL : 0 ≤ Int32.toInt dN ∧ Int32.toInt dN ≤ 16) (wX : 0 ≤ Int32.toInt bD ∧ Int32.toInt bD ≤ 8) (zU : 0 ≤ Int32.toInt pQ ∧ Int32.toInt pQ ≤ 40) (hpost : ∀ (r : Int32) (x_acts' : Nat → Int32) (aCZ : Int32) (aBS : Int32) (aGd : Int32) (aHN : Int32) (aGq : Int32) (aGr : Int32) (aFB : Int32) (aCx : Int32) (aI5 : Int32) (aDz : Int32) (aFi : Int32) (aCG : Nat → Int32) (aB4 : Nat → Int32) (aBa : Int32) (aEN : Int32) (aCN : Nat → Int32) (zV : Int32) (aAV : Nat → Int32), (0 ≤ Int32.toInt aCZ ∧ Int32.toInt aCZ ≤ 0) → (0 ≤ Int32.toInt aBS ∧ Int32.toInt aBS ≤ 80) → (0 ≤ Int32.toInt aGd ∧ Int32.toInt aGd ≤ 60) → (-1 ≤ Int32.toInt aCx ∧ Int32.toInt aCx ≤ 7) → (0 ≤ Int32.toInt aDz ∧ Int32.toInt aDz ≤ 9) → (0 ≤ Int32.toInt aBa ∧ Int32.toInt aBa ≤ 12) → (0 ≤ Int32.toInt aEN ∧ Int32.toInt aEN ≤ 12) → (∀ k : Nat, k % 8 = 4 → -1 ≤ Int32.toInt (aCN k) ∧ Int32.toInt (aCN k) ≤ 7) → (∀ k : Nat, k % 8 = 6 → 0 ≤ Int32.toInt (aCN k) ∧ Int32.toInt (aCN k) ≤ 9) → (0 ≤ Int32.toInt zV ∧ Int32.toInt zV ≤ 16) → post r x_acts' aCZ aBS aGd aHN aGq aGr aFB aCx aI5 aDz aFi aCG aB4 aBa aEN aCN zV aAV) (k0 : Int32) (wE : Nat → Int32) (qL qJ rX jE eW eY dU fY gJ jG nU : Int32) (qY qU : Nat → Int32) (pR uM : Int32) (tD : Nat → Int32) (qB : Int32) (jK : Nat → Int32) (h_k0 : -1 ≤ Int32.toInt k0 ∧ Int32.toInt k0 ≤ 30) (aBH : 0 ≤ Int32.toInt qL ∧ Int32.toInt qL ≤ 80) (aA0 : 0 ≤ Int32.toInt qJ ∧ Int32.toInt qJ ≤ 80) (aA2 : 0 ≤ Int32.toInt rX ∧ Int32.toInt rX ≤ 60) (aAC : -1 ≤ Int32.toInt fY ∧ Int32.toInt fY ≤ 7) (zK : 0 ≤ Int32.toInt jG ∧ Int32.toInt jG ≤ 9) (aAr : 0 ≤ Int32.toInt pR ∧ Int32.toInt pR ≤ 12) (aBy : 0 ≤ Int32.toInt uM ∧ Int32.toInt uM ≤ 12) (aBF : ∀ k : Nat, k % 8 = 4 → -1 ≤ Int32.toInt (tD k) ∧ Int32.toInt (tD k) ≤ 7) (aBG : ∀ k : Nat, k % 8 = 6 → 0 ≤ Int32.toInt (tD k) ∧ Int32.toInt (tD k) ≤ 9) (aAK : 0 ≤ Int32.toInt qB ∧ Int32.toInt qB ≤ 16) : ws_X9_day_27 post qM dN bD uU gF pL qF mX oE dY pQ pN k0 wE qL qJ rX jE eW eY dU fY gJ jG nU qY qU pR uM tD qB jK := by
  have l0 := aI2
  have l1 := aEc
  refine And.intro (fun c39 => ?_) (fun c39 => ?_)
  · skip
    have c39 := (zJ _ _).mp c39
    have f40 := aAT jE
    have f41 := aAT eW
    have f42 := aAT eY
    have f43 := aAT dU
    have f44 := aAT gJ
    have f45 := aAT nU
    exact ts_X9_day_47 qM dN bD uU gF pL qF mX oE dY pQ pN aAI xL wX zU hpost k0 wE qL qJ rX jE eW eY dU fY gJ jG nU qY qU pR uM tD qB jK h_k0 aBH aA0 aA2 aAC zK aAr aBy aBF aBG aAK
  · skip
    have c39 := mt (zJ _ _).mpr c39
    refine And.intro (fun c46 => ?_) (fun c46 => ?_)
    · skip
      have c46 := mt (zJ _ _).mpr c46
      refine And.intro (fun _ => ?_) (fun h9 => absurd h9 (by decide))
      have f47 := aAT jE
      have f48 := aAT eW
      have f49 := aAT eY
      have f50 := aAT dU
      have f51 := aAT gJ
      have f52 := aAT nU
      exact ts_X9_day_47 qM dN bD uU gF pL qF mX oE dY pQ pN aAI xL wX zU hpost k0 wE qL qJ rX jE eW eY dU fY gJ jG nU qY qU pR uM tD qB jK h_k0 aBH aA0 aA2 aAC zK aAr aBy aBF aBG aAK
    · skip
      have c46 := (zJ _ _).mp c46
      refine And.intro (fun h9 => absurd h9 (by decide)) (fun _ => ?_)
      have f53 := aAT jE
      have f54 := aAT eW
      have f55 := aAT eY
      have f56 := aAT dU
      have f57 := aAT gJ
      have f58 := aAT nU
      exact ts_X9_day_48 qM dN bD uU gF pL qF mX oE dY pQ pN aAI xL wX zU hpost k0 1 wE qL qJ rX jE eW eY dU fY gJ jG nU qY qU pR uM tD qB jK h_k0 (by omega) aBH aA0 aA2 aAC zK aAr aBy aBF aBG aAK
set_option maxHeartbeats 8000000 in
set_option maxRecDepth 200000 in
theorem t_X9_day {post : Int32 → (Nat → Int32) → Int32 → Int32 → Int32 → Int32 → Int32 → Int32 → Int32 → Int32 → Int32 → Int32 → Int32 → (Nat → Int32) → (Nat → Int32) → Int32 → Int32 → (Nat → Int32) → Int32 → (Nat → Int32) → Prop} {wE : Nat → Int32} {qL qJ rX : Int32} {qM : Nat → Int32} {dN bD : Int32} {uU gF pL qF mX oE dY : Nat → Int32} {jE eW eY dU fY gJ jG nU pQ : Int32} {qY qU pN : Nat → Int32} {pR uM : Int32} {tD : Nat → Int32} {qB : Int32} {jK : Nat → Int32} (aBH : 0 ≤ Int32.toInt qL ∧ Int32.toInt qL ≤ 80) (aA0 : 0 ≤ Int32.toInt qJ ∧ Int32.toInt qJ ≤ 80) (aA2 : 0 ≤ Int32.toInt rX ∧ Int32.toInt rX ≤ 80) (aAI : ∀ k : Nat, 0 ≤ Int32.toInt (qM k) ∧ Int32.toInt (qM k) ≤ 65535) (xL : 0 ≤ Int32.toInt dN ∧ Int32.toInt dN ≤ 16) (wX : 0 ≤ Int32.toInt bD ∧ Int32.toInt bD ≤ 8) (aAC : -1 ≤ Int32.toInt fY ∧ Int32.toInt fY ≤ 7) (zK : 0 ≤ Int32.toInt jG ∧ Int32.toInt jG ≤ 9) (zU : 0 ≤ Int32.toInt pQ ∧ Int32.toInt pQ ≤ 40) (aAr : 0 ≤ Int32.toInt pR ∧ Int32.toInt pR ≤ 12) (aBy : 0 ≤ Int32.toInt uM ∧ Int32.toInt uM ≤ 12) (aBF : ∀ k : Nat, k % 8 = 4 → -1 ≤ Int32.toInt (tD k) ∧ Int32.toInt (tD k) ≤ 7) (aBG : ∀ k : Nat, k % 8 = 6 → 0 ≤ Int32.toInt (tD k) ∧ Int32.toInt (tD k) ≤ 9) (aAK : 0 ≤ Int32.toInt qB ∧ Int32.toInt qB ≤ 16) (hpost : ∀ (r : Int32) (x_acts' : Nat → Int32) (aCZ : Int32) (aBS : Int32) (aGd : Int32) (aHN : Int32) (aGq : Int32) (aGr : Int32) (aFB : Int32) (aCx : Int32) (aI5 : Int32) (aDz : Int32) (aFi : Int32) (aCG : Nat → Int32) (aB4 : Nat → Int32) (aBa : Int32) (aEN : Int32) (aCN : Nat → Int32) (zV : Int32) (aAV : Nat → Int32), (0 ≤ Int32.toInt aCZ ∧ Int32.toInt aCZ ≤ 0) → (0 ≤ Int32.toInt aBS ∧ Int32.toInt aBS ≤ 80) → (0 ≤ Int32.toInt aGd ∧ Int32.toInt aGd ≤ 60) → (-1 ≤ Int32.toInt aCx ∧ Int32.toInt aCx ≤ 7) → (0 ≤ Int32.toInt aDz ∧ Int32.toInt aDz ≤ 9) → (0 ≤ Int32.toInt aBa ∧ Int32.toInt aBa ≤ 12) → (0 ≤ Int32.toInt aEN ∧ Int32.toInt aEN ≤ 12) → (∀ k : Nat, k % 8 = 4 → -1 ≤ Int32.toInt (aCN k) ∧ Int32.toInt (aCN k) ≤ 7) → (∀ k : Nat, k % 8 = 6 → 0 ≤ Int32.toInt (aCN k) ∧ Int32.toInt (aCN k) ≤ 9) → (0 ≤ Int32.toInt zV ∧ Int32.toInt zV ≤ 16) → post r x_acts' aCZ aBS aGd aHN aGq aGr aFB aCx aI5 aDz aFi aCG aB4 aBa aEN aCN zV aAV) : wp_X9_day post wE qL qJ rX qM dN bD uU gF pL qF mX oE dY jE eW eY dU fY gJ jG nU pQ qY qU pN pR uM tD qB jK := by
  have l0 := aE0
  have l1 := li_60
  intro v59 ev59
  have f60 := ti_min qL (60 : Int32)
  have hv59 := congrArg Int32.toInt ev59
  refine And.intro (fun c61 => ?_) (fun c61 => ?_)
  · skip
    have c61 := mt (zJ _ _).mpr c61
    refine t_X9_readActs (by omega) (by omega) aAI (fun r64 x_acts_62 tx_place_63 h_r64 h_tx_place_63 => ?_)
    have f65 := aAT jE
    have f66 := aAT eW
    have f67 := aAT eY
    have f68 := aAT dU
    have f69 := aAT gJ
    have f70 := aAT nU
    exact ts_X9_day_27 qM dN bD uU gF pL qF mX oE dY pQ pN aAI xL wX zU hpost r64 x_acts_62 qL tx_place_63 v59 jE eW eY dU fY gJ jG nU qY qU pR uM tD qB jK h_r64 aBH h_tx_place_63 (by omega) aAC zK aAr aBy aBF aBG aAK
  · skip
    have c61 := (zJ _ _).mp c61
    have f71 := aAT jE
    have f72 := aAT eW
    have f73 := aAT eY
    have f74 := aAT dU
    have f75 := aAT gJ
    have f76 := aAT nU
    exact ts_X9_day_27 qM dN bD uU gF pL qF mX oE dY pQ pN aAI xL wX zU hpost 0 wE qL 0 v59 jE eW eY dU fY gJ jG nU qY qU pR uM tD qB jK (by omega) aBH (by omega) (by omega) aAC zK aAr aBy aBF aBG aAK
