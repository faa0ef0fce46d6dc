set_option maxHeartbeats 8000000 in
set_option maxRecDepth 200000 in
theorem t_X10_down {post : Int32 -> Int32 -> Int32 -> (Nat -> Int32) -> (Nat -> Int32) -> Prop} {SB : Int} {bT bY bU : Int32} {qG oO uL : Nat -> Int32} (xJ : 0 <= Int32.toInt bT /\ Int32.toInt bT <= 16) (yG : 0 <= Int32.toInt bY /\ Int32.toInt bY <= 1) (aAZ : 0 <= Int32.toInt bU /\ Int32.toInt bU <= 12) (xU : ∀ k : Nat, k = 17 -> -1 <= Int32.toInt (qG k) /\ Int32.toInt (qG k) <= SB) (xV : ∀ k : Nat, k = 19 -> 0 <= Int32.toInt (qG k) /\ Int32.toInt (qG k) <= 9) (yF : ∀ k : Nat, 0 <= Int32.toInt (oO k) /\ Int32.toInt (oO k) <= 99) (aAo : ∀ k : Nat, k % 21 = 17 -> -1 <= Int32.toInt (uL k) /\ Int32.toInt (uL k) <= SB) (aAp : ∀ k : Nat, k % 21 = 19 -> 0 <= Int32.toInt (uL k) /\ Int32.toInt (uL k) <= 9) (hc0 : -1 <= SB /\ SB <= 7) (hpost : ∀ (r : Int32) (xG : Int32) (aBI : Int32) (aBf : Nat -> Int32) (aBl : Nat -> Int32), (0 <= Int32.toInt xG /\ Int32.toInt xG <= 0) -> (0 <= Int32.toInt aBI /\ Int32.toInt aBI <= 12) -> (∀ k : Nat, k = 17 -> -1 <= Int32.toInt (aBf k) /\ Int32.toInt (aBf k) <= SB) -> (∀ k : Nat, k = 19 -> 0 <= Int32.toInt (aBf k) /\ Int32.toInt (aBf k) <= 9) -> (∀ k : Nat, k % 21 = 17 -> -1 <= Int32.toInt (aBl k) /\ Int32.toInt (aBl k) <= SB) -> (∀ k : Nat, k % 21 = 19 -> 0 <= Int32.toInt (aBl k) /\ Int32.toInt (aBl k) <= 9) -> post r xG aBI aBf aBl) : wp_X10_down post bT bY bU qG oO uL := by
  have l0 := aI2
  have l1 := aE0
  have l2 := aEc
  have l3 := li_17
  have l4 := li_20
  have l5 := li_9
  have l6 := li_9999
  have q1 := xU (17 : Int32).toNatClampNeg (by have e9 : (17 : Int32).toNatClampNeg = (Int32.toInt (17 : Int32)).toNat := rfl; omega)
  intro v2 ev2
  have hv2 := congrArg Int32.toInt ev2
  refine And.intro (fun c4 => ?_) (fun c4 => ?_)
  · skip
    have c4 := (zJ _ _).mp c4
    refine And.intro (fun h9 => absurd h9 (by decide)) (fun _ => ?_)
    exact hpost _ _ _ _ _ (by omega) aAZ xU xV aAo aAp
  · skip
    have c4 := mt (zJ _ _).mpr c4
    refine aKO (by omega) xJ xU xV (by omega) (fun r5 h_r5 ox6 => ?_)
    refine And.intro (fun c7 => ?_) (fun c7 => ?_)
    · skip
      have c7 := (zJ _ _).mp c7
      refine And.intro (fun h9 => absurd h9 (by decide)) (fun _ => ?_)
      exact hpost _ _ _ _ _ (by omega) aAZ xU xV aAo aAp
    · skip
      have c7 := mt (zJ _ _).mpr c7
      refine And.intro (fun _ => ?_) (fun h9 => absurd h9 (by decide))
      refine t_X10_remember aAZ xU xV aAo aAp (by omega) (fun m_undoMany_8 m_undos_9 h_m_undoMany_8 e0_m_undos_9 e1_m_undos_9 => ?_)
      have q10 := xU (17 : Int32).toNatClampNeg (by have e9 : (17 : Int32).toNatClampNeg = (Int32.toInt (17 : Int32)).toNat := rfl; omega)
      intro v11 ev11
      have hv11 := congrArg Int32.toInt ev11
      refine And.intro (aBZ (by omega)) ?_
      intro v12 ev12
      have f13 := yF v11.toNatClampNeg
      have hv12 := congrArg Int32.toInt ev12
      intro v14 ev14
      have f15 : Int32.toInt (v12 + 9) = Int32.toInt v12 + Int32.toInt (9 : Int32) := aAD _ _ (by omega)
      rw [<- ev14] at f15
      intro v16 ev16
      have hv16 := congrArg Int32.toInt ev16
      intro v18 ev18
      have hv18 := congrArg Int32.toInt ev18
      intro v20 ev20
      have f21 := aAT (if v18 < 9999 then v18 else 9999)
      have f23 := aAT v18
      have f22 := ti_min (9999 : Int32) v18
      have hv20 := congrArg Int32.toInt ev20
      have f25 := aAT v20
      have e24 : ∀ k : Nat, k = 17 -> -1 <= Int32.toInt ((upd qG (20 : Int32).toNatClampNeg v20) k) /\ Int32.toInt ((upd qG (20 : Int32).toNatClampNeg v20) k) <= SB := aCJ (C := fun k => k = 17) xU (fun hk => by have e9 : (20 : Int32).toNatClampNeg = (Int32.toInt (20 : Int32)).toNat := rfl; have hk : (20 : Int32).toNatClampNeg = 17 := hk; omega)
      have e26 : ∀ k : Nat, k = 19 -> 0 <= Int32.toInt ((upd qG (20 : Int32).toNatClampNeg v20) k) /\ Int32.toInt ((upd qG (20 : Int32).toNatClampNeg v20) k) <= 9 := aCJ (C := fun k => k = 19) xV (fun hk => by have e9 : (20 : Int32).toNatClampNeg = (Int32.toInt (20 : Int32)).toNat := rfl; have hk : (20 : Int32).toNatClampNeg = 19 := hk; omega)
      refine t_X10_empty xJ e24 e26 (by omega) (fun r28 m_now_27 e0_m_now_27 e1_m_now_27 ox29 => ?_)
      exact hpost _ _ _ _ _ (by omega) (by omega) e0_m_now_27 e1_m_now_27 e0_m_undos_9 e1_m_undos_9
theorem aXh {post : Int32 -> Prop} {p0 bT : Int32} {qR : Nat -> Int32} (h_p0 : -1 <= Int32.toInt p0 /\ Int32.toInt p0 <= 9) (xJ : 0 <= Int32.toInt bT /\ Int32.toInt bT <= 16) (zM : ∀ k : Nat, 0 <= Int32.toInt (qR k) /\ Int32.toInt (qR k) <= 9) (hpost : ∀ (r : Int32) , (0 <= Int32.toInt r /\ Int32.toInt r <= 65535) -> (r = bsf (Int32.toInt bT).toNat (fun k => decide (qR k <= p0))) -> post r) : aLg post p0 bT qR := by
  refine f_ripeOnes xJ (hpost _ ?_ rfl)
  exact bsf_rng _ (by omega) _
set_option maxHeartbeats 8000000 in
set_option maxRecDepth 200000 in
theorem ts_X10_reachedFrom_41 {post : Int32 -> Prop} {K6 : Int32 -> Int32 -> Int32 -> Int32 -> Int32 -> Prop} {n6 : Int} (bT : Int32) (m_x gR nG oO pJ : Nat -> Int32) (xJ : 0 <= Int32.toInt bT /\ Int32.toInt bT <= 16) (aAW : ∀ k : Nat, 0 <= Int32.toInt (m_x k) /\ Int32.toInt (m_x k) <= 99) (xK : ∀ k : Nat, 0 <= Int32.toInt (gR k) /\ Int32.toInt (gR k) <= 99) (xT : ∀ k : Nat, 0 <= Int32.toInt (nG k) /\ Int32.toInt (nG k) <= 99) (yF : ∀ k : Nat, 0 <= Int32.toInt (oO k) /\ Int32.toInt (oO k) <= 99) (yD : ∀ k : Nat, k = 4 -> 1 <= Int32.toInt (pJ k) /\ Int32.toInt (pJ k) <= 30) (xZ : ∀ k : Nat, k = 3 -> 0 <= Int32.toInt (pJ k) /\ Int32.toInt (pJ k) <= 9) (hpost : ∀ (r : Int32) , (0 <= Int32.toInt r /\ Int32.toInt r <= 65535) -> post r) (hK6 : ∀ (x1 : Int32) (x2 : Int32) (x3 : Int32) (x4 : Int32) (x5 : Int32), (0 <= Int32.toInt x1 /\ Int32.toInt x1 <= 7) -> (0 <= Int32.toInt x3 /\ Int32.toInt x3 <= 1) -> (0 <= Int32.toInt x4 /\ Int32.toInt x4 <= 65535) -> (0 <= Int32.toInt x5 /\ Int32.toInt x5 <= 16) -> (16 - Int32.toInt x5 < n6) -> K6 x1 x2 x3 x4 x5) (x1 x2 x3 x5 k0 k1 : Int32) (aBK : 0 <= Int32.toInt x1 /\ Int32.toInt x1 <= 7) (aCH : 0 <= Int32.toInt x3 /\ Int32.toInt x3 <= 1) (aF7 : 0 <= Int32.toInt x5 /\ Int32.toInt x5 <= 15) (h_k0 : 0 <= Int32.toInt k0 /\ Int32.toInt k0 <= 65535) (h_k1 : 0 <= Int32.toInt k1 /\ Int32.toInt k1 <= 32768) (hn6 : 16 - Int32.toInt x5 <= n6) : bA5 post K6 bT m_x gR nG oO pJ x1 x2 x3 x5 k0 k1 := by
  have l0 := aEc
  intro v1 ev1
  have f2 := ti_or 16 65536 k0 k1 (by decide) (by omega) (by omega)
  have hv1 := congrArg Int32.toInt ev1
  intro v3 ev3
  have f4 : Int32.toInt (x5 + 1) = Int32.toInt x5 + Int32.toInt (1 : Int32) := aAD _ _ (by omega)
  rw [<- ev3] at f4
  have f5 := aAT x2
  exact hK6 x1 x2 x3 v1 v3 aBK aCH (by omega) (by omega) (by omega)
set_option maxHeartbeats 8000000 in
set_option maxRecDepth 200000 in
theorem ts_X10_reachedFrom_6 {post : Int32 -> Prop} {next : Int32 -> Int32 -> Int32 -> Int32 -> Int32 -> Prop} {n6 : Int} (bT : Int32) (m_x gR nG oO pJ : Nat -> Int32) (xJ : 0 <= Int32.toInt bT /\ Int32.toInt bT <= 16) (aAW : ∀ k : Nat, 0 <= Int32.toInt (m_x k) /\ Int32.toInt (m_x k) <= 99) (xK : ∀ k : Nat, 0 <= Int32.toInt (gR k) /\ Int32.toInt (gR k) <= 99) (xT : ∀ k : Nat, 0 <= Int32.toInt (nG k) /\ Int32.toInt (nG k) <= 99) (yF : ∀ k : Nat, 0 <= Int32.toInt (oO k) /\ Int32.toInt (oO k) <= 99) (yD : ∀ k : Nat, k = 4 -> 1 <= Int32.toInt (pJ k) /\ Int32.toInt (pJ k) <= 30) (xZ : ∀ k : Nat, k = 3 -> 0 <= Int32.toInt (pJ k) /\ Int32.toInt (pJ k) <= 9) (hpost : ∀ (r : Int32) , (0 <= Int32.toInt r /\ Int32.toInt r <= 65535) -> post r) (hKn : ∀ (x1 : Int32) (x2 : Int32) (x3 : Int32) (x4 : Int32) (x5 : Int32), (0 <= Int32.toInt x1 /\ Int32.toInt x1 <= 7) -> (0 <= Int32.toInt x3 /\ Int32.toInt x3 <= 1) -> (0 <= Int32.toInt x4 /\ Int32.toInt x4 <= 65535) -> (0 <= Int32.toInt x5 /\ Int32.toInt x5 <= 16) -> (16 - Int32.toInt x5 < n6) -> next x1 x2 x3 x4 x5) (x1 x2 x3 x4 x5 : Int32) (aBK : 0 <= Int32.toInt x1 /\ Int32.toInt x1 <= 7) (aCH : 0 <= Int32.toInt x3 /\ Int32.toInt x3 <= 1) (aDO : 0 <= Int32.toInt x4 /\ Int32.toInt x4 <= 65535) (aF7 : 0 <= Int32.toInt x5 /\ Int32.toInt x5 <= 16) (hn6 : 16 - Int32.toInt x5 <= n6) : ws_X10_reachedFrom_6 post next bT m_x gR nG oO pJ x1 x2 x3 x4 x5 := by
  have l0 := aE0
  have l1 := aEc
  have l2 := li_2
  refine And.intro (fun c6 => ?_) (fun c6 => ?_)
  · skip
    have c6 := (aAO _ _).mp c6
    exact hpost _ aDO
  · skip
    have c6 := mt (aAO _ _).mpr c6
    intro v7 ev7
    have hv7 := congrArg Int32.toInt ev7
    intro v9 ev9
    have hv9 := congrArg Int32.toInt ev9
    refine And.intro (aBZ (by omega)) ?_
    intro v11 ev11
    have f12 := aAW x5.toNatClampNeg
    have hv11 := congrArg Int32.toInt ev11
    refine And.intro (aBZ (by omega)) ?_
    intro v13 ev13
    have f15 := xT x1.toNatClampNeg
    have f14 : Int32.toInt (v11 - (nG x1.toNatClampNeg)) = Int32.toInt v11 - Int32.toInt (nG x1.toNatClampNeg) := aCA _ _ (by omega)
    rw [<- ev13] at f14
    intro v16 ev16
    have f17 := ti_abs v13 (by omega)
    have hv16 := congrArg Int32.toInt ev16
    refine And.intro (aBZ (by omega)) ?_
    intro v18 ev18
    have hv18 := congrArg Int32.toInt ev18
    refine And.intro (aBZ (by omega)) ?_
    intro v19 ev19
    have f20 : Int32.toInt (v18 - (nG x1.toNatClampNeg)) = Int32.toInt v18 - Int32.toInt (nG x1.toNatClampNeg) := aCA _ _ (by omega)
    rw [<- ev19] at f20
    intro v21 ev21
    have f22 := ti_abs v19 (by omega)
    have hv21 := congrArg Int32.toInt ev21
    intro v23 ev23
    have hv23 := congrArg Int32.toInt ev23
    refine And.intro (aBZ (by omega)) ?_
    intro v25 ev25
    have f26 := xK x5.toNatClampNeg
    have hv25 := congrArg Int32.toInt ev25
    refine And.intro (aBZ (by omega)) ?_
    intro v27 ev27
    have f29 := yF x1.toNatClampNeg
    have f28 : Int32.toInt (v25 - (oO x1.toNatClampNeg)) = Int32.toInt v25 - Int32.toInt (oO x1.toNatClampNeg) := aCA _ _ (by omega)
    rw [<- ev27] at f28
    intro v30 ev30
    have f31 := ti_max (0 : Int32) v27
    have hv30 := congrArg Int32.toInt ev30
    refine And.intro (aBZ (by omega)) ?_
    intro v32 ev32
    have hv32 := congrArg Int32.toInt ev32
    refine And.intro (aBZ (by omega)) ?_
    intro v33 ev33
    have f34 : Int32.toInt (v32 - (oO x1.toNatClampNeg)) = Int32.toInt v32 - Int32.toInt (oO x1.toNatClampNeg) := aCA _ _ (by omega)
    rw [<- ev33] at f34
    intro v35 ev35
    have f36 := ti_max (0 : Int32) v33
    have hv35 := congrArg Int32.toInt ev35
    intro v37 ev37
    have hv37 := congrArg Int32.toInt ev37
    have f40 := aAT v37
    refine And.intro (fun c39 => ?_) (fun c39 => ?_)
    · skip
      have c39 := (aAd _ _).mp c39
      refine And.intro (fun _ => ?_) (fun h9 => absurd h9 (by decide))
      have f42 := aAT x2
      exact ts_X10_reachedFrom_41 bT m_x gR nG oO pJ xJ aAW xK xT yF yD xZ hpost hKn x1 x2 x3 x5 x4 0 aBK aCH (by omega) aDO (by omega) hn6
    · skip
      have c39 := mt (aAd _ _).mpr c39
      refine And.intro (fun h9 => absurd h9 (by decide)) (fun _ => ?_)
      intro v43 ev43
      have f44 := aDv 15 32768 x5 (by decide) (by omega)
      have hv43 := congrArg Int32.toInt ev43
      have f45 := aAT x2
      exact ts_X10_reachedFrom_41 bT m_x gR nG oO pJ xJ aAW xK xT yF yD xZ hpost hKn x1 x2 x3 x5 x4 v43 aBK aCH (by omega) aDO (by omega) hn6
set_option maxHeartbeats 8000000 in
set_option maxRecDepth 200000 in
theorem tb_X10_reachedFrom_6 {post : Int32 -> Prop} (bT : Int32) (m_x gR nG oO pJ : Nat -> Int32) (xJ : 0 <= Int32.toInt bT /\ Int32.toInt bT <= 16) (aAW : ∀ k : Nat, 0 <= Int32.toInt (m_x k) /\ Int32.toInt (m_x k) <= 99) (xK : ∀ k : Nat, 0 <= Int32.toInt (gR k) /\ Int32.toInt (gR k) <= 99) (xT : ∀ k : Nat, 0 <= Int32.toInt (nG k) /\ Int32.toInt (nG k) <= 99) (yF : ∀ k : Nat, 0 <= Int32.toInt (oO k) /\ Int32.toInt (oO k) <= 99) (yD : ∀ k : Nat, k = 4 -> 1 <= Int32.toInt (pJ k) /\ Int32.toInt (pJ k) <= 30) (xZ : ∀ k : Nat, k = 3 -> 0 <= Int32.toInt (pJ k) /\ Int32.toInt (pJ k) <= 9) (hpost : ∀ (r : Int32) , (0 <= Int32.toInt r /\ Int32.toInt r <= 65535) -> post r) : ∀ (n : Nat) (x1 x2 x3 x4 x5 : Int32), (0 <= Int32.toInt x1 /\ Int32.toInt x1 <= 7) -> (0 <= Int32.toInt x3 /\ Int32.toInt x3 <= 1) -> (0 <= Int32.toInt x4 /\ Int32.toInt x4 <= 65535) -> (0 <= Int32.toInt x5 /\ Int32.toInt x5 <= 16) -> (16 - Int32.toInt x5 < (n : Int)) -> bBo post bT m_x gR nG oO pJ n x1 x2 x3 x4 x5 := by
  intro n
  induction n with
  | zero =>
    intro x1 x2 x3 x4 x5 aBK aCH aDO aF7 hm
    exfalso; omega
  | succ n ih =>
    intro x1 x2 x3 x4 x5 aBK aCH aDO aF7 hm
    exact ts_X10_reachedFrom_6 bT m_x gR nG oO pJ xJ aAW xK xT yF yD xZ hpost ih x1 x2 x3 x4 x5 aBK aCH aDO aF7 (by omega)
set_option maxHeartbeats 8000000 in
set_option maxRecDepth 200000 in
theorem aX7 {post : Int32 -> Prop} {p0 p1 p2 bT : Int32} {m_x gR nG oO pJ : Nat -> Int32} (h_p0 : 0 <= Int32.toInt p0 /\ Int32.toInt p0 <= 7) (h_p2 : 0 <= Int32.toInt p2 /\ Int32.toInt p2 <= 1) (xJ : 0 <= Int32.toInt bT /\ Int32.toInt bT <= 16) (aAW : ∀ k : Nat, 0 <= Int32.toInt (m_x k) /\ Int32.toInt (m_x k) <= 99) (xK : ∀ k : Nat, 0 <= Int32.toInt (gR k) /\ Int32.toInt (gR k) <= 99) (xT : ∀ k : Nat, 0 <= Int32.toInt (nG k) /\ Int32.toInt (nG k) <= 99) (yF : ∀ k : Nat, 0 <= Int32.toInt (oO k) /\ Int32.toInt (oO k) <= 99) (yD : ∀ k : Nat, k = 4 -> 1 <= Int32.toInt (pJ k) /\ Int32.toInt (pJ k) <= 30) (xZ : ∀ k : Nat, k = 3 -> 0 <= Int32.toInt (pJ k) /\ Int32.toInt (pJ k) <= 9) (hpost : ∀ (r : Int32) , (0 <= Int32.toInt r /\ Int32.toInt r <= 65535) -> post r) : aJz post p0 p1 p2 bT m_x gR nG oO pJ := by
  have l0 := aE0
  have f46 := aAT p1
  exact ⟨18, tb_X10_reachedFrom_6 bT m_x gR nG oO pJ xJ aAW xK xT yF yD xZ hpost _ p0 p1 p2 0 0 h_p0 h_p2 (by omega) (by omega) (by omega)⟩
set_option maxHeartbeats 8000000 in
set_option maxRecDepth 200000 in
theorem ts_X10_goShake_96 {post : Int32 -> (Nat -> Int32) -> Prop} {SB : Int} {K50 : Int32 -> Int32 -> Int32 -> (Nat -> Int32) -> Prop} {n50 : Int} (bT : Int32) (m_x gR qR nG oO pJ : Nat -> Int32) (xJ : 0 <= Int32.toInt bT /\ Int32.toInt bT <= 16) (aAW : ∀ k : Nat, 0 <= Int32.toInt (m_x k) /\ Int32.toInt (m_x k) <= 99) (xK : ∀ k : Nat, 0 <= Int32.toInt (gR k) /\ Int32.toInt (gR k) <= 99) (zM : ∀ k : Nat, 0 <= Int32.toInt (qR k) /\ Int32.toInt (qR k) <= 9) (xT : ∀ k : Nat, 0 <= Int32.toInt (nG k) /\ Int32.toInt (nG k) <= 99) (yF : ∀ k : Nat, 0 <= Int32.toInt (oO k) /\ Int32.toInt (oO k) <= 99) (yD : ∀ k : Nat, k = 4 -> 1 <= Int32.toInt (pJ k) /\ Int32.toInt (pJ k) <= 30) (xZ : ∀ k : Nat, k = 3 -> 0 <= Int32.toInt (pJ k) /\ Int32.toInt (pJ k) <= 9) (hc0 : -1 <= SB /\ SB <= 7) (hpost : ∀ (r : Int32) (aBf : Nat -> Int32), (0 <= Int32.toInt r /\ Int32.toInt r <= 63) -> (∀ k : Nat, k = 17 -> -1 <= Int32.toInt (aBf k) /\ Int32.toInt (aBf k) <= SB) -> (∀ k : Nat, k = 19 -> 0 <= Int32.toInt (aBf k) /\ Int32.toInt (aBf k) <= 9) -> post r aBf) (hK50 : ∀ (x1 : Int32) (x2 : Int32) (x3 : Int32) (qG : Nat -> Int32), (0 <= Int32.toInt x1 /\ Int32.toInt x1 <= 65535) -> (0 <= Int32.toInt x2 /\ Int32.toInt x2 <= 65535) -> (0 <= Int32.toInt x3 /\ Int32.toInt x3 <= 16) -> (∀ k : Nat, k = 17 -> -1 <= Int32.toInt (qG k) /\ Int32.toInt (qG k) <= SB) -> (∀ k : Nat, k = 19 -> 0 <= Int32.toInt (qG k) /\ Int32.toInt (qG k) <= 9) -> (16 - Int32.toInt x3 < n50) -> K50 x1 x2 x3 qG) (x1 x2 x3 : Int32) (qG : Nat -> Int32) (aBK : 0 <= Int32.toInt x1 /\ Int32.toInt x1 <= 65535) (aBN : 0 <= Int32.toInt x2 /\ Int32.toInt x2 <= 65535) (aCH : 0 <= Int32.toInt x3 /\ Int32.toInt x3 <= 15) (xU : ∀ k : Nat, k = 17 -> -1 <= Int32.toInt (qG k) /\ Int32.toInt (qG k) <= SB) (xV : ∀ k : Nat, k = 19 -> 0 <= Int32.toInt (qG k) /\ Int32.toInt (qG k) <= 9) (hn50 : 16 - Int32.toInt x3 <= n50) : ws_X10_goShake_96 post K50 bT m_x gR qR nG oO pJ x1 x2 x3 qG := by
  have l0 := aEc
  intro v1 ev1
  have f2 : Int32.toInt (x3 + 1) = Int32.toInt x3 + Int32.toInt (1 : Int32) := aAD _ _ (by omega)
  rw [<- ev1] at f2
  exact hK50 x1 x2 v1 qG aBK aBN (by omega) xU xV (by omega)
set_option maxHeartbeats 8000000 in
set_option maxRecDepth 200000 in
theorem ts_X10_goShake_50 {post : Int32 -> (Nat -> Int32) -> Prop} {SB : Int} {next : Int32 -> Int32 -> Int32 -> (Nat -> Int32) -> Prop} {n50 : Int} (bT : Int32) (m_x gR qR nG oO pJ : Nat -> Int32) (xJ : 0 <= Int32.toInt bT /\ Int32.toInt bT <= 16) (aAW : ∀ k : Nat, 0 <= Int32.toInt (m_x k) /\ Int32.toInt (m_x k) <= 99) (xK : ∀ k : Nat, 0 <= Int32.toInt (gR k) /\ Int32.toInt (gR k) <= 99) (zM : ∀ k : Nat, 0 <= Int32.toInt (qR k) /\ Int32.toInt (qR k) <= 9) (xT : ∀ k : Nat, 0 <= Int32.toInt (nG k) /\ Int32.toInt (nG k) <= 99) (yF : ∀ k : Nat, 0 <= Int32.toInt (oO k) /\ Int32.toInt (oO k) <= 99) (yD : ∀ k : Nat, k = 4 -> 1 <= Int32.toInt (pJ k) /\ Int32.toInt (pJ k) <= 30) (xZ : ∀ k : Nat, k = 3 -> 0 <= Int32.toInt (pJ k) /\ Int32.toInt (pJ k) <= 9) (hc0 : -1 <= SB /\ SB <= 7) (hpost : ∀ (r : Int32) (aBf : Nat -> Int32), (0 <= Int32.toInt r /\ Int32.toInt r <= 63) -> (∀ k : Nat, k = 17 -> -1 <= Int32.toInt (aBf k) /\ Int32.toInt (aBf k) <= SB) -> (∀ k : Nat, k = 19 -> 0 <= Int32.toInt (aBf k) /\ Int32.toInt (aBf k) <= 9) -> post r aBf) (hKn : ∀ (x1 : Int32) (x2 : Int32) (x3 : Int32) (qG : Nat -> Int32), (0 <= Int32.toInt x1 /\ Int32.toInt x1 <= 65535) -> (0 <= Int32.toInt x2 /\ Int32.toInt x2 <= 65535) -> (0 <= Int32.toInt x3 /\ Int32.toInt x3 <= 16) -> (∀ k : Nat, k = 17 -> -1 <= Int32.toInt (qG k) /\ Int32.toInt (qG k) <= SB) -> (∀ k : Nat, k = 19 -> 0 <= Int32.toInt (qG k) /\ Int32.toInt (qG k) <= 9) -> (16 - Int32.toInt x3 < n50) -> next x1 x2 x3 qG) (x1 x2 x3 : Int32) (qG : Nat -> Int32) (aBK : 0 <= Int32.toInt x1 /\ Int32.toInt x1 <= 65535) (aBN : 0 <= Int32.toInt x2 /\ Int32.toInt x2 <= 65535) (aCH : 0 <= Int32.toInt x3 /\ Int32.toInt x3 <= 16) (xU : ∀ k : Nat, k = 17 -> -1 <= Int32.toInt (qG k) /\ Int32.toInt (qG k) <= SB) (xV : ∀ k : Nat, k = 19 -> 0 <= Int32.toInt (qG k) /\ Int32.toInt (qG k) <= 9) (hn50 : 16 - Int32.toInt x3 <= n50) : ws_X10_goShake_50 post next bT m_x gR qR nG oO pJ x1 x2 x3 qG := by
  have l0 := aEc
  have l1 := aKH
  have l2 := li_16
  have l3 := li_20
  have l4 := aJ8
  have l5 := li_3
  have l6 := li_63
  have l7 := aJ9
  have l8 := li_9999
  refine And.intro (fun c3 => ?_) (fun c3 => ?_)
  · skip
    have c3 := (aAO _ _).mp c3
    intro v4 ev4
    have hv4 := congrArg Int32.toInt ev4
    intro v6 ev6
    have hv6 := congrArg Int32.toInt ev6
    intro v8 ev8
    have f9 := aAT (if v6 < 9999 then v6 else 9999)
    have f11 := aAT v6
    have f10 := ti_min (9999 : Int32) v6
    have hv8 := congrArg Int32.toInt ev8
    have f13 := aAT v8
    have e12 : ∀ k : Nat, k = 17 -> -1 <= Int32.toInt ((upd qG (20 : Int32).toNatClampNeg v8) k) /\ Int32.toInt ((upd qG (20 : Int32).toNatClampNeg v8) k) <= SB := aCJ (C := fun k => k = 17) xU (fun hk => by have e9 : (20 : Int32).toNatClampNeg = (Int32.toInt (20 : Int32)).toNat := rfl; have hk : (20 : Int32).toNatClampNeg = 17 := hk; omega)
    have e14 : ∀ k : Nat, k = 19 -> 0 <= Int32.toInt ((upd qG (20 : Int32).toNatClampNeg v8) k) /\ Int32.toInt ((upd qG (20 : Int32).toNatClampNeg v8) k) <= 9 := aCJ (C := fun k => k = 19) xV (fun hk => by have e9 : (20 : Int32).toNatClampNeg = (Int32.toInt (20 : Int32)).toNat := rfl; have hk : (20 : Int32).toNatClampNeg = 19 := hk; omega)
    intro v15 ev15
    intro v16 ev16
    have f18 := aAQ v15 1431655765 (by omega)
    have f17 : Int32.toInt (x1 - (v15 &&& 1431655765)) = Int32.toInt x1 - Int32.toInt (v15 &&& 1431655765) := aCA _ _ (by omega)
    rw [<- ev16] at f17
    intro v19 ev19
    have f20 := aAQ v16 858993459 (by omega)
    have hv19 := congrArg Int32.toInt ev19
    intro v21 ev21
    intro v22 ev22
    have f24 := aAQ v21 858993459 (by omega)
    have f23 : Int32.toInt (v19 + (v21 &&& 858993459)) = Int32.toInt v19 + Int32.toInt (v21 &&& 858993459) := aAD _ _ (by omega)
    rw [<- ev22] at f23
    intro v25 ev25
    have hv25 := congrArg Int32.toInt ev25
    intro v27 ev27
    have f28 := aAQ v25 252645135 (by omega)
    have hv27 := congrArg Int32.toInt ev27
    intro v29 ev29
    have hv29 := congrArg Int32.toInt ev29
    intro v31 ev31
    have hv31 := congrArg Int32.toInt ev31
    have f33 := aAQ v31 63 (by omega)
    exact hpost _ _ (by omega) e12 e14
  · skip
    have c3 := mt (aAO _ _).mpr c3
    intro v34 ev34
    have f35 := aRJ x1 x3 (by omega)
    have hv34 := congrArg Int32.toInt ev34
    intro v36 ev36
    have f37 := aAQ v34 1 (by omega)
    have f38 := aBx v34 1 (by omega)
    have hv36 := congrArg Int32.toInt ev36
    refine And.intro (fun c39 => ?_) (fun c39 => ?_)
    · skip
      have c39 := mt (zJ _ _).mpr c39
      refine And.intro (fun h9 => absurd h9 (by decide)) (fun _ => ?_)
      exact ts_X10_goShake_96 bT m_x gR qR nG oO pJ xJ aAW xK zM xT yF yD xZ hc0 hpost hKn x1 x2 x3 qG aBK aBN (by omega) xU xV hn50
    · skip
      have c39 := (zJ _ _).mp c39
      refine And.intro (fun _ => ?_) (fun h9 => absurd h9 (by decide))
      refine And.intro (aBZ (by omega)) ?_
      have e40 : ∀ k : Nat, k = 17 -> -1 <= Int32.toInt ((upd qG x3.toNatClampNeg 3) k) /\ Int32.toInt ((upd qG x3.toNatClampNeg 3) k) <= SB := aCJ (C := fun k => k = 17) xU (fun hk => by have e9 : x3.toNatClampNeg = (Int32.toInt x3).toNat := rfl; have hk : x3.toNatClampNeg = 17 := hk; omega)
      have e41 : ∀ k : Nat, k = 19 -> 0 <= Int32.toInt ((upd qG x3.toNatClampNeg 3) k) /\ Int32.toInt ((upd qG x3.toNatClampNeg 3) k) <= 9 := aCJ (C := fun k => k = 19) xV (fun hk => by have e9 : x3.toNatClampNeg = (Int32.toInt x3).toNat := rfl; have hk : x3.toNatClampNeg = 19 := hk; omega)
      intro v42 ev42
      have hv42 := congrArg Int32.toInt ev42
      intro v44 ev44
      have f45 := aDv 15 32768 x3 (by decide) (by omega)
      have hv44 := congrArg Int32.toInt ev44
      refine t_X10_below (by omega) aBN xJ aAW xK (fun r46 h_r46 => ?_)
      intro v47 ev47
      have f49 := aAT v47
      have e48 : ∀ k : Nat, k = 17 -> -1 <= Int32.toInt ((upd (upd qG x3.toNatClampNeg 3) (16 : Int32).toNatClampNeg v47) k) /\ Int32.toInt ((upd (upd qG x3.toNatClampNeg 3) (16 : Int32).toNatClampNeg v47) k) <= SB := aCJ (C := fun k => k = 17) e40 (fun hk => by have e9 : (16 : Int32).toNatClampNeg = (Int32.toInt (16 : Int32)).toNat := rfl; have hk : (16 : Int32).toNatClampNeg = 17 := hk; omega)
      have e50 : ∀ k : Nat, k = 19 -> 0 <= Int32.toInt ((upd (upd qG x3.toNatClampNeg 3) (16 : Int32).toNatClampNeg v47) k) /\ Int32.toInt ((upd (upd qG x3.toNatClampNeg 3) (16 : Int32).toNatClampNeg v47) k) <= 9 := aCJ (C := fun k => k = 19) e41 (fun hk => by have e9 : (16 : Int32).toNatClampNeg = (Int32.toInt (16 : Int32)).toNat := rfl; have hk : (16 : Int32).toNatClampNeg = 19 := hk; omega)
      exact ts_X10_goShake_96 bT m_x gR qR nG oO pJ xJ aAW xK zM xT yF yD xZ hc0 hpost hKn x1 x2 x3 (upd (upd qG x3.toNatClampNeg 3) (16 : Int32).toNatClampNeg v47) aBK aBN (by omega) e48 e50 hn50
set_option maxHeartbeats 8000000 in
set_option maxRecDepth 200000 in
theorem tb_X10_goShake_50 {post : Int32 -> (Nat -> Int32) -> Prop} {SB : Int} (bT : Int32) (m_x gR qR nG oO pJ : Nat -> Int32) (xJ : 0 <= Int32.toInt bT /\ Int32.toInt bT <= 16) (aAW : ∀ k : Nat, 0 <= Int32.toInt (m_x k) /\ Int32.toInt (m_x k) <= 99) (xK : ∀ k : Nat, 0 <= Int32.toInt (gR k) /\ Int32.toInt (gR k) <= 99) (zM : ∀ k : Nat, 0 <= Int32.toInt (qR k) /\ Int32.toInt (qR k) <= 9) (xT : ∀ k : Nat, 0 <= Int32.toInt (nG k) /\ Int32.toInt (nG k) <= 99) (yF : ∀ k : Nat, 0 <= Int32.toInt (oO k) /\ Int32.toInt (oO k) <= 99) (yD : ∀ k : Nat, k = 4 -> 1 <= Int32.toInt (pJ k) /\ Int32.toInt (pJ k) <= 30) (xZ : ∀ k : Nat, k = 3 -> 0 <= Int32.toInt (pJ k) /\ Int32.toInt (pJ k) <= 9) (hc0 : -1 <= SB /\ SB <= 7) (hpost : ∀ (r : Int32) (aBf : Nat -> Int32), (0 <= Int32.toInt r /\ Int32.toInt r <= 63) -> (∀ k : Nat, k = 17 -> -1 <= Int32.toInt (aBf k) /\ Int32.toInt (aBf k) <= SB) -> (∀ k : Nat, k = 19 -> 0 <= Int32.toInt (aBf k) /\ Int32.toInt (aBf k) <= 9) -> post r aBf) : ∀ (n : Nat) (x1 x2 x3 : Int32) (qG : Nat -> Int32), (0 <= Int32.toInt x1 /\ Int32.toInt x1 <= 65535) -> (0 <= Int32.toInt x2 /\ Int32.toInt x2 <= 65535) -> (0 <= Int32.toInt x3 /\ Int32.toInt x3 <= 16) -> (∀ k : Nat, k = 17 -> -1 <= Int32.toInt (qG k) /\ Int32.toInt (qG k) <= SB) -> (∀ k : Nat, k = 19 -> 0 <= Int32.toInt (qG k) /\ Int32.toInt (qG k) <= 9) -> (16 - Int32.toInt x3 < (n : Int)) -> wb_X10_goShake_50 post bT m_x gR qR nG oO pJ n x1 x2 x3 qG := by
  intro n
  induction n with
  | zero =>
    intro x1 x2 x3 qG aBK aBN aCH xU xV hm
    exfalso; omega
  | succ n ih =>
    intro x1 x2 x3 qG aBK aBN aCH xU xV hm
    exact ts_X10_goShake_50 bT m_x gR qR nG oO pJ xJ aAW xK zM xT yF yD xZ hc0 hpost ih x1 x2 x3 qG aBK aBN aCH xU xV (by omega)
set_option maxHeartbeats 8000000 in
set_option maxRecDepth 200000 in
theorem t_X10_goShake {post : Int32 -> (Nat -> Int32) -> Prop} {SB : Int} {bT : Int32} {qG m_x gR qR nG oO pJ : Nat -> Int32} (xJ : 0 <= Int32.toInt bT /\ Int32.toInt bT <= 16) (xU : ∀ k : Nat, k = 17 -> -1 <= Int32.toInt (qG k) /\ Int32.toInt (qG k) <= SB) (xV : ∀ k : Nat, k = 19 -> 0 <= Int32.toInt (qG k) /\ Int32.toInt (qG k) <= 9) (aAW : ∀ k : Nat, 0 <= Int32.toInt (m_x k) /\ Int32.toInt (m_x k) <= 99) (xK : ∀ k : Nat, 0 <= Int32.toInt (gR k) /\ Int32.toInt (gR k) <= 99) (zM : ∀ k : Nat, 0 <= Int32.toInt (qR k) /\ Int32.toInt (qR k) <= 9) (xT : ∀ k : Nat, 0 <= Int32.toInt (nG k) /\ Int32.toInt (nG k) <= 99) (yF : ∀ k : Nat, 0 <= Int32.toInt (oO k) /\ Int32.toInt (oO k) <= 99) (yD : ∀ k : Nat, k = 4 -> 1 <= Int32.toInt (pJ k) /\ Int32.toInt (pJ k) <= 30) (xZ : ∀ k : Nat, k = 3 -> 0 <= Int32.toInt (pJ k) /\ Int32.toInt (pJ k) <= 9) (hc0 : -1 <= SB /\ SB <= 7) (hx0 : 0 <= Int32.toInt (qG (17 : Int32).toNatClampNeg)) (hpost : ∀ (r : Int32) (aBf : Nat -> Int32), (0 <= Int32.toInt r /\ Int32.toInt r <= 63) -> (∀ k : Nat, k = 17 -> -1 <= Int32.toInt (aBf k) /\ Int32.toInt (aBf k) <= SB) -> (∀ k : Nat, k = 19 -> 0 <= Int32.toInt (aBf k) /\ Int32.toInt (aBf k) <= 9) -> post r aBf) : wp_X10_goShake post bT qG m_x gR qR nG oO pJ := by
  have l0 := aE0
  have l1 := li_17
  have l2 := li_18
  have l3 := li_19
  refine aKO (by omega) xJ xU xV (by omega) (fun r51 h_r51 ox52 => ?_)
  have q53 := xV (19 : Int32).toNatClampNeg (by have e9 : (19 : Int32).toNatClampNeg = (Int32.toInt (19 : Int32)).toNat := rfl; omega)
  intro v54 ev54
  have hv54 := congrArg Int32.toInt ev54
  refine aXh (by omega) xJ zM (fun r56 h_r56 ox57 => ?_)
  intro v58 ev58
  have f59 := aAQ r51 r56 (by omega)
  have f60 := aBx r51 r56 (by omega)
  have hv58 := congrArg Int32.toInt ev58
  have q61 := xU (17 : Int32).toNatClampNeg (by have e9 : (17 : Int32).toNatClampNeg = (Int32.toInt (17 : Int32)).toNat := rfl; omega)
  intro v62 ev62
  have hv62 := congrArg Int32.toInt ev62
  intro v64 ev64
  have hv64 := congrArg Int32.toInt ev64
  refine aX7 (by omega) (by omega) xJ aAW xK xT yF yD xZ (fun r66 h_r66 => ?_)
  intro v67 ev67
  have f68 := aAQ v58 r66 (by omega)
  have f69 := aBx v58 r66 (by omega)
  have hv67 := congrArg Int32.toInt ev67
  refine aKO (by omega) xJ xU xV (by omega) (fun r70 h_r70 ox71 => ?_)
  intro v72 ev72
  have f74 := aBx r70 (v67 ^^^ (-1)) (by omega)
  have hv72 := congrArg Int32.toInt ev72
  exact ⟨18, tb_X10_goShake_50 bT m_x gR qR nG oO pJ xJ aAW xK zM xT yF yD xZ hc0 hpost _ v67 v72 0 qG (by omega) (by omega) (by omega) xU xV (by omega)⟩
set_option maxHeartbeats 8000000 in
set_option maxRecDepth 200000 in
theorem t_X10_shake {post : Int32 -> Int32 -> Int32 -> (Nat -> Int32) -> (Nat -> Int32) -> Prop} {SB : Int} {bT bY bU : Int32} {qG m_x gR qR nG oO pJ uL : Nat -> Int32} (xJ : 0 <= Int32.toInt bT /\ Int32.toInt bT <= 16) (yG : 0 <= Int32.toInt bY /\ Int32.toInt bY <= 1) (aAZ : 0 <= Int32.toInt bU /\ Int32.toInt bU <= 12) (xU : ∀ k : Nat, k = 17 -> -1 <= Int32.toInt (qG k) /\ Int32.toInt (qG k) <= SB) (xV : ∀ k : Nat, k = 19 -> 0 <= Int32.toInt (qG k) /\ Int32.toInt (qG k) <= 9) (aAW : ∀ k : Nat, 0 <= Int32.toInt (m_x k) /\ Int32.toInt (m_x k) <= 99) (xK : ∀ k : Nat, 0 <= Int32.toInt (gR k) /\ Int32.toInt (gR k) <= 99) (zM : ∀ k : Nat, 0 <= Int32.toInt (qR k) /\ Int32.toInt (qR k) <= 9) (xT : ∀ k : Nat, 0 <= Int32.toInt (nG k) /\ Int32.toInt (nG k) <= 99) (yF : ∀ k : Nat, 0 <= Int32.toInt (oO k) /\ Int32.toInt (oO k) <= 99) (yD : ∀ k : Nat, k = 4 -> 1 <= Int32.toInt (pJ k) /\ Int32.toInt (pJ k) <= 30) (xZ : ∀ k : Nat, k = 3 -> 0 <= Int32.toInt (pJ k) /\ Int32.toInt (pJ k) <= 9) (aAo : ∀ k : Nat, k % 21 = 17 -> -1 <= Int32.toInt (uL k) /\ Int32.toInt (uL k) <= SB) (aAp : ∀ k : Nat, k % 21 = 19 -> 0 <= Int32.toInt (uL k) /\ Int32.toInt (uL k) <= 9) (hc0 : -1 <= SB /\ SB <= 7) (hpost : ∀ (r : Int32) (xG : Int32) (aBI : Int32) (aBf : Nat -> Int32) (aBl : Nat -> Int32), (-2 <= Int32.toInt r /\ Int32.toInt r <= 63) -> (0 <= Int32.toInt xG /\ Int32.toInt xG <= 0) -> (0 <= Int32.toInt aBI /\ Int32.toInt aBI <= 12) -> (∀ k : Nat, k = 17 -> -1 <= Int32.toInt (aBf k) /\ Int32.toInt (aBf k) <= SB) -> (∀ k : Nat, k = 19 -> 0 <= Int32.toInt (aBf k) /\ Int32.toInt (aBf k) <= 9) -> (∀ k : Nat, k % 21 = 17 -> -1 <= Int32.toInt (aBl k) /\ Int32.toInt (aBl k) <= SB) -> (∀ k : Nat, k % 21 = 19 -> 0 <= Int32.toInt (aBl k) /\ Int32.toInt (aBl k) <= 9) -> post r xG aBI aBf aBl) : wp_X10_shake post bT bY bU qG m_x gR qR nG oO pJ uL := by
  have l0 := aI2
  have l1 := li_m2
  have l2 := aE0
  have l3 := li_17
  have q1 := xU (17 : Int32).toNatClampNeg (by have e9 : (17 : Int32).toNatClampNeg = (Int32.toInt (17 : Int32)).toNat := rfl; omega)
  intro v2 ev2
  have hv2 := congrArg Int32.toInt ev2
  refine And.intro (fun c4 => ?_) (fun c4 => ?_)
  · skip
    have c4 := mt (zJ _ _).mpr c4
    refine t_X10_remember aAZ xU xV aAo aAp (by omega) (fun m_undoMany_5 m_undos_6 h_m_undoMany_5 e0_m_undos_6 e1_m_undos_6 => ?_)
    refine t_X10_goShake xJ xU xV aAW xK zM xT yF yD xZ (by omega) (by omega) (fun r8 m_now_7 h_r8 e0_m_now_7 e1_m_now_7 => ?_)
    exact hpost _ _ _ _ _ (by omega) (by omega) (by omega) e0_m_now_7 e1_m_now_7 e0_m_undos_6 e1_m_undos_6
  · skip
    have c4 := (zJ _ _).mp c4
    exact hpost _ _ _ _ _ (by omega) (by omega) aAZ xU xV aAo aAp
set_option maxHeartbeats 8000000 in
set_option maxRecDepth 200000 in
theorem t_X10_sleep {post : Int32 -> Int32 -> Int32 -> (Nat -> Int32) -> (Nat -> Int32) -> Prop} {SB : Int} {bT bY bU : Int32} {qG uL : Nat -> Int32} (xJ : 0 <= Int32.toInt bT /\ Int32.toInt bT <= 16) (yG : 0 <= Int32.toInt bY /\ Int32.toInt bY <= 1) (aAZ : 0 <= Int32.toInt bU /\ Int32.toInt bU <= 12) (xU : ∀ k : Nat, k = 17 -> -1 <= Int32.toInt (qG k) /\ Int32.toInt (qG k) <= SB) (xV : ∀ k : Nat, k = 19 -> 0 <= Int32.toInt (qG k) /\ Int32.toInt (qG k) <= 9) (aAo : ∀ k : Nat, k % 21 = 17 -> -1 <= Int32.toInt (uL k) /\ Int32.toInt (uL k) <= SB) (aAp : ∀ k : Nat, k % 21 = 19 -> 0 <= Int32.toInt (uL k) /\ Int32.toInt (uL k) <= 9) (hc0 : -1 <= SB /\ SB <= 7) (hpost : ∀ (r : Int32) (xG : Int32) (aBI : Int32) (aBf : Nat -> Int32) (aBl : Nat -> Int32), (-1 <= Int32.toInt r /\ Int32.toInt r <= 9) -> (0 <= Int32.toInt xG /\ Int32.toInt xG <= 0) -> (0 <= Int32.toInt aBI /\ Int32.toInt aBI <= 12) -> (∀ k : Nat, k = 17 -> -1 <= Int32.toInt (aBf k) /\ Int32.toInt (aBf k) <= SB) -> (∀ k : Nat, k = 19 -> 0 <= Int32.toInt (aBf k) /\ Int32.toInt (aBf k) <= 9) -> (∀ k : Nat, k % 21 = 17 -> -1 <= Int32.toInt (aBl k) /\ Int32.toInt (aBl k) <= SB) -> (∀ k : Nat, k % 21 = 19 -> 0 <= Int32.toInt (aBl k) /\ Int32.toInt (aBl k) <= 9) -> post r xG aBI aBf aBl) : wp_X10_sleep post bT bY bU qG uL := by
  have l0 := aI2
  have l1 := aE0
  have l2 := aEc
  have l3 := li_17
  have l4 := li_19
  have l5 := li_20
  have l6 := li_9
  have q1 := xV (19 : Int32).toNatClampNeg (by have e9 : (19 : Int32).toNatClampNeg = (Int32.toInt (19 : Int32)).toNat := rfl; omega)
  intro v2 ev2
  have hv2 := congrArg Int32.toInt ev2
  refine And.intro (fun c4 => ?_) (fun c4 => ?_)
  · skip
    have c4 := mt (zJ _ _).mpr c4
    refine t_X10_remember aAZ xU xV aAo aAp (by omega) (fun m_undoMany_5 m_undos_6 h_m_undoMany_5 e0_m_undos_6 e1_m_undos_6 => ?_)
    refine t_X10_empty xJ xU xV (by omega) (fun r8 m_now_7 e0_m_now_7 e1_m_now_7 ox9 => ?_)
    have e10 : ∀ k : Nat, k = 17 -> -1 <= Int32.toInt ((upd m_now_7 (17 : Int32).toNatClampNeg (-1)) k) /\ Int32.toInt ((upd m_now_7 (17 : Int32).toNatClampNeg (-1)) k) <= SB := aCJ (C := fun k => k = 17) e0_m_now_7 (fun hk => by have e9 : (17 : Int32).toNatClampNeg = (Int32.toInt (17 : Int32)).toNat := rfl; have hk : (17 : Int32).toNatClampNeg = 17 := hk; omega)
    have e11 : ∀ k : Nat, k = 19 -> 0 <= Int32.toInt ((upd m_now_7 (17 : Int32).toNatClampNeg (-1)) k) /\ Int32.toInt ((upd m_now_7 (17 : Int32).toNatClampNeg (-1)) k) <= 9 := aCJ (C := fun k => k = 19) e1_m_now_7 (fun hk => by have e9 : (17 : Int32).toNatClampNeg = (Int32.toInt (17 : Int32)).toNat := rfl; have hk : (17 : Int32).toNatClampNeg = 19 := hk; omega)
    have e12 : ∀ k : Nat, k = 17 -> -1 <= Int32.toInt ((upd (upd m_now_7 (17 : Int32).toNatClampNeg (-1)) (20 : Int32).toNatClampNeg 0) k) /\ Int32.toInt ((upd (upd m_now_7 (17 : Int32).toNatClampNeg (-1)) (20 : Int32).toNatClampNeg 0) k) <= SB := aCJ (C := fun k => k = 17) e10 (fun hk => by have e9 : (20 : Int32).toNatClampNeg = (Int32.toInt (20 : Int32)).toNat := rfl; have hk : (20 : Int32).toNatClampNeg = 17 := hk; omega)
    have e13 : ∀ k : Nat, k = 19 -> 0 <= Int32.toInt ((upd (upd m_now_7 (17 : Int32).toNatClampNeg (-1)) (20 : Int32).toNatClampNeg 0) k) /\ Int32.toInt ((upd (upd m_now_7 (17 : Int32).toNatClampNeg (-1)) (20 : Int32).toNatClampNeg 0) k) <= 9 := aCJ (C := fun k => k = 19) e11 (fun hk => by have e9 : (20 : Int32).toNatClampNeg = (Int32.toInt (20 : Int32)).toNat := rfl; have hk : (20 : Int32).toNatClampNeg = 19 := hk; omega)
    have q14 := e13 (19 : Int32).toNatClampNeg (by have e9 : (19 : Int32).toNatClampNeg = (Int32.toInt (19 : Int32)).toNat := rfl; omega)
    intro v15 ev15
    have hv15 := congrArg Int32.toInt ev15
    have j17 : Int32.toInt v15 = Int32.toInt (qG (19 : Int32).toNatClampNeg) := by rw [ev15]; exact congrArg Int32.toInt (gs_19 (by assumption))
    intro v18 ev18
    have f19 : Int32.toInt (v15 + 1) = Int32.toInt v15 + Int32.toInt (1 : Int32) := aAD _ _ (by omega)
    rw [<- ev18] at f19
    have e20 : ∀ k : Nat, k = 17 -> -1 <= Int32.toInt ((upd (upd (upd m_now_7 (17 : Int32).toNatClampNeg (-1)) (20 : Int32).toNatClampNeg 0) (19 : Int32).toNatClampNeg v18) k) /\ Int32.toInt ((upd (upd (upd m_now_7 (17 : Int32).toNatClampNeg (-1)) (20 : Int32).toNatClampNeg 0) (19 : Int32).toNatClampNeg v18) k) <= SB := aCJ (C := fun k => k = 17) e12 (fun hk => by have e9 : (19 : Int32).toNatClampNeg = (Int32.toInt (19 : Int32)).toNat := rfl; have hk : (19 : Int32).toNatClampNeg = 17 := hk; omega)
    have e21 : ∀ k : Nat, k = 19 -> 0 <= Int32.toInt ((upd (upd (upd m_now_7 (17 : Int32).toNatClampNeg (-1)) (20 : Int32).toNatClampNeg 0) (19 : Int32).toNatClampNeg v18) k) /\ Int32.toInt ((upd (upd (upd m_now_7 (17 : Int32).toNatClampNeg (-1)) (20 : Int32).toNatClampNeg 0) (19 : Int32).toNatClampNeg v18) k) <= 9 := aCJ (C := fun k => k = 19) e13 (fun hk => by have e9 : (19 : Int32).toNatClampNeg = (Int32.toInt (19 : Int32)).toNat := rfl; have hk : (19 : Int32).toNatClampNeg = 19 := hk; omega)
    have q22 := e21 (19 : Int32).toNatClampNeg (by have e9 : (19 : Int32).toNatClampNeg = (Int32.toInt (19 : Int32)).toNat := rfl; omega)
    intro v23 ev23
    have hv23 := congrArg Int32.toInt ev23
    exact hpost _ _ _ _ _ (by omega) (by omega) (by omega) e20 e21 e0_m_undos_6 e1_m_undos_6
  · skip
    have c4 := (zJ _ _).mp c4
    exact hpost _ _ _ _ _ (by omega) (by omega) aAZ xU xV aAo aAp
set_option maxHeartbeats 8000000 in
set_option maxRecDepth 200000 in
theorem ts_X10_readAct_109 {post : Int32 -> Int32 -> (Nat -> Int32) -> Prop} {aLe : Int32} (jD : Nat) (mLn oF : Int32) (qO qQ : Nat -> Int32) (yM : jD = 1) (zE : 0 <= Int32.toInt mLn /\ Int32.toInt mLn <= 80) (aAR : 60 <= Int32.toInt oF /\ Int32.toInt oF <= 60) (zG : ∀ k : Nat, -128 <= Int32.toInt (qO k) /\ Int32.toInt (qO k) <= 127) (zI : ∀ k : Nat, -128 <= Int32.toInt (qQ k) /\ Int32.toInt (qQ k) <= 127) (hpost : ∀ (aAm : Int32) (zH : Int32) (aIY : Nat -> Int32), (0 <= Int32.toInt aAm /\ Int32.toInt aAm <= 80) -> (-1 <= Int32.toInt zH /\ Int32.toInt zH <= 80) -> (∀ k : Nat, -1 <= Int32.toInt (aIY k) /\ Int32.toInt (aIY k) <= 255) -> (Int32.toInt aLe + 1 <= Int32.toInt aAm) -> (Int32.toInt aAm <= 61) -> post aAm zH aIY) (x1 rP dQ : Int32) (wJ : Nat -> Int32) (aBK : 0 <= Int32.toInt x1 /\ Int32.toInt x1 <= 125) (aA1 : 0 <= Int32.toInt rP /\ Int32.toInt rP <= 80) (aAA : -1 <= Int32.toInt dQ /\ Int32.toInt dQ <= 80) (aB1 : ∀ k : Nat, -1 <= Int32.toInt (wJ k) /\ Int32.toInt (wJ k) <= 255) (hx0 : Int32.toInt rP <= 61) (hx1 : Int32.toInt aLe + 1 <= Int32.toInt rP) : aEP post jD mLn oF qO qQ x1 rP dQ wJ := by
  have l0 := aEc
  have l1 := li_2
  intro v1 ev1
  have f2 : Int32.toInt (x1 + 1) = Int32.toInt x1 + Int32.toInt (1 : Int32) := aAD _ _ (by omega)
  rw [<- ev1] at f2
  refine aXA (by omega) (by first | exact yM | exact Or.inl rfl | exact Or.inr rfl | omega) zE (by omega) aA1 aAA zG zI (by omega) (fun r5 m_at_3 m_wrong_4 h_r5 h_m_at_3 h_m_wrong_4 ox6 ox7 ox8 ox9 => ?_)
  refine And.intro (aBZ (by omega)) ?_
  have a10 : ∀ k : Nat, -1 <= Int32.toInt ((upd wJ v1.toNatClampNeg r5) k) /\ Int32.toInt ((upd wJ v1.toNatClampNeg r5) k) <= 255 := t_upd (fun k => by have q9 := aB1 k; omega) (by omega)
  exact hpost _ _ _ h_m_at_3 h_m_wrong_4 (fun k => by have q9 := a10 k; omega) (by omega) (by omega)
set_option maxHeartbeats 8000000 in
set_option maxRecDepth 200000 in
theorem ts_X10_readAct_97 {post : Int32 -> Int32 -> (Nat -> Int32) -> Prop} {aLe : Int32} (jD : Nat) (mLn oF : Int32) (qO qQ : Nat -> Int32) (yM : jD = 1) (zE : 0 <= Int32.toInt mLn /\ Int32.toInt mLn <= 80) (aAR : 60 <= Int32.toInt oF /\ Int32.toInt oF <= 60) (zG : ∀ k : Nat, -128 <= Int32.toInt (qO k) /\ Int32.toInt (qO k) <= 127) (zI : ∀ k : Nat, -128 <= Int32.toInt (qQ k) /\ Int32.toInt (qQ k) <= 127) (hpost : ∀ (aAm : Int32) (zH : Int32) (aIY : Nat -> Int32), (0 <= Int32.toInt aAm /\ Int32.toInt aAm <= 80) -> (-1 <= Int32.toInt zH /\ Int32.toInt zH <= 80) -> (∀ k : Nat, -1 <= Int32.toInt (aIY k) /\ Int32.toInt (aIY k) <= 255) -> (Int32.toInt aLe + 1 <= Int32.toInt aAm) -> (Int32.toInt aAm <= 61) -> post aAm zH aIY) (x1 x2 rP dQ : Int32) (wJ : Nat -> Int32) (aBK : 0 <= Int32.toInt x1 /\ Int32.toInt x1 <= 125) (aBN : -1 <= Int32.toInt x2 /\ Int32.toInt x2 <= 255) (aA1 : 0 <= Int32.toInt rP /\ Int32.toInt rP <= 80) (aAA : -1 <= Int32.toInt dQ /\ Int32.toInt dQ <= 80) (aB1 : ∀ k : Nat, -1 <= Int32.toInt (wJ k) /\ Int32.toInt (wJ k) <= 255) (hx0 : Int32.toInt rP <= 61) (hx1 : Int32.toInt aLe + 1 <= Int32.toInt rP) : aJ6 post jD mLn oF qO qQ x1 x2 rP dQ wJ := by
  have l0 := li_104
  have l1 := li_112
  refine And.intro (fun c11 => ?_) (fun c11 => ?_)
  · skip
    have c11 := (zJ _ _).mp c11
    exact ts_X10_readAct_109 jD mLn oF qO qQ yM zE aAR zG zI hpost x1 rP dQ wJ aBK aA1 aAA aB1 hx0 hx1
  · skip
    have c11 := mt (zJ _ _).mpr c11
    refine And.intro (fun c12 => ?_) (fun c12 => ?_)
    · skip
      have c12 := mt (zJ _ _).mpr c12
      exact hpost _ _ _ aA1 aAA aB1 (by omega) (by omega)
    · skip
      have c12 := (zJ _ _).mp c12
      exact ts_X10_readAct_109 jD mLn oF qO qQ yM zE aAR zG zI hpost x1 rP dQ wJ aBK aA1 aAA aB1 hx0 hx1
set_option maxHeartbeats 8000000 in
set_option maxRecDepth 200000 in
theorem bBN {post : Int32 -> Int32 -> (Nat -> Int32) -> Prop} {aLe : Int32} (jD : Nat) (mLn oF : Int32) (qO qQ : Nat -> Int32) (yM : jD = 1) (zE : 0 <= Int32.toInt mLn /\ Int32.toInt mLn <= 80) (aAR : 60 <= Int32.toInt oF /\ Int32.toInt oF <= 60) (zG : ∀ k : Nat, -128 <= Int32.toInt (qO k) /\ Int32.toInt (qO k) <= 127) (zI : ∀ k : Nat, -128 <= Int32.toInt (qQ k) /\ Int32.toInt (qQ k) <= 127) (hpost : ∀ (aAm : Int32) (zH : Int32) (aIY : Nat -> Int32), (0 <= Int32.toInt aAm /\ Int32.toInt aAm <= 80) -> (-1 <= Int32.toInt zH /\ Int32.toInt zH <= 80) -> (∀ k : Nat, -1 <= Int32.toInt (aIY k) /\ Int32.toInt (aIY k) <= 255) -> (Int32.toInt aLe + 1 <= Int32.toInt aAm) -> (Int32.toInt aAm <= 61) -> post aAm zH aIY) (x1 x2 rP dQ : Int32) (wJ : Nat -> Int32) (aBK : 0 <= Int32.toInt x1 /\ Int32.toInt x1 <= 125) (aBN : -1 <= Int32.toInt x2 /\ Int32.toInt x2 <= 255) (aA1 : 0 <= Int32.toInt rP /\ Int32.toInt rP <= 80) (aAA : -1 <= Int32.toInt dQ /\ Int32.toInt dQ <= 80) (aB1 : ∀ k : Nat, -1 <= Int32.toInt (wJ k) /\ Int32.toInt (wJ k) <= 255) (hx0 : Int32.toInt rP <= 60) (hx1 : Int32.toInt aLe <= Int32.toInt rP) : aJJ post jD mLn oF qO qQ x1 x2 rP dQ wJ := by
  have l0 := aEc
  have l1 := li_109
  intro v13 ev13
  have f14 : Int32.toInt (rP + 1) = Int32.toInt rP + Int32.toInt (1 : Int32) := aAD _ _ (by omega)
  rw [<- ev13] at f14
  refine And.intro (aBZ (by omega)) ?_
  have a15 : ∀ k : Nat, -1 <= Int32.toInt ((upd wJ x1.toNatClampNeg x2) k) /\ Int32.toInt ((upd wJ x1.toNatClampNeg x2) k) <= 255 := t_upd (fun k => by have q9 := aB1 k; omega) (by omega)
  refine And.intro (fun c16 => ?_) (fun c16 => ?_)
  · skip
    have c16 := mt (zJ _ _).mpr c16
    exact ts_X10_readAct_97 jD mLn oF qO qQ yM zE aAR zG zI hpost x1 x2 v13 dQ (upd wJ x1.toNatClampNeg x2) aBK aBN (by omega) aAA (fun k => by have q9 := a15 k; omega) (by omega) (by omega)
  · skip
    have c16 := (zJ _ _).mp c16
    intro v17 ev17
    have f18 : Int32.toInt (x1 + 1) = Int32.toInt x1 + Int32.toInt (1 : Int32) := aAD _ _ (by omega)
    rw [<- ev17] at f18
    refine aXA (by omega) (by first | exact yM | exact Or.inl rfl | exact Or.inr rfl | omega) zE (by omega) (by omega) aAA zG zI (by omega) (fun r21 m_at_19 m_wrong_20 h_r21 h_m_at_19 h_m_wrong_20 ox22 ox23 ox24 ox25 => ?_)
    refine And.intro (aBZ (by omega)) ?_
    have a26 : ∀ k : Nat, -1 <= Int32.toInt ((upd (upd wJ x1.toNatClampNeg x2) v17.toNatClampNeg r21) k) /\ Int32.toInt ((upd (upd wJ x1.toNatClampNeg x2) v17.toNatClampNeg r21) k) <= 255 := t_upd (fun k => by have q9 := a15 k; omega) (by omega)
    exact ts_X10_readAct_97 jD mLn oF qO qQ yM zE aAR zG zI hpost x1 x2 m_at_19 m_wrong_20 (upd (upd wJ x1.toNatClampNeg x2) v17.toNatClampNeg r21) aBK aBN h_m_at_19 h_m_wrong_20 (fun k => by have q9 := a26 k; omega) (by omega) (by omega)
set_option maxHeartbeats 8000000 in
set_option maxRecDepth 200000 in
theorem t_X10_readAct {post : Int32 -> Int32 -> (Nat -> Int32) -> Prop} {p0 : Int32} {jD : Nat} {mLn oF rP dQ : Int32} {qO qQ wJ : Nat -> Int32} (h_p0 : 0 <= Int32.toInt p0 /\ Int32.toInt p0 <= 125) (yM : jD = 1) (zE : 0 <= Int32.toInt mLn /\ Int32.toInt mLn <= 80) (aAR : 60 <= Int32.toInt oF /\ Int32.toInt oF <= 60) (aA1 : 0 <= Int32.toInt rP /\ Int32.toInt rP <= 80) (aAA : -1 <= Int32.toInt dQ /\ Int32.toInt dQ <= -1) (zG : ∀ k : Nat, -128 <= Int32.toInt (qO k) /\ Int32.toInt (qO k) <= 127) (zI : ∀ k : Nat, -128 <= Int32.toInt (qQ k) /\ Int32.toInt (qQ k) <= 127) (aB1 : ∀ k : Nat, -1 <= Int32.toInt (wJ k) /\ Int32.toInt (wJ k) <= 255) (hx0 : Int32.toInt rP <= 60) (hpost : ∀ (aAm : Int32) (zH : Int32) (aIY : Nat -> Int32), (0 <= Int32.toInt aAm /\ Int32.toInt aAm <= 80) -> (-1 <= Int32.toInt zH /\ Int32.toInt zH <= 80) -> (∀ k : Nat, -1 <= Int32.toInt (aIY k) /\ Int32.toInt (aIY k) <= 255) -> (Int32.toInt rP + 1 <= Int32.toInt aAm) -> (Int32.toInt aAm <= 61) -> post aAm zH aIY) : wp_X10_readAct post p0 jD mLn oF rP dQ qO qQ wJ := by
  have l0 := aI2
  have l1 := li_100
  have l2 := li_104
  have l3 := li_107
  have l4 := li_109
  have l5 := li_111
  have l6 := li_112
  have l7 := li_122
  have l8 := li_97
  refine aOq (by first | exact yM | exact Or.inl rfl | exact Or.inr rfl | omega) zE (by omega) aA1 zG zI (by omega) (fun r27 h_r27 ox28 ox29 => ?_)
  refine And.intro (fun c30 => ?_) (fun c30 => ?_)
  · skip
    have c30 := (zJ _ _).mp c30
    exact bBN jD mLn oF qO qQ yM zE aAR zG zI hpost p0 r27 rP dQ wJ h_p0 h_r27 aA1 (by omega) aB1 (by omega) (by omega)
  · skip
    have c30 := mt (zJ _ _).mpr c30
    refine And.intro (fun c31 => ?_) (fun c31 => ?_)
    · skip
      have c31 := (zJ _ _).mp c31
      exact bBN jD mLn oF qO qQ yM zE aAR zG zI hpost p0 r27 rP dQ wJ h_p0 h_r27 aA1 (by omega) aB1 (by omega) (by omega)
    · skip
      have c31 := mt (zJ _ _).mpr c31
      refine And.intro (fun c32 => ?_) (fun c32 => ?_)
      · skip
        have c32 := (zJ _ _).mp c32
        exact bBN jD mLn oF qO qQ yM zE aAR zG zI hpost p0 r27 rP dQ wJ h_p0 h_r27 aA1 (by omega) aB1 (by omega) (by omega)
      · skip
        have c32 := mt (zJ _ _).mpr c32
        refine And.intro (fun c33 => ?_) (fun c33 => ?_)
        · skip
          have c33 := (zJ _ _).mp c33
          exact bBN jD mLn oF qO qQ yM zE aAR zG zI hpost p0 r27 rP dQ wJ h_p0 h_r27 aA1 (by omega) aB1 (by omega) (by omega)
        · skip
          have c33 := mt (zJ _ _).mpr c33
          refine And.intro (fun c34 => ?_) (fun c34 => ?_)
          · skip
            have c34 := (zJ _ _).mp c34
            exact bBN jD mLn oF qO qQ yM zE aAR zG zI hpost p0 r27 rP dQ wJ h_p0 h_r27 aA1 (by omega) aB1 (by omega) (by omega)
          · skip
            have c34 := mt (zJ _ _).mpr c34
            refine And.intro (fun c35 => ?_) (fun c35 => ?_)
            · skip
              have c35 := (zJ _ _).mp c35
              exact bBN jD mLn oF qO qQ yM zE aAR zG zI hpost p0 r27 rP dQ wJ h_p0 h_r27 aA1 (by omega) aB1 (by omega) (by omega)
            · skip
              have c35 := mt (zJ _ _).mpr c35
              refine And.intro (fun c36 => ?_) (fun c36 => ?_)
              · skip
                have c36 := (zJ _ _).mp c36
                exact bBN jD mLn oF qO qQ yM zE aAR zG zI hpost p0 r27 rP dQ wJ h_p0 h_r27 aA1 (by omega) aB1 (by omega) (by omega)
              · skip
                have c36 := mt (zJ _ _).mpr c36
                refine And.intro (fun c37 => ?_) (fun c37 => ?_)
                · skip
                  have c37 := (zJ _ _).mp c37
                  exact bBN jD mLn oF qO qQ yM zE aAR zG zI hpost p0 r27 rP dQ wJ h_p0 h_r27 aA1 (by omega) aB1 (by omega) (by omega)
                · skip
                  have c37 := mt (zJ _ _).mpr c37
                  refine And.intro (fun c38 => ?_) (fun c38 => ?_)
                  · skip
                    have c38 := mt (zJ _ _).mpr c38
                    exfalso; omega
                  · skip
                    have c38 := (zJ _ _).mp c38
                    refine And.intro (fun h9 => absurd h9 (by decide)) (fun _ => ?_)
                    exact bBN jD mLn oF qO qQ yM zE aAR zG zI hpost p0 r27 rP rP wJ h_p0 h_r27 aA1 (by omega) aB1 (by omega) (by omega)
set_option maxHeartbeats 8000000 in
set_option maxRecDepth 200000 in
theorem ts_X10_lay_b2_2 {post : (Nat -> Int32) -> Prop} {SB : Int} {next : Int32 -> Int32 -> (Nat -> Int32) -> Prop} {n2 : Int} (qG : Nat -> Int32) (xU : ∀ k : Nat, k = 17 -> -1 <= Int32.toInt (qG k) /\ Int32.toInt (qG k) <= SB) (xV : ∀ k : Nat, k = 19 -> 0 <= Int32.toInt (qG k) /\ Int32.toInt (qG k) <= 9) (hc0 : -1 <= SB /\ SB <= 7) (hpost : ∀ (aDy : Nat -> Int32), (∀ k : Nat, k = 17 -> -1 <= Int32.toInt (aDy k) /\ Int32.toInt (aDy k) <= SB) -> (∀ k : Nat, k = 19 -> 0 <= Int32.toInt (aDy k) /\ Int32.toInt (aDy k) <= 9) -> post aDy) (hKn : ∀ (x2 : Int32) (x3 : Int32) (vF : Nat -> Int32), (0 <= Int32.toInt x2 /\ Int32.toInt x2 <= 0) -> (0 <= Int32.toInt x3 /\ Int32.toInt x3 <= 21) -> (∀ k : Nat, k = 17 -> -1 <= Int32.toInt (vF k) /\ Int32.toInt (vF k) <= SB) -> (∀ k : Nat, k = 19 -> 0 <= Int32.toInt (vF k) /\ Int32.toInt (vF k) <= 9) -> (Int32.toInt x2 % 21 = 0) -> (21 - Int32.toInt x3 < n2) -> next x2 x3 vF) (x2 x3 : Int32) (vF : Nat -> Int32) (aBN : 0 <= Int32.toInt x2 /\ Int32.toInt x2 <= 0) (aCH : 0 <= Int32.toInt x3 /\ Int32.toInt x3 <= 21) (aBP : ∀ k : Nat, k = 17 -> -1 <= Int32.toInt (vF k) /\ Int32.toInt (vF k) <= SB) (aBQ : ∀ k : Nat, k = 19 -> 0 <= Int32.toInt (vF k) /\ Int32.toInt (vF k) <= 9) (hx0 : Int32.toInt x2 % 21 = 0) (hn2 : 21 - Int32.toInt x3 <= n2) : ws_X10_lay_b2_2 post next qG x2 x3 vF := by
  have l0 := aEc
  have l1 := li_21
  refine And.intro (fun c1 => ?_) (fun c1 => ?_)
  · skip
    have c1 := (aAO _ _).mp c1
    exact hpost _ aBP aBQ
  · skip
    have c1 := mt (aAO _ _).mpr c1
    intro v2 ev2
    have f3 : Int32.toInt (x2 + x3) = Int32.toInt x2 + Int32.toInt x3 := aAD _ _ (by omega)
    rw [<- ev2] at f3
    refine And.intro (aBZ (by omega)) ?_
    have q4 := xU x3.toNatClampNeg
    have q5 := xV x3.toNatClampNeg
    have q6 : x3.toNatClampNeg = (Int32.toInt x3).toNat := rfl
    intro v7 ev7
    have hv7 := congrArg Int32.toInt ev7
    refine And.intro (aBZ (by omega)) ?_
    have f10 := aAT v7
    have e9 : ∀ k : Nat, k = 17 -> -1 <= Int32.toInt ((upd vF v2.toNatClampNeg v7) k) /\ Int32.toInt ((upd vF v2.toNatClampNeg v7) k) <= SB := aCJ (C := fun k => k = 17) aBP (fun hk => by have e9 : v2.toNatClampNeg = (Int32.toInt v2).toNat := rfl; have hk : v2.toNatClampNeg = 17 := hk; omega)
    have e11 : ∀ k : Nat, k = 19 -> 0 <= Int32.toInt ((upd vF v2.toNatClampNeg v7) k) /\ Int32.toInt ((upd vF v2.toNatClampNeg v7) k) <= 9 := aCJ (C := fun k => k = 19) aBQ (fun hk => by have e9 : v2.toNatClampNeg = (Int32.toInt v2).toNat := rfl; have hk : v2.toNatClampNeg = 19 := hk; omega)
    intro v12 ev12
    have f13 : Int32.toInt (x3 + 1) = Int32.toInt x3 + Int32.toInt (1 : Int32) := aAD _ _ (by omega)
    rw [<- ev12] at f13
    exact hKn x2 v12 (upd vF v2.toNatClampNeg v7) aBN (by omega) e9 e11 hx0 (by omega)
set_option maxHeartbeats 8000000 in
set_option maxRecDepth 200000 in
theorem tb_X10_lay_b2_2 {post : (Nat -> Int32) -> Prop} {SB : Int} (qG : Nat -> Int32) (xU : ∀ k : Nat, k = 17 -> -1 <= Int32.toInt (qG k) /\ Int32.toInt (qG k) <= SB) (xV : ∀ k : Nat, k = 19 -> 0 <= Int32.toInt (qG k) /\ Int32.toInt (qG k) <= 9) (hc0 : -1 <= SB /\ SB <= 7) (hpost : ∀ (aDy : Nat -> Int32), (∀ k : Nat, k = 17 -> -1 <= Int32.toInt (aDy k) /\ Int32.toInt (aDy k) <= SB) -> (∀ k : Nat, k = 19 -> 0 <= Int32.toInt (aDy k) /\ Int32.toInt (aDy k) <= 9) -> post aDy) : ∀ (n : Nat) (x2 x3 : Int32) (vF : Nat -> Int32), (0 <= Int32.toInt x2 /\ Int32.toInt x2 <= 0) -> (0 <= Int32.toInt x3 /\ Int32.toInt x3 <= 21) -> (∀ k : Nat, k = 17 -> -1 <= Int32.toInt (vF k) /\ Int32.toInt (vF k) <= SB) -> (∀ k : Nat, k = 19 -> 0 <= Int32.toInt (vF k) /\ Int32.toInt (vF k) <= 9) -> (Int32.toInt x2 % 21 = 0) -> (21 - Int32.toInt x3 < (n : Int)) -> wb_X10_lay_b2_2 post qG n x2 x3 vF := by
  intro n
  induction n with
  | zero =>
    intro x2 x3 vF aBN aCH aBP aBQ hx0 hm
    exfalso; omega
  | succ n ih =>
    intro x2 x3 vF aBN aCH aBP aBQ hx0 hm
    exact ts_X10_lay_b2_2 qG xU xV hc0 hpost ih x2 x3 vF aBN aCH aBP aBQ hx0 (by omega)
set_option maxHeartbeats 8000000 in
set_option maxRecDepth 200000 in
theorem t_X10_lay_b2 {post : (Nat -> Int32) -> Prop} {SB : Int} {p2 : Int32} {qG vF : Nat -> Int32} (h_p2 : 0 <= Int32.toInt p2 /\ Int32.toInt p2 <= 0) (xU : ∀ k : Nat, k = 17 -> -1 <= Int32.toInt (qG k) /\ Int32.toInt (qG k) <= SB) (xV : ∀ k : Nat, k = 19 -> 0 <= Int32.toInt (qG k) /\ Int32.toInt (qG k) <= 9) (aBP : ∀ k : Nat, k = 17 -> -1 <= Int32.toInt (vF k) /\ Int32.toInt (vF k) <= SB) (aBQ : ∀ k : Nat, k = 19 -> 0 <= Int32.toInt (vF k) /\ Int32.toInt (vF k) <= 9) (hc0 : -1 <= SB /\ SB <= 7) (hx0 : Int32.toInt p2 % 21 = 0) (hpost : ∀ (aDy : Nat -> Int32), (∀ k : Nat, k = 17 -> -1 <= Int32.toInt (aDy k) /\ Int32.toInt (aDy k) <= SB) -> (∀ k : Nat, k = 19 -> 0 <= Int32.toInt (aDy k) /\ Int32.toInt (aDy k) <= 9) -> post aDy) : wp_X10_lay_b2 post p2 qG vF := by
  have l0 := aE0
  exact ⟨23, tb_X10_lay_b2_2 qG xU xV hc0 hpost _ p2 0 vF h_p2 (by omega) aBP aBQ (by omega) (by omega)⟩
set_option maxHeartbeats 8000000 in
set_option maxRecDepth 200000 in
theorem ts_X10_act_109 {post : Int32 -> Nat -> Int32 -> Int32 -> Int32 -> Int32 -> Int32 -> Int32 -> Int32 -> Int32 -> Int32 -> Int32 -> (Nat -> Int32) -> Prop} {SB : Int} (bT aG bW : Int32) (m_x gR pW qR nG oO pJ qO qQ : Nat -> Int32) (xJ : 0 <= Int32.toInt bT /\ Int32.toInt bT <= 16) (vZ : 0 <= Int32.toInt aG /\ Int32.toInt aG <= 8) (zQ : 0 <= Int32.toInt bW /\ Int32.toInt bW <= 40) (aAW : ∀ k : Nat, 0 <= Int32.toInt (m_x k) /\ Int32.toInt (m_x k) <= 99) (xK : ∀ k : Nat, 0 <= Int32.toInt (gR k) /\ Int32.toInt (gR k) <= 99) (yR : ∀ k : Nat, 0 <= Int32.toInt (pW k) /\ Int32.toInt (pW k) <= 9) (zM : ∀ k : Nat, 0 <= Int32.toInt (qR k) /\ Int32.toInt (qR k) <= 9) (xT : ∀ k : Nat, 0 <= Int32.toInt (nG k) /\ Int32.toInt (nG k) <= 99) (yF : ∀ k : Nat, 0 <= Int32.toInt (oO k) /\ Int32.toInt (oO k) <= 99) (yD : ∀ k : Nat, k = 4 -> 1 <= Int32.toInt (pJ k) /\ Int32.toInt (pJ k) <= 30) (xZ : ∀ k : Nat, k = 3 -> 0 <= Int32.toInt (pJ k) /\ Int32.toInt (pJ k) <= 9) (zG : ∀ k : Nat, -128 <= Int32.toInt (qO k) /\ Int32.toInt (qO k) <= 127) (zI : ∀ k : Nat, -128 <= Int32.toInt (qQ k) /\ Int32.toInt (qQ k) <= 127) (hc0 : -1 <= SB /\ SB <= 7) (hc1 : (Int32.toInt aG <= 0 /\ SB = 0) \/ (1 <= Int32.toInt aG /\ SB = Int32.toInt aG - 1)) (hpost : ∀ (r : Int32) (aAP : Nat) (zS : Int32) (aAz : Int32) (aAm : Int32) (zH : Int32) (aAM : Int32) (zP : Int32) (yO : Int32) (zZ : Int32) (zO : Int32) (aMk : Int32) (aBf : Nat -> Int32), (0 <= Int32.toInt r /\ Int32.toInt r <= 1) -> (aAP = 0 \/ aAP = 1 \/ aAP = 2) -> (0 <= Int32.toInt zS /\ Int32.toInt zS <= 80) -> (0 <= Int32.toInt aAz /\ Int32.toInt aAz <= 80) -> (0 <= Int32.toInt aAm /\ Int32.toInt aAm <= 80) -> (-1 <= Int32.toInt zH /\ Int32.toInt zH <= 80) -> (0 <= Int32.toInt aAM /\ Int32.toInt aAM <= 0) -> (0 <= Int32.toInt zP /\ Int32.toInt zP <= 15) -> (0 <= Int32.toInt yO /\ Int32.toInt yO <= 7) -> (0 <= Int32.toInt zZ /\ Int32.toInt zZ <= 1) -> (0 <= Int32.toInt zO /\ Int32.toInt zO <= 63) -> (∀ k : Nat, k = 17 -> -1 <= Int32.toInt (aBf k) /\ Int32.toInt (aBf k) <= SB) -> (∀ k : Nat, k = 19 -> 0 <= Int32.toInt (aBf k) /\ Int32.toInt (aBf k) <= 9) -> post r aAP zS aAz aAm zH aAM zP yO zZ zO aMk aBf) (x2 k0 : Int32) (jD : Nat) (mLn oF rP dQ bZ aR aE bI aW fJ : Int32) (qG : Nat -> Int32) (aBN : -1 <= Int32.toInt x2 /\ Int32.toInt x2 <= 255) (h_k0 : 0 <= Int32.toInt k0 /\ Int32.toInt k0 <= 1) (yM : jD = 0 \/ jD = 1 \/ jD = 2) (zE : 0 <= Int32.toInt mLn /\ Int32.toInt mLn <= 80) (aAR : 0 <= Int32.toInt oF /\ Int32.toInt oF <= 80) (aA1 : 0 <= Int32.toInt rP /\ Int32.toInt rP <= 80) (aAA : -1 <= Int32.toInt dQ /\ Int32.toInt dQ <= 80) (zT : 0 <= Int32.toInt bZ /\ Int32.toInt bZ <= 0) (yL : 0 <= Int32.toInt aR /\ Int32.toInt aR <= 15) (xQ : 0 <= Int32.toInt aE /\ Int32.toInt aE <= 7) (yY : 0 <= Int32.toInt bI /\ Int32.toInt bI <= 1) (yK : 0 <= Int32.toInt aW /\ Int32.toInt aW <= 63) (xU : ∀ k : Nat, k = 17 -> -1 <= Int32.toInt (qG k) /\ Int32.toInt (qG k) <= SB) (xV : ∀ k : Nat, k = 19 -> 0 <= Int32.toInt (qG k) /\ Int32.toInt (qG k) <= 9) : ws_X10_act_109 post bT aG bW m_x gR pW qR nG oO pJ qO qQ x2 k0 jD mLn oF rP dQ bZ aR aE bI aW fJ qG := by
  have l0 := aI2
  have l1 := aE0
  have l2 := aEc
  have l3 := aKH
  have l4 := li_16
  have l5 := li_17
  have l6 := li_18
  have l7 := li_19
  have l8 := li_2
  have l9 := li_20
  have l10 := aJ8
  have l11 := li_4
  have l12 := li_63
  have l13 := aJ9
  have l14 := li_9999
  intro v1 ev1
  have f2 : Int32.toInt (bT - 1) = Int32.toInt bT - Int32.toInt (1 : Int32) := aCA _ _ (by omega)
  rw [<- ev1] at f2
  refine And.intro (fun c3 => ?_) (fun c3 => ?_)
  · skip
    have c3 := (aAd _ _).mp c3
    refine And.intro (aHE (by omega)) ?_
    refine And.intro (fun _ => ?_) (fun h9 => absurd h9 (by decide))
    refine And.intro (fun h9 => absurd h9 (by decide)) (fun _ => ?_)
    exact hpost _ _ _ _ _ _ _ _ _ _ _ _ _ (by omega) yM zE aAR aA1 aAA zT yL xQ yY yK xU xV
  · skip
    have c3 := mt (aAd _ _).mpr c3
    refine And.intro (fun c4 => ?_) (fun c4 => ?_)
    · skip
      have c4 := (aAd _ _).mp c4
      refine And.intro (aHE (by omega)) ?_
      refine And.intro (fun _ => ?_) (fun h9 => absurd h9 (by decide))
      refine And.intro (fun h9 => absurd h9 (by decide)) (fun _ => ?_)
      exact hpost _ _ _ _ _ _ _ _ _ _ _ _ _ (by omega) yM zE aAR aA1 aAA zT yL xQ yY yK xU xV
    · skip
      have c4 := mt (aAd _ _).mpr c4
      refine And.intro (aHE (by omega)) ?_
      refine And.intro (fun h9 => absurd h9 (by decide)) (fun _ => ?_)
      refine And.intro (fun c5 => ?_) (fun c5 => ?_)
      · skip
        have c5 := (aAd _ _).mp c5
        exfalso; omega
      · skip
        have c5 := mt (aAd _ _).mpr c5
        refine And.intro (fun c6 => ?_) (fun c6 => ?_)
        · skip
          have c6 := (aAd _ _).mp c6
          exfalso; omega
        · skip
          have c6 := mt (aAd _ _).mpr c6
          refine And.intro (fun _ => ?_) (fun h9 => absurd h9 (by decide))
          refine And.intro (aBZ (by omega)) ?_
          refine And.intro (fun c7 => ?_) (fun c7 => ?_)
          · skip
            have c7 := (zJ _ _).mp c7
            refine And.intro (aBZ (by omega)) ?_
            intro v9 ev9
            have f10 := zM x2.toNatClampNeg
            have hv9 := congrArg Int32.toInt ev9
            have q11 := xV (19 : Int32).toNatClampNeg (by have e9 : (19 : Int32).toNatClampNeg = (Int32.toInt (19 : Int32)).toNat := rfl; omega)
            refine And.intro (fun c12 => ?_) (fun c12 => ?_)
            · skip
              have c12 := (aAO _ _).mp c12
              have q14 := xU (17 : Int32).toNatClampNeg (by have e9 : (17 : Int32).toNatClampNeg = (Int32.toInt (17 : Int32)).toNat := rfl; omega)
              intro v15 ev15
              have hv15 := congrArg Int32.toInt ev15
              refine And.intro (fun c17 => ?_) (fun c17 => ?_)
              · skip
                have c17 := (zJ _ _).mp c17
                refine And.intro (fun h9 => absurd h9 (by decide)) (fun _ => ?_)
                exact hpost _ _ _ _ _ _ _ _ _ _ _ _ _ (by omega) yM zE aAR aA1 aAA zT yL xQ yY yK xU xV
              · skip
                have c17 := mt (zJ _ _).mpr c17
                have q18 := xU (17 : Int32).toNatClampNeg (by have e9 : (17 : Int32).toNatClampNeg = (Int32.toInt (17 : Int32)).toNat := rfl; omega)
                intro v19 ev19
                have hv19 := congrArg Int32.toInt ev19
                intro v20 ev20
                have hv20 := congrArg Int32.toInt ev20
                intro v22 ev22
                have hv22 := congrArg Int32.toInt ev22
                intro v24 ev24
                have hv24 := congrArg Int32.toInt ev24
                refine And.intro (aBZ (by omega)) ?_
                intro v26 ev26
                have f27 := aAW x2.toNatClampNeg
                have hv26 := congrArg Int32.toInt ev26
                refine And.intro (aBZ (by omega)) ?_
                intro v28 ev28
                have f30 := xT v19.toNatClampNeg
                have f29 : Int32.toInt (v26 - (nG v19.toNatClampNeg)) = Int32.toInt v26 - Int32.toInt (nG v19.toNatClampNeg) := aCA _ _ (by omega)
                rw [<- ev28] at f29
                intro v31 ev31
                have f32 := ti_abs v28 (by omega)
                have hv31 := congrArg Int32.toInt ev31
                refine And.intro (aBZ (by omega)) ?_
                intro v33 ev33
                have hv33 := congrArg Int32.toInt ev33
                refine And.intro (aBZ (by omega)) ?_
                intro v34 ev34
                have f35 : Int32.toInt (v33 - (nG v19.toNatClampNeg)) = Int32.toInt v33 - Int32.toInt (nG v19.toNatClampNeg) := aCA _ _ (by omega)
                rw [<- ev34] at f35
                intro v36 ev36
                have f37 := ti_abs v34 (by omega)
                have hv36 := congrArg Int32.toInt ev36
                intro v38 ev38
                have hv38 := congrArg Int32.toInt ev38
                refine And.intro (aBZ (by omega)) ?_
                intro v40 ev40
                have f41 := xK x2.toNatClampNeg
                have hv40 := congrArg Int32.toInt ev40
                refine And.intro (aBZ (by omega)) ?_
                intro v42 ev42
                have f44 := yF v19.toNatClampNeg
                have f43 : Int32.toInt (v40 - (oO v19.toNatClampNeg)) = Int32.toInt v40 - Int32.toInt (oO v19.toNatClampNeg) := aCA _ _ (by omega)
                rw [<- ev42] at f43
                intro v45 ev45
                have f46 := ti_max (0 : Int32) v42
                have hv45 := congrArg Int32.toInt ev45
                refine And.intro (aBZ (by omega)) ?_
                intro v47 ev47
                have hv47 := congrArg Int32.toInt ev47
                refine And.intro (aBZ (by omega)) ?_
                intro v48 ev48
                have f49 : Int32.toInt (v47 - (oO v19.toNatClampNeg)) = Int32.toInt v47 - Int32.toInt (oO v19.toNatClampNeg) := aCA _ _ (by omega)
                rw [<- ev48] at f49
                intro v50 ev50
                have f51 := ti_max (0 : Int32) v48
                have hv50 := congrArg Int32.toInt ev50
                intro v52 ev52
                have hv52 := congrArg Int32.toInt ev52
                have f55 := aAT v52
                refine And.intro (fun c54 => ?_) (fun c54 => ?_)
                · skip
                  have c54 := (aAd _ _).mp c54
                  refine And.intro (fun h9 => absurd h9 (by decide)) (fun _ => ?_)
                  refine And.intro (fun h9 => absurd h9 (by decide)) (fun _ => ?_)
                  exact hpost _ _ _ _ _ _ _ _ _ _ _ _ _ (by omega) yM zE aAR aA1 aAA zT yL xQ yY yK xU xV
                · skip
                  have c54 := mt (aAd _ _).mpr c54
                  refine And.intro (fun _ => ?_) (fun h9 => absurd h9 (by decide))
                  refine aKO (by omega) xJ xU xV (by omega) (fun r57 h_r57 ox58 => ?_)
                  intro v59 ev59
                  intro v60 ev60
                  have f62 := aAQ v59 1431655765 (by omega)
                  have f61 : Int32.toInt (r57 - (v59 &&& 1431655765)) = Int32.toInt r57 - Int32.toInt (v59 &&& 1431655765) := aCA _ _ (by omega)
                  rw [<- ev60] at f61
                  intro v63 ev63
                  have f64 := aAQ v60 858993459 (by omega)
                  have hv63 := congrArg Int32.toInt ev63
                  intro v65 ev65
                  intro v66 ev66
                  have f68 := aAQ v65 858993459 (by omega)
                  have f67 : Int32.toInt (v63 + (v65 &&& 858993459)) = Int32.toInt v63 + Int32.toInt (v65 &&& 858993459) := aAD _ _ (by omega)
                  rw [<- ev66] at f67
                  intro v69 ev69
                  have hv69 := congrArg Int32.toInt ev69
                  intro v71 ev71
                  have f72 := aAQ v69 252645135 (by omega)
                  have hv71 := congrArg Int32.toInt ev71
                  intro v73 ev73
                  have hv73 := congrArg Int32.toInt ev73
                  intro v75 ev75
                  have hv75 := congrArg Int32.toInt ev75
                  have q77 := yD (4 : Int32).toNatClampNeg (by have e9 : (4 : Int32).toNatClampNeg = (Int32.toInt (4 : Int32)).toNat := rfl; omega)
                  have f79 := aAQ v75 63 (by omega)
                  refine And.intro (fun c78 => ?_) (fun c78 => ?_)
                  · skip
                    have c78 := (aAd _ _).mp c78
                    refine And.intro (fun _ => ?_) (fun h9 => absurd h9 (by decide))
                    have q81 := xU (17 : Int32).toNatClampNeg (by have e9 : (17 : Int32).toNatClampNeg = (Int32.toInt (17 : Int32)).toNat := rfl; omega)
                    intro v82 ev82
                    have hv82 := congrArg Int32.toInt ev82
                    refine aKO (by omega) xJ xU xV (by omega) (fun r83 h_r83 ox84 => ?_)
                    intro v85 ev85
                    intro v86 ev86
                    have f88 := aAQ v85 1431655765 (by omega)
                    have f87 : Int32.toInt (r83 - (v85 &&& 1431655765)) = Int32.toInt r83 - Int32.toInt (v85 &&& 1431655765) := aCA _ _ (by omega)
                    rw [<- ev86] at f87
                    intro v89 ev89
                    have f90 := aAQ v86 858993459 (by omega)
                    have hv89 := congrArg Int32.toInt ev89
                    intro v91 ev91
                    intro v92 ev92
                    have f94 := aAQ v91 858993459 (by omega)
                    have f93 : Int32.toInt (v89 + (v91 &&& 858993459)) = Int32.toInt v89 + Int32.toInt (v91 &&& 858993459) := aAD _ _ (by omega)
                    rw [<- ev92] at f93
                    intro v95 ev95
                    have hv95 := congrArg Int32.toInt ev95
                    intro v97 ev97
                    have f98 := aAQ v95 252645135 (by omega)
                    have hv97 := congrArg Int32.toInt ev97
                    intro v99 ev99
                    have hv99 := congrArg Int32.toInt ev99
                    intro v101 ev101
                    have hv101 := congrArg Int32.toInt ev101
                    have f114 := aAQ v101 63 (by omega)
                    refine t_X10_secondsOf (by omega) (by omega) h_k0 (by omega) yM zE aAR aA1 aAA zQ zT yL xQ yY yK aAW xK yR xT yF zG zI (fun r113 m_read_103 m_length_104 m_top_105 m_at_106 m_wrong_107 m_isAsked_108 m_askedFruit_109 m_askedStanding_110 m_askedHook_111 m_askedApron_112 h_r113 h_m_read_103 h_m_length_104 h_m_top_105 h_m_at_106 h_m_wrong_107 h_m_isAsked_108 h_m_askedFruit_109 h_m_askedStanding_110 h_m_askedHook_111 h_m_askedApron_112 => ?_)
                    intro v115 ev115
                    have hv115 := congrArg Int32.toInt ev115
                    refine aKO (by omega) xJ xU xV (by omega) (fun r117 h_r117 ox118 => ?_)
                    refine t_X10_below (by omega) h_r117 xJ aAW xK (fun r119 h_r119 => ?_)
                    intro v120 ev120
                    have f122 := aAT v120
                    have e121 : ∀ k : Nat, k = 17 -> -1 <= Int32.toInt ((upd qG (16 : Int32).toNatClampNeg v120) k) /\ Int32.toInt ((upd qG (16 : Int32).toNatClampNeg v120) k) <= SB := aCJ (C := fun k => k = 17) xU (fun hk => by have e9 : (16 : Int32).toNatClampNeg = (Int32.toInt (16 : Int32)).toNat := rfl; have hk : (16 : Int32).toNatClampNeg = 17 := hk; omega)
                    have e123 : ∀ k : Nat, k = 19 -> 0 <= Int32.toInt ((upd qG (16 : Int32).toNatClampNeg v120) k) /\ Int32.toInt ((upd qG (16 : Int32).toNatClampNeg v120) k) <= 9 := aCJ (C := fun k => k = 19) xV (fun hk => by have e9 : (16 : Int32).toNatClampNeg = (Int32.toInt (16 : Int32)).toNat := rfl; have hk : (16 : Int32).toNatClampNeg = 19 := hk; omega)
                    refine And.intro (aBZ (by omega)) ?_
                    have e124 : ∀ k : Nat, k = 17 -> -1 <= Int32.toInt ((upd (upd qG (16 : Int32).toNatClampNeg v120) x2.toNatClampNeg 1) k) /\ Int32.toInt ((upd (upd qG (16 : Int32).toNatClampNeg v120) x2.toNatClampNeg 1) k) <= SB := aCJ (C := fun k => k = 17) e121 (fun hk => by have e9 : x2.toNatClampNeg = (Int32.toInt x2).toNat := rfl; have hk : x2.toNatClampNeg = 17 := hk; omega)
                    have e125 : ∀ k : Nat, k = 19 -> 0 <= Int32.toInt ((upd (upd qG (16 : Int32).toNatClampNeg v120) x2.toNatClampNeg 1) k) /\ Int32.toInt ((upd (upd qG (16 : Int32).toNatClampNeg v120) x2.toNatClampNeg 1) k) <= 9 := aCJ (C := fun k => k = 19) e123 (fun hk => by have e9 : x2.toNatClampNeg = (Int32.toInt x2).toNat := rfl; have hk : x2.toNatClampNeg = 19 := hk; omega)
                    intro v126 ev126
                    have hv126 := congrArg Int32.toInt ev126
                    intro v128 ev128
                    have hv128 := congrArg Int32.toInt ev128
                    intro v130 ev130
                    have f131 := aAT (if v128 < 9999 then v128 else 9999)
                    have f133 := aAT v128
                    have f132 := ti_min (9999 : Int32) v128
                    have hv130 := congrArg Int32.toInt ev130
                    have f135 := aAT v130
                    have e134 : ∀ k : Nat, k = 17 -> -1 <= Int32.toInt ((upd (upd (upd qG (16 : Int32).toNatClampNeg v120) x2.toNatClampNeg 1) (20 : Int32).toNatClampNeg v130) k) /\ Int32.toInt ((upd (upd (upd qG (16 : Int32).toNatClampNeg v120) x2.toNatClampNeg 1) (20 : Int32).toNatClampNeg v130) k) <= SB := aCJ (C := fun k => k = 17) e124 (fun hk => by have e9 : (20 : Int32).toNatClampNeg = (Int32.toInt (20 : Int32)).toNat := rfl; have hk : (20 : Int32).toNatClampNeg = 17 := hk; omega)
                    have e136 : ∀ k : Nat, k = 19 -> 0 <= Int32.toInt ((upd (upd (upd qG (16 : Int32).toNatClampNeg v120) x2.toNatClampNeg 1) (20 : Int32).toNatClampNeg v130) k) /\ Int32.toInt ((upd (upd (upd qG (16 : Int32).toNatClampNeg v120) x2.toNatClampNeg 1) (20 : Int32).toNatClampNeg v130) k) <= 9 := aCJ (C := fun k => k = 19) e125 (fun hk => by have e9 : (20 : Int32).toNatClampNeg = (Int32.toInt (20 : Int32)).toNat := rfl; have hk : (20 : Int32).toNatClampNeg = 19 := hk; omega)
                    intro v137 ev137
                    have hv137 := congrArg Int32.toInt ev137
                    exact hpost _ _ _ _ _ _ _ _ _ _ _ _ _ (by omega) h_m_read_103 h_m_length_104 h_m_top_105 h_m_at_106 h_m_wrong_107 h_m_isAsked_108 h_m_askedFruit_109 h_m_askedStanding_110 h_m_askedHook_111 h_m_askedApron_112 e134 e136
                  · skip
                    have c78 := mt (aAd _ _).mpr c78
                    refine And.intro (fun h9 => absurd h9 (by decide)) (fun _ => ?_)
                    exact hpost _ _ _ _ _ _ _ _ _ _ _ _ _ (by omega) yM zE aAR aA1 aAA zT yL xQ yY yK xU xV
            · skip
              have c12 := mt (aAO _ _).mpr c12
              refine And.intro (fun h9 => absurd h9 (by decide)) (fun _ => ?_)
              exact hpost _ _ _ _ _ _ _ _ _ _ _ _ _ (by omega) yM zE aAR aA1 aAA zT yL xQ yY yK xU xV
          · skip
            have c7 := mt (zJ _ _).mpr c7
            refine And.intro (fun h9 => absurd h9 (by decide)) (fun _ => ?_)
            exact hpost _ _ _ _ _ _ _ _ _ _ _ _ _ (by omega) yM zE aAR aA1 aAA zT yL xQ yY yK xU xV
set_option maxHeartbeats 8000000 in
set_option maxRecDepth 200000 in
theorem ts_X10_act_98 {post : Int32 -> Nat -> Int32 -> Int32 -> Int32 -> Int32 -> Int32 -> Int32 -> Int32 -> Int32 -> Int32 -> Int32 -> (Nat -> Int32) -> Prop} {SB : Int} (bT aG bW : Int32) (m_x gR pW qR nG oO pJ qO qQ : Nat -> Int32) (xJ : 0 <= Int32.toInt bT /\ Int32.toInt bT <= 16) (vZ : 0 <= Int32.toInt aG /\ Int32.toInt aG <= 8) (zQ : 0 <= Int32.toInt bW /\ Int32.toInt bW <= 40) (aAW : ∀ k : Nat, 0 <= Int32.toInt (m_x k) /\ Int32.toInt (m_x k) <= 99) (xK : ∀ k : Nat, 0 <= Int32.toInt (gR k) /\ Int32.toInt (gR k) <= 99) (yR : ∀ k : Nat, 0 <= Int32.toInt (pW k) /\ Int32.toInt (pW k) <= 9) (zM : ∀ k : Nat, 0 <= Int32.toInt (qR k) /\ Int32.toInt (qR k) <= 9) (xT : ∀ k : Nat, 0 <= Int32.toInt (nG k) /\ Int32.toInt (nG k) <= 99) (yF : ∀ k : Nat, 0 <= Int32.toInt (oO k) /\ Int32.toInt (oO k) <= 99) (yD : ∀ k : Nat, k = 4 -> 1 <= Int32.toInt (pJ k) /\ Int32.toInt (pJ k) <= 30) (xZ : ∀ k : Nat, k = 3 -> 0 <= Int32.toInt (pJ k) /\ Int32.toInt (pJ k) <= 9) (zG : ∀ k : Nat, -128 <= Int32.toInt (qO k) /\ Int32.toInt (qO k) <= 127) (zI : ∀ k : Nat, -128 <= Int32.toInt (qQ k) /\ Int32.toInt (qQ k) <= 127) (hc0 : -1 <= SB /\ SB <= 7) (hc1 : (Int32.toInt aG <= 0 /\ SB = 0) \/ (1 <= Int32.toInt aG /\ SB = Int32.toInt aG - 1)) (hpost : ∀ (r : Int32) (aAP : Nat) (zS : Int32) (aAz : Int32) (aAm : Int32) (zH : Int32) (aAM : Int32) (zP : Int32) (yO : Int32) (zZ : Int32) (zO : Int32) (aMk : Int32) (aBf : Nat -> Int32), (0 <= Int32.toInt r /\ Int32.toInt r <= 1) -> (aAP = 0 \/ aAP = 1 \/ aAP = 2) -> (0 <= Int32.toInt zS /\ Int32.toInt zS <= 80) -> (0 <= Int32.toInt aAz /\ Int32.toInt aAz <= 80) -> (0 <= Int32.toInt aAm /\ Int32.toInt aAm <= 80) -> (-1 <= Int32.toInt zH /\ Int32.toInt zH <= 80) -> (0 <= Int32.toInt aAM /\ Int32.toInt aAM <= 0) -> (0 <= Int32.toInt zP /\ Int32.toInt zP <= 15) -> (0 <= Int32.toInt yO /\ Int32.toInt yO <= 7) -> (0 <= Int32.toInt zZ /\ Int32.toInt zZ <= 1) -> (0 <= Int32.toInt zO /\ Int32.toInt zO <= 63) -> (∀ k : Nat, k = 17 -> -1 <= Int32.toInt (aBf k) /\ Int32.toInt (aBf k) <= SB) -> (∀ k : Nat, k = 19 -> 0 <= Int32.toInt (aBf k) /\ Int32.toInt (aBf k) <= 9) -> post r aAP zS aAz aAm zH aAM zP yO zZ zO aMk aBf) (x1 x2 : Int32) (jD : Nat) (mLn oF rP dQ bZ aR aE bI aW fJ : Int32) (qG : Nat -> Int32) (aBK : 104 <= Int32.toInt x1 /\ Int32.toInt x1 <= 112) (aBN : -1 <= Int32.toInt x2 /\ Int32.toInt x2 <= 255) (yM : jD = 0 \/ jD = 1 \/ jD = 2) (zE : 0 <= Int32.toInt mLn /\ Int32.toInt mLn <= 80) (aAR : 0 <= Int32.toInt oF /\ Int32.toInt oF <= 80) (aA1 : 0 <= Int32.toInt rP /\ Int32.toInt rP <= 80) (aAA : -1 <= Int32.toInt dQ /\ Int32.toInt dQ <= 80) (zT : 0 <= Int32.toInt bZ /\ Int32.toInt bZ <= 0) (yL : 0 <= Int32.toInt aR /\ Int32.toInt aR <= 15) (xQ : 0 <= Int32.toInt aE /\ Int32.toInt aE <= 7) (yY : 0 <= Int32.toInt bI /\ Int32.toInt bI <= 1) (yK : 0 <= Int32.toInt aW /\ Int32.toInt aW <= 63) (xU : ∀ k : Nat, k = 17 -> -1 <= Int32.toInt (qG k) /\ Int32.toInt (qG k) <= SB) (xV : ∀ k : Nat, k = 19 -> 0 <= Int32.toInt (qG k) /\ Int32.toInt (qG k) <= 9) : ws_X10_act_98 post bT aG bW m_x gR pW qR nG oO pJ qO qQ x1 x2 jD mLn oF rP dQ bZ aR aE bI aW fJ qG := by
  have l0 := aE0
  have l1 := aEc
  have l2 := li_104
  refine And.intro (fun c139 => ?_) (fun c139 => ?_)
  · skip
    have c139 := mt (zJ _ _).mpr c139
    have f140 := aAT fJ
    exact ts_X10_act_109 bT aG bW m_x gR pW qR nG oO pJ qO qQ xJ vZ zQ aAW xK yR zM xT yF yD xZ zG zI hc0 hc1 hpost x2 0 jD mLn oF rP dQ bZ aR aE bI aW fJ qG aBN (by omega) yM zE aAR aA1 aAA zT yL xQ yY yK xU xV
  · skip
    have c139 := (zJ _ _).mp c139
    have f141 := aAT fJ
    exact ts_X10_act_109 bT aG bW m_x gR pW qR nG oO pJ qO qQ xJ vZ zQ aAW xK yR zM xT yF yD xZ zG zI hc0 hc1 hpost x2 1 jD mLn oF rP dQ bZ aR aE bI aW fJ qG aBN (by omega) yM zE aAR aA1 aAA zT yL xQ yY yK xU xV
set_option maxHeartbeats 8000000 in
set_option maxRecDepth 200000 in
theorem ts_X10_act_193 {post : Int32 -> Nat -> Int32 -> Int32 -> Int32 -> Int32 -> Int32 -> Int32 -> Int32 -> Int32 -> Int32 -> Int32 -> (Nat -> Int32) -> Prop} {SB : Int} (bT aG bW : Int32) (m_x gR pW qR nG oO pJ qO qQ : Nat -> Int32) (xJ : 0 <= Int32.toInt bT /\ Int32.toInt bT <= 16) (vZ : 0 <= Int32.toInt aG /\ Int32.toInt aG <= 8) (zQ : 0 <= Int32.toInt bW /\ Int32.toInt bW <= 40) (aAW : ∀ k : Nat, 0 <= Int32.toInt (m_x k) /\ Int32.toInt (m_x k) <= 99) (xK : ∀ k : Nat, 0 <= Int32.toInt (gR k) /\ Int32.toInt (gR k) <= 99) (yR : ∀ k : Nat, 0 <= Int32.toInt (pW k) /\ Int32.toInt (pW k) <= 9) (zM : ∀ k : Nat, 0 <= Int32.toInt (qR k) /\ Int32.toInt (qR k) <= 9) (xT : ∀ k : Nat, 0 <= Int32.toInt (nG k) /\ Int32.toInt (nG k) <= 99) (yF : ∀ k : Nat, 0 <= Int32.toInt (oO k) /\ Int32.toInt (oO k) <= 99) (yD : ∀ k : Nat, k = 4 -> 1 <= Int32.toInt (pJ k) /\ Int32.toInt (pJ k) <= 30) (xZ : ∀ k : Nat, k = 3 -> 0 <= Int32.toInt (pJ k) /\ Int32.toInt (pJ k) <= 9) (zG : ∀ k : Nat, -128 <= Int32.toInt (qO k) /\ Int32.toInt (qO k) <= 127) (zI : ∀ k : Nat, -128 <= Int32.toInt (qQ k) /\ Int32.toInt (qQ k) <= 127) (hc0 : -1 <= SB /\ SB <= 7) (hc1 : (Int32.toInt aG <= 0 /\ SB = 0) \/ (1 <= Int32.toInt aG /\ SB = Int32.toInt aG - 1)) (hpost : ∀ (r : Int32) (aAP : Nat) (zS : Int32) (aAz : Int32) (aAm : Int32) (zH : Int32) (aAM : Int32) (zP : Int32) (yO : Int32) (zZ : Int32) (zO : Int32) (aMk : Int32) (aBf : Nat -> Int32), (0 <= Int32.toInt r /\ Int32.toInt r <= 1) -> (aAP = 0 \/ aAP = 1 \/ aAP = 2) -> (0 <= Int32.toInt zS /\ Int32.toInt zS <= 80) -> (0 <= Int32.toInt aAz /\ Int32.toInt aAz <= 80) -> (0 <= Int32.toInt aAm /\ Int32.toInt aAm <= 80) -> (-1 <= Int32.toInt zH /\ Int32.toInt zH <= 80) -> (0 <= Int32.toInt aAM /\ Int32.toInt aAM <= 0) -> (0 <= Int32.toInt zP /\ Int32.toInt zP <= 15) -> (0 <= Int32.toInt yO /\ Int32.toInt yO <= 7) -> (0 <= Int32.toInt zZ /\ Int32.toInt zZ <= 1) -> (0 <= Int32.toInt zO /\ Int32.toInt zO <= 63) -> (∀ k : Nat, k = 17 -> -1 <= Int32.toInt (aBf k) /\ Int32.toInt (aBf k) <= SB) -> (∀ k : Nat, k = 19 -> 0 <= Int32.toInt (aBf k) /\ Int32.toInt (aBf k) <= 9) -> post r aAP zS aAz aAm zH aAM zP yO zZ zO aMk aBf) (k1 k2 : Int32) (jD : Nat) (mLn oF rP dQ bZ aR aE bI aW fJ : Int32) (qG : Nat -> Int32) (h_k1 : 18 <= Int32.toInt k1 /\ Int32.toInt k1 <= 18) (h_k2 : 0 <= Int32.toInt k2 /\ Int32.toInt k2 <= 1) (yM : jD = 0 \/ jD = 1 \/ jD = 2) (zE : 0 <= Int32.toInt mLn /\ Int32.toInt mLn <= 80) (aAR : 0 <= Int32.toInt oF /\ Int32.toInt oF <= 80) (aA1 : 0 <= Int32.toInt rP /\ Int32.toInt rP <= 80) (aAA : -1 <= Int32.toInt dQ /\ Int32.toInt dQ <= 80) (zT : 0 <= Int32.toInt bZ /\ Int32.toInt bZ <= 0) (yL : 0 <= Int32.toInt aR /\ Int32.toInt aR <= 15) (xQ : 0 <= Int32.toInt aE /\ Int32.toInt aE <= 7) (yY : 0 <= Int32.toInt bI /\ Int32.toInt bI <= 1) (yK : 0 <= Int32.toInt aW /\ Int32.toInt aW <= 63) (xU : ∀ k : Nat, k = 17 -> -1 <= Int32.toInt (qG k) /\ Int32.toInt (qG k) <= SB) (xV : ∀ k : Nat, k = 19 -> 0 <= Int32.toInt (qG k) /\ Int32.toInt (qG k) <= 9) : ws_X10_act_193 post bT aG bW m_x gR pW qR nG oO pJ qO qQ k1 k2 jD mLn oF rP dQ bZ aR aE bI aW fJ qG := by
  have l0 := aEc
  refine And.intro (aBZ (by omega)) ?_
  have e142 : ∀ k : Nat, k = 17 -> -1 <= Int32.toInt ((upd qG k1.toNatClampNeg k2) k) /\ Int32.toInt ((upd qG k1.toNatClampNeg k2) k) <= SB := aCJ (C := fun k => k = 17) xU (fun hk => by have e9 : k1.toNatClampNeg = (Int32.toInt k1).toNat := rfl; have hk : k1.toNatClampNeg = 17 := hk; omega)
  have e143 : ∀ k : Nat, k = 19 -> 0 <= Int32.toInt ((upd qG k1.toNatClampNeg k2) k) /\ Int32.toInt ((upd qG k1.toNatClampNeg k2) k) <= 9 := aCJ (C := fun k => k = 19) xV (fun hk => by have e9 : k1.toNatClampNeg = (Int32.toInt k1).toNat := rfl; have hk : k1.toNatClampNeg = 19 := hk; omega)
  exact hpost _ _ _ _ _ _ _ _ _ _ _ _ _ (by omega) yM zE aAR aA1 aAA zT yL xQ yY yK e142 e143
set_option maxHeartbeats 8000000 in
set_option maxRecDepth 200000 in
theorem ts_X10_act_176 {post : Int32 -> Nat -> Int32 -> Int32 -> Int32 -> Int32 -> Int32 -> Int32 -> Int32 -> Int32 -> Int32 -> Int32 -> (Nat -> Int32) -> Prop} {SB : Int} (bT aG bW : Int32) (m_x gR pW qR nG oO pJ qO qQ : Nat -> Int32) (xJ : 0 <= Int32.toInt bT /\ Int32.toInt bT <= 16) (vZ : 0 <= Int32.toInt aG /\ Int32.toInt aG <= 8) (zQ : 0 <= Int32.toInt bW /\ Int32.toInt bW <= 40) (aAW : ∀ k : Nat, 0 <= Int32.toInt (m_x k) /\ Int32.toInt (m_x k) <= 99) (xK : ∀ k : Nat, 0 <= Int32.toInt (gR k) /\ Int32.toInt (gR k) <= 99) (yR : ∀ k : Nat, 0 <= Int32.toInt (pW k) /\ Int32.toInt (pW k) <= 9) (zM : ∀ k : Nat, 0 <= Int32.toInt (qR k) /\ Int32.toInt (qR k) <= 9) (xT : ∀ k : Nat, 0 <= Int32.toInt (nG k) /\ Int32.toInt (nG k) <= 99) (yF : ∀ k : Nat, 0 <= Int32.toInt (oO k) /\ Int32.toInt (oO k) <= 99) (yD : ∀ k : Nat, k = 4 -> 1 <= Int32.toInt (pJ k) /\ Int32.toInt (pJ k) <= 30) (xZ : ∀ k : Nat, k = 3 -> 0 <= Int32.toInt (pJ k) /\ Int32.toInt (pJ k) <= 9) (zG : ∀ k : Nat, -128 <= Int32.toInt (qO k) /\ Int32.toInt (qO k) <= 127) (zI : ∀ k : Nat, -128 <= Int32.toInt (qQ k) /\ Int32.toInt (qQ k) <= 127) (hc0 : -1 <= SB /\ SB <= 7) (hc1 : (Int32.toInt aG <= 0 /\ SB = 0) \/ (1 <= Int32.toInt aG /\ SB = Int32.toInt aG - 1)) (hpost : ∀ (r : Int32) (aAP : Nat) (zS : Int32) (aAz : Int32) (aAm : Int32) (zH : Int32) (aAM : Int32) (zP : Int32) (yO : Int32) (zZ : Int32) (zO : Int32) (aMk : Int32) (aBf : Nat -> Int32), (0 <= Int32.toInt r /\ Int32.toInt r <= 1) -> (aAP = 0 \/ aAP = 1 \/ aAP = 2) -> (0 <= Int32.toInt zS /\ Int32.toInt zS <= 80) -> (0 <= Int32.toInt aAz /\ Int32.toInt aAz <= 80) -> (0 <= Int32.toInt aAm /\ Int32.toInt aAm <= 80) -> (-1 <= Int32.toInt zH /\ Int32.toInt zH <= 80) -> (0 <= Int32.toInt aAM /\ Int32.toInt aAM <= 0) -> (0 <= Int32.toInt zP /\ Int32.toInt zP <= 15) -> (0 <= Int32.toInt yO /\ Int32.toInt yO <= 7) -> (0 <= Int32.toInt zZ /\ Int32.toInt zZ <= 1) -> (0 <= Int32.toInt zO /\ Int32.toInt zO <= 63) -> (∀ k : Nat, k = 17 -> -1 <= Int32.toInt (aBf k) /\ Int32.toInt (aBf k) <= SB) -> (∀ k : Nat, k = 19 -> 0 <= Int32.toInt (aBf k) /\ Int32.toInt (aBf k) <= 9) -> post r aAP zS aAz aAm zH aAM zP yO zZ zO aMk aBf) (x1 : Int32) (jD : Nat) (mLn oF rP dQ bZ aR aE bI aW fJ : Int32) (qG : Nat -> Int32) (aBK : 97 <= Int32.toInt x1 /\ Int32.toInt x1 <= 111) (yM : jD = 0 \/ jD = 1 \/ jD = 2) (zE : 0 <= Int32.toInt mLn /\ Int32.toInt mLn <= 80) (aAR : 0 <= Int32.toInt oF /\ Int32.toInt oF <= 80) (aA1 : 0 <= Int32.toInt rP /\ Int32.toInt rP <= 80) (aAA : -1 <= Int32.toInt dQ /\ Int32.toInt dQ <= 80) (zT : 0 <= Int32.toInt bZ /\ Int32.toInt bZ <= 0) (yL : 0 <= Int32.toInt aR /\ Int32.toInt aR <= 15) (xQ : 0 <= Int32.toInt aE /\ Int32.toInt aE <= 7) (yY : 0 <= Int32.toInt bI /\ Int32.toInt bI <= 1) (yK : 0 <= Int32.toInt aW /\ Int32.toInt aW <= 63) (xU : ∀ k : Nat, k = 17 -> -1 <= Int32.toInt (qG k) /\ Int32.toInt (qG k) <= SB) (xV : ∀ k : Nat, k = 19 -> 0 <= Int32.toInt (qG k) /\ Int32.toInt (qG k) <= 9) : ws_X10_act_176 post bT aG bW m_x gR pW qR nG oO pJ qO qQ x1 jD mLn oF rP dQ bZ aR aE bI aW fJ qG := by
  have l0 := aE0
  have l1 := aEc
  have l2 := li_18
  have l3 := li_97
  refine And.intro (fun c144 => ?_) (fun c144 => ?_)
  · skip
    have c144 := mt (zJ _ _).mpr c144
    have f145 := aAT fJ
    exact ts_X10_act_193 bT aG bW m_x gR pW qR nG oO pJ qO qQ xJ vZ zQ aAW xK yR zM xT yF yD xZ zG zI hc0 hc1 hpost 18 0 jD mLn oF rP dQ bZ aR aE bI aW fJ qG (by omega) (by omega) yM zE aAR aA1 aAA zT yL xQ yY yK xU xV
  · skip
    have c144 := (zJ _ _).mp c144
    have f146 := aAT fJ
    exact ts_X10_act_193 bT aG bW m_x gR pW qR nG oO pJ qO qQ xJ vZ zQ aAW xK yR zM xT yF yD xZ zG zI hc0 hc1 hpost 18 1 jD mLn oF rP dQ bZ aR aE bI aW fJ qG (by omega) (by omega) yM zE aAR aA1 aAA zT yL xQ yY yK xU xV
set_option maxHeartbeats 8000000 in
set_option maxRecDepth 200000 in
theorem ts_X10_act_196 {post : Int32 -> Nat -> Int32 -> Int32 -> Int32 -> Int32 -> Int32 -> Int32 -> Int32 -> Int32 -> Int32 -> Int32 -> (Nat -> Int32) -> Prop} {SB : Int} (bT aG bW : Int32) (m_x gR pW qR nG oO pJ qO qQ : Nat -> Int32) (xJ : 0 <= Int32.toInt bT /\ Int32.toInt bT <= 16) (vZ : 0 <= Int32.toInt aG /\ Int32.toInt aG <= 8) (zQ : 0 <= Int32.toInt bW /\ Int32.toInt bW <= 40) (aAW : ∀ k : Nat, 0 <= Int32.toInt (m_x k) /\ Int32.toInt (m_x k) <= 99) (xK : ∀ k : Nat, 0 <= Int32.toInt (gR k) /\ Int32.toInt (gR k) <= 99) (yR : ∀ k : Nat, 0 <= Int32.toInt (pW k) /\ Int32.toInt (pW k) <= 9) (zM : ∀ k : Nat, 0 <= Int32.toInt (qR k) /\ Int32.toInt (qR k) <= 9) (xT : ∀ k : Nat, 0 <= Int32.toInt (nG k) /\ Int32.toInt (nG k) <= 99) (yF : ∀ k : Nat, 0 <= Int32.toInt (oO k) /\ Int32.toInt (oO k) <= 99) (yD : ∀ k : Nat, k = 4 -> 1 <= Int32.toInt (pJ k) /\ Int32.toInt (pJ k) <= 30) (xZ : ∀ k : Nat, k = 3 -> 0 <= Int32.toInt (pJ k) /\ Int32.toInt (pJ k) <= 9) (zG : ∀ k : Nat, -128 <= Int32.toInt (qO k) /\ Int32.toInt (qO k) <= 127) (zI : ∀ k : Nat, -128 <= Int32.toInt (qQ k) /\ Int32.toInt (qQ k) <= 127) (hc0 : -1 <= SB /\ SB <= 7) (hc1 : (Int32.toInt aG <= 0 /\ SB = 0) \/ (1 <= Int32.toInt aG /\ SB = Int32.toInt aG - 1)) (hpost : ∀ (r : Int32) (aAP : Nat) (zS : Int32) (aAz : Int32) (aAm : Int32) (zH : Int32) (aAM : Int32) (zP : Int32) (yO : Int32) (zZ : Int32) (zO : Int32) (aMk : Int32) (aBf : Nat -> Int32), (0 <= Int32.toInt r /\ Int32.toInt r <= 1) -> (aAP = 0 \/ aAP = 1 \/ aAP = 2) -> (0 <= Int32.toInt zS /\ Int32.toInt zS <= 80) -> (0 <= Int32.toInt aAz /\ Int32.toInt aAz <= 80) -> (0 <= Int32.toInt aAm /\ Int32.toInt aAm <= 80) -> (-1 <= Int32.toInt zH /\ Int32.toInt zH <= 80) -> (0 <= Int32.toInt aAM /\ Int32.toInt aAM <= 0) -> (0 <= Int32.toInt zP /\ Int32.toInt zP <= 15) -> (0 <= Int32.toInt yO /\ Int32.toInt yO <= 7) -> (0 <= Int32.toInt zZ /\ Int32.toInt zZ <= 1) -> (0 <= Int32.toInt zO /\ Int32.toInt zO <= 63) -> (∀ k : Nat, k = 17 -> -1 <= Int32.toInt (aBf k) /\ Int32.toInt (aBf k) <= SB) -> (∀ k : Nat, k = 19 -> 0 <= Int32.toInt (aBf k) /\ Int32.toInt (aBf k) <= 9) -> post r aAP zS aAz aAm zH aAM zP yO zZ zO aMk aBf) (jD : Nat) (mLn oF rP dQ bZ aR aE bI aW fJ : Int32) (qG : Nat -> Int32) (yM : jD = 0 \/ jD = 1 \/ jD = 2) (zE : 0 <= Int32.toInt mLn /\ Int32.toInt mLn <= 80) (aAR : 0 <= Int32.toInt oF /\ Int32.toInt oF <= 80) (aA1 : 0 <= Int32.toInt rP /\ Int32.toInt rP <= 80) (aAA : -1 <= Int32.toInt dQ /\ Int32.toInt dQ <= 80) (zT : 0 <= Int32.toInt bZ /\ Int32.toInt bZ <= 0) (yL : 0 <= Int32.toInt aR /\ Int32.toInt aR <= 15) (xQ : 0 <= Int32.toInt aE /\ Int32.toInt aE <= 7) (yY : 0 <= Int32.toInt bI /\ Int32.toInt bI <= 1) (yK : 0 <= Int32.toInt aW /\ Int32.toInt aW <= 63) (xU : ∀ k : Nat, k = 17 -> -1 <= Int32.toInt (qG k) /\ Int32.toInt (qG k) <= SB) (xV : ∀ k : Nat, k = 19 -> 0 <= Int32.toInt (qG k) /\ Int32.toInt (qG k) <= 9) : ws_X10_act_196 post bT aG bW m_x gR pW qR nG oO pJ qO qQ jD mLn oF rP dQ bZ aR aE bI aW fJ qG := by
  have l0 := aI2
  have l1 := aE0
  have l2 := aEc
  have l3 := li_17
  have l4 := li_19
  have l5 := li_20
  have l6 := li_9
  have q147 := xV (19 : Int32).toNatClampNeg (by have e9 : (19 : Int32).toNatClampNeg = (Int32.toInt (19 : Int32)).toNat := rfl; omega)
  intro v148 ev148
  have hv148 := congrArg Int32.toInt ev148
  refine And.intro (fun c150 => ?_) (fun c150 => ?_)
  · skip
    have c150 := mt (zJ _ _).mpr c150
    refine t_X10_empty xJ xU xV (by omega) (fun r152 m_now_151 e0_m_now_151 e1_m_now_151 ox153 => ?_)
    have e154 : ∀ k : Nat, k = 17 -> -1 <= Int32.toInt ((upd m_now_151 (17 : Int32).toNatClampNeg (-1)) k) /\ Int32.toInt ((upd m_now_151 (17 : Int32).toNatClampNeg (-1)) k) <= SB := aCJ (C := fun k => k = 17) e0_m_now_151 (fun hk => by have e9 : (17 : Int32).toNatClampNeg = (Int32.toInt (17 : Int32)).toNat := rfl; have hk : (17 : Int32).toNatClampNeg = 17 := hk; omega)
    have e155 : ∀ k : Nat, k = 19 -> 0 <= Int32.toInt ((upd m_now_151 (17 : Int32).toNatClampNeg (-1)) k) /\ Int32.toInt ((upd m_now_151 (17 : Int32).toNatClampNeg (-1)) k) <= 9 := aCJ (C := fun k => k = 19) e1_m_now_151 (fun hk => by have e9 : (17 : Int32).toNatClampNeg = (Int32.toInt (17 : Int32)).toNat := rfl; have hk : (17 : Int32).toNatClampNeg = 19 := hk; omega)
    have e156 : ∀ k : Nat, k = 17 -> -1 <= Int32.toInt ((upd (upd m_now_151 (17 : Int32).toNatClampNeg (-1)) (20 : Int32).toNatClampNeg 0) k) /\ Int32.toInt ((upd (upd m_now_151 (17 : Int32).toNatClampNeg (-1)) (20 : Int32).toNatClampNeg 0) k) <= SB := aCJ (C := fun k => k = 17) e154 (fun hk => by have e9 : (20 : Int32).toNatClampNeg = (Int32.toInt (20 : Int32)).toNat := rfl; have hk : (20 : Int32).toNatClampNeg = 17 := hk; omega)
    have e157 : ∀ k : Nat, k = 19 -> 0 <= Int32.toInt ((upd (upd m_now_151 (17 : Int32).toNatClampNeg (-1)) (20 : Int32).toNatClampNeg 0) k) /\ Int32.toInt ((upd (upd m_now_151 (17 : Int32).toNatClampNeg (-1)) (20 : Int32).toNatClampNeg 0) k) <= 9 := aCJ (C := fun k => k = 19) e155 (fun hk => by have e9 : (20 : Int32).toNatClampNeg = (Int32.toInt (20 : Int32)).toNat := rfl; have hk : (20 : Int32).toNatClampNeg = 19 := hk; omega)
    have q158 := e157 (19 : Int32).toNatClampNeg (by have e9 : (19 : Int32).toNatClampNeg = (Int32.toInt (19 : Int32)).toNat := rfl; omega)
    intro v159 ev159
    have hv159 := congrArg Int32.toInt ev159
    have j161 : Int32.toInt v159 = Int32.toInt (qG (19 : Int32).toNatClampNeg) := by rw [ev159]; exact congrArg Int32.toInt (gs_19 (by assumption))
    intro v162 ev162
    have f163 : Int32.toInt (v159 + 1) = Int32.toInt v159 + Int32.toInt (1 : Int32) := aAD _ _ (by omega)
    rw [<- ev162] at f163
    have e164 : ∀ k : Nat, k = 17 -> -1 <= Int32.toInt ((upd (upd (upd m_now_151 (17 : Int32).toNatClampNeg (-1)) (20 : Int32).toNatClampNeg 0) (19 : Int32).toNatClampNeg v162) k) /\ Int32.toInt ((upd (upd (upd m_now_151 (17 : Int32).toNatClampNeg (-1)) (20 : Int32).toNatClampNeg 0) (19 : Int32).toNatClampNeg v162) k) <= SB := aCJ (C := fun k => k = 17) e156 (fun hk => by have e9 : (19 : Int32).toNatClampNeg = (Int32.toInt (19 : Int32)).toNat := rfl; have hk : (19 : Int32).toNatClampNeg = 17 := hk; omega)
    have e165 : ∀ k : Nat, k = 19 -> 0 <= Int32.toInt ((upd (upd (upd m_now_151 (17 : Int32).toNatClampNeg (-1)) (20 : Int32).toNatClampNeg 0) (19 : Int32).toNatClampNeg v162) k) /\ Int32.toInt ((upd (upd (upd m_now_151 (17 : Int32).toNatClampNeg (-1)) (20 : Int32).toNatClampNeg 0) (19 : Int32).toNatClampNeg v162) k) <= 9 := aCJ (C := fun k => k = 19) e157 (fun hk => by have e9 : (19 : Int32).toNatClampNeg = (Int32.toInt (19 : Int32)).toNat := rfl; have hk : (19 : Int32).toNatClampNeg = 19 := hk; omega)
    have q166 := e165 (19 : Int32).toNatClampNeg (by have e9 : (19 : Int32).toNatClampNeg = (Int32.toInt (19 : Int32)).toNat := rfl; omega)
    intro v167 ev167
    have hv167 := congrArg Int32.toInt ev167
    exact hpost _ _ _ _ _ _ _ _ _ _ _ _ _ (by omega) yM zE aAR aA1 aAA zT yL xQ yY yK e164 e165
  · skip
    have c150 := (zJ _ _).mp c150
    exact hpost _ _ _ _ _ _ _ _ _ _ _ _ _ (by omega) yM zE aAR aA1 aAA zT yL xQ yY yK xU xV
set_option maxHeartbeats 8000000 in
set_option maxRecDepth 200000 in
theorem t_X10_act {post : Int32 -> Nat -> Int32 -> Int32 -> Int32 -> Int32 -> Int32 -> Int32 -> Int32 -> Int32 -> Int32 -> Int32 -> (Nat -> Int32) -> Prop} {SB : Int} {p0 p1 bT aG : Int32} {jD : Nat} {mLn oF rP dQ bW bZ aR aE bI aW fJ : Int32} {qG m_x gR pW qR nG oO pJ qO qQ : Nat -> Int32} (h_p0 : -1 <= Int32.toInt p0 /\ Int32.toInt p0 <= 255) (h_p1 : -1 <= Int32.toInt p1 /\ Int32.toInt p1 <= 255) (xJ : 0 <= Int32.toInt bT /\ Int32.toInt bT <= 16) (vZ : 0 <= Int32.toInt aG /\ Int32.toInt aG <= 8) (yM : jD = 0 \/ jD = 1 \/ jD = 2) (zE : 0 <= Int32.toInt mLn /\ Int32.toInt mLn <= 80) (aAR : 0 <= Int32.toInt oF /\ Int32.toInt oF <= 80) (aA1 : 0 <= Int32.toInt rP /\ Int32.toInt rP <= 80) (aAA : -1 <= Int32.toInt dQ /\ Int32.toInt dQ <= 80) (zQ : 0 <= Int32.toInt bW /\ Int32.toInt bW <= 40) (zT : 0 <= Int32.toInt bZ /\ Int32.toInt bZ <= 0) (yL : 0 <= Int32.toInt aR /\ Int32.toInt aR <= 15) (xQ : 0 <= Int32.toInt aE /\ Int32.toInt aE <= 7) (yY : 0 <= Int32.toInt bI /\ Int32.toInt bI <= 1) (yK : 0 <= Int32.toInt aW /\ Int32.toInt aW <= 63) (xU : ∀ k : Nat, k = 17 -> -1 <= Int32.toInt (qG k) /\ Int32.toInt (qG k) <= SB) (xV : ∀ k : Nat, k = 19 -> 0 <= Int32.toInt (qG k) /\ Int32.toInt (qG k) <= 9) (aAW : ∀ k : Nat, 0 <= Int32.toInt (m_x k) /\ Int32.toInt (m_x k) <= 99) (xK : ∀ k : Nat, 0 <= Int32.toInt (gR k) /\ Int32.toInt (gR k) <= 99) (yR : ∀ k : Nat, 0 <= Int32.toInt (pW k) /\ Int32.toInt (pW k) <= 9) (zM : ∀ k : Nat, 0 <= Int32.toInt (qR k) /\ Int32.toInt (qR k) <= 9) (xT : ∀ k : Nat, 0 <= Int32.toInt (nG k) /\ Int32.toInt (nG k) <= 99) (yF : ∀ k : Nat, 0 <= Int32.toInt (oO k) /\ Int32.toInt (oO k) <= 99) (yD : ∀ k : Nat, k = 4 -> 1 <= Int32.toInt (pJ k) /\ Int32.toInt (pJ k) <= 30) (xZ : ∀ k : Nat, k = 3 -> 0 <= Int32.toInt (pJ k) /\ Int32.toInt (pJ k) <= 9) (zG : ∀ k : Nat, -128 <= Int32.toInt (qO k) /\ Int32.toInt (qO k) <= 127) (zI : ∀ k : Nat, -128 <= Int32.toInt (qQ k) /\ Int32.toInt (qQ k) <= 127) (hc0 : -1 <= SB /\ SB <= 7) (hc1 : (Int32.toInt aG <= 0 /\ SB = 0) \/ (1 <= Int32.toInt aG /\ SB = Int32.toInt aG - 1)) (hpost : ∀ (r : Int32) (aAP : Nat) (zS : Int32) (aAz : Int32) (aAm : Int32) (zH : Int32) (aAM : Int32) (zP : Int32) (yO : Int32) (zZ : Int32) (zO : Int32) (aMk : Int32) (aBf : Nat -> Int32), (0 <= Int32.toInt r /\ Int32.toInt r <= 1) -> (aAP = 0 \/ aAP = 1 \/ aAP = 2) -> (0 <= Int32.toInt zS /\ Int32.toInt zS <= 80) -> (0 <= Int32.toInt aAz /\ Int32.toInt aAz <= 80) -> (0 <= Int32.toInt aAm /\ Int32.toInt aAm <= 80) -> (-1 <= Int32.toInt zH /\ Int32.toInt zH <= 80) -> (0 <= Int32.toInt aAM /\ Int32.toInt aAM <= 0) -> (0 <= Int32.toInt zP /\ Int32.toInt zP <= 15) -> (0 <= Int32.toInt yO /\ Int32.toInt yO <= 7) -> (0 <= Int32.toInt zZ /\ Int32.toInt zZ <= 1) -> (0 <= Int32.toInt zO /\ Int32.toInt zO <= 63) -> (∀ k : Nat, k = 17 -> -1 <= Int32.toInt (aBf k) /\ Int32.toInt (aBf k) <= SB) -> (∀ k : Nat, k = 19 -> 0 <= Int32.toInt (aBf k) /\ Int32.toInt (aBf k) <= 9) -> post r aAP zS aAz aAm zH aAM zP yO zZ zO aMk aBf) : aVD post p0 p1 bT aG jD mLn oF rP dQ bW bZ aR aE bI aW fJ qG m_x gR pW qR nG oO pJ qO qQ := by
  have l0 := aI2
  have l1 := aE0
  have l2 := aEc
  have l3 := li_100
  have l4 := li_104
  have l5 := li_107
  have l6 := li_109
  have l7 := li_111
  have l8 := li_112
  have l9 := li_17
  have l10 := li_20
  have l11 := li_9
  have l12 := li_97
  have l13 := li_9999
  refine And.intro (fun c169 => ?_) ?_
  · skip
    have c169 := (zJ _ _).mp c169
    have f170 := aAT fJ
    exact ts_X10_act_176 bT aG bW m_x gR pW qR nG oO pJ qO qQ xJ vZ zQ aAW xK yR zM xT yF yD xZ zG zI hc0 hc1 hpost p0 jD mLn oF rP dQ bZ aR aE bI aW fJ qG (by omega) yM zE aAR aA1 aAA zT yL xQ yY yK xU xV
  refine And.intro (fun c171 => ?_) ?_
  · skip
    have c171 := (zJ _ _).mp c171
    have q172 := xU (17 : Int32).toNatClampNeg (by have e9 : (17 : Int32).toNatClampNeg = (Int32.toInt (17 : Int32)).toNat := rfl; omega)
    intro v173 ev173
    have hv173 := congrArg Int32.toInt ev173
    refine And.intro (fun c175 => ?_) (fun c175 => ?_)
    · skip
      have c175 := (zJ _ _).mp c175
      refine And.intro (fun h9 => absurd h9 (by decide)) (fun _ => ?_)
      exact hpost _ _ _ _ _ _ _ _ _ _ _ _ _ (by omega) yM zE aAR aA1 aAA zT yL xQ yY yK xU xV
    · skip
      have c175 := mt (zJ _ _).mpr c175
      refine aKO (by omega) xJ xU xV (by omega) (fun r176 h_r176 ox177 => ?_)
      refine And.intro (fun c178 => ?_) (fun c178 => ?_)
      · skip
        have c178 := (zJ _ _).mp c178
        refine And.intro (fun h9 => absurd h9 (by decide)) (fun _ => ?_)
        exact hpost _ _ _ _ _ _ _ _ _ _ _ _ _ (by omega) yM zE aAR aA1 aAA zT yL xQ yY yK xU xV
      · skip
        have c178 := mt (zJ _ _).mpr c178
        refine And.intro (fun _ => ?_) (fun h9 => absurd h9 (by decide))
        have q179 := xU (17 : Int32).toNatClampNeg (by have e9 : (17 : Int32).toNatClampNeg = (Int32.toInt (17 : Int32)).toNat := rfl; omega)
        intro v180 ev180
        have hv180 := congrArg Int32.toInt ev180
        refine And.intro (aBZ (by omega)) ?_
        intro v181 ev181
        have f182 := yF v180.toNatClampNeg
        have hv181 := congrArg Int32.toInt ev181
        intro v183 ev183
        have f184 : Int32.toInt (v181 + 9) = Int32.toInt v181 + Int32.toInt (9 : Int32) := aAD _ _ (by omega)
        rw [<- ev183] at f184
        intro v185 ev185
        have hv185 := congrArg Int32.toInt ev185
        intro v187 ev187
        have hv187 := congrArg Int32.toInt ev187
        intro v189 ev189
        have f190 := aAT (if v187 < 9999 then v187 else 9999)
        have f192 := aAT v187
        have f191 := ti_min (9999 : Int32) v187
        have hv189 := congrArg Int32.toInt ev189
        have f194 := aAT v189
        have e193 : ∀ k : Nat, k = 17 -> -1 <= Int32.toInt ((upd qG (20 : Int32).toNatClampNeg v189) k) /\ Int32.toInt ((upd qG (20 : Int32).toNatClampNeg v189) k) <= SB := aCJ (C := fun k => k = 17) xU (fun hk => by have e9 : (20 : Int32).toNatClampNeg = (Int32.toInt (20 : Int32)).toNat := rfl; have hk : (20 : Int32).toNatClampNeg = 17 := hk; omega)
        have e195 : ∀ k : Nat, k = 19 -> 0 <= Int32.toInt ((upd qG (20 : Int32).toNatClampNeg v189) k) /\ Int32.toInt ((upd qG (20 : Int32).toNatClampNeg v189) k) <= 9 := aCJ (C := fun k => k = 19) xV (fun hk => by have e9 : (20 : Int32).toNatClampNeg = (Int32.toInt (20 : Int32)).toNat := rfl; have hk : (20 : Int32).toNatClampNeg = 19 := hk; omega)
        refine t_X10_empty xJ e193 e195 (by omega) (fun r197 m_now_196 e0_m_now_196 e1_m_now_196 ox198 => ?_)
        exact hpost _ _ _ _ _ _ _ _ _ _ _ _ _ (by omega) yM zE aAR aA1 aAA zT yL xQ yY yK e0_m_now_196 e1_m_now_196
  refine And.intro (fun c199 => ?_) ?_
  · skip
    have c199 := (zJ _ _).mp c199
    have f200 := aAT fJ
    exact ts_X10_act_98 bT aG bW m_x gR pW qR nG oO pJ qO qQ xJ vZ zQ aAW xK yR zM xT yF yD xZ zG zI hc0 hc1 hpost p0 p1 jD mLn oF rP dQ bZ aR aE bI aW fJ qG (by omega) h_p1 yM zE aAR aA1 aAA zT yL xQ yY yK xU xV
  refine And.intro (fun c201 => ?_) ?_
  · skip
    have c201 := (zJ _ _).mp c201
    have q202 := xU (17 : Int32).toNatClampNeg (by have e9 : (17 : Int32).toNatClampNeg = (Int32.toInt (17 : Int32)).toNat := rfl; omega)
    intro v203 ev203
    have hv203 := congrArg Int32.toInt ev203
    refine And.intro (fun c205 => ?_) (fun c205 => ?_)
    · skip
      have c205 := mt (zJ _ _).mpr c205
      refine t_X10_goShake xJ xU xV aAW xK zM xT yF yD xZ (by omega) (by omega) (fun r207 m_now_206 h_r207 e0_m_now_206 e1_m_now_206 => ?_)
      exact hpost _ _ _ _ _ _ _ _ _ _ _ _ _ (by omega) yM zE aAR aA1 aAA zT yL xQ yY yK e0_m_now_206 e1_m_now_206
    · skip
      have c205 := (zJ _ _).mp c205
      exact hpost _ _ _ _ _ _ _ _ _ _ _ _ _ (by omega) yM zE aAR aA1 aAA zT yL xQ yY yK xU xV
  refine And.intro (fun c208 => ?_) ?_
  · skip
    have c208 := (zJ _ _).mp c208
    intro v209 ev209
    have f210 : Int32.toInt (aG - 1) = Int32.toInt aG - Int32.toInt (1 : Int32) := aCA _ _ (by omega)
    rw [<- ev209] at f210
    refine And.intro (fun c211 => ?_) (fun c211 => ?_)
    · skip
      have c211 := (aAd _ _).mp c211
      refine And.intro (aHE (by omega)) ?_
      refine And.intro (fun h9 => absurd h9 (by decide)) (fun _ => ?_)
      refine And.intro (fun h9 => absurd h9 (by decide)) (fun _ => ?_)
      exact hpost _ _ _ _ _ _ _ _ _ _ _ _ _ (by omega) yM zE aAR aA1 aAA zT yL xQ yY yK xU xV
    · skip
      have c211 := mt (aAd _ _).mpr c211
      refine And.intro (fun c212 => ?_) (fun c212 => ?_)
      · skip
        have c212 := (aAd _ _).mp c212
        refine And.intro (aHE (by omega)) ?_
        refine And.intro (fun h9 => absurd h9 (by decide)) (fun _ => ?_)
        refine And.intro (fun h9 => absurd h9 (by decide)) (fun _ => ?_)
        exact hpost _ _ _ _ _ _ _ _ _ _ _ _ _ (by omega) yM zE aAR aA1 aAA zT yL xQ yY yK xU xV
      · skip
        have c212 := mt (aAd _ _).mpr c212
        refine And.intro (aHE (by omega)) ?_
        refine And.intro (fun _ => ?_) (fun h9 => absurd h9 (by decide))
        have q213 := xU (17 : Int32).toNatClampNeg (by have e9 : (17 : Int32).toNatClampNeg = (Int32.toInt (17 : Int32)).toNat := rfl; omega)
        intro v214 ev214
        have hv214 := congrArg Int32.toInt ev214
        refine And.intro (fun c216 => ?_) (fun c216 => ?_)
        · skip
          have c216 := mt (zJ _ _).mpr c216
          refine And.intro (fun _ => ?_) (fun h9 => absurd h9 (by decide))
          refine t_X10_goMove (by omega) xJ xU xV xT yF yD xZ (by omega) (by omega) (fun r218 m_now_217 h_r218 e0_m_now_217 e1_m_now_217 => ?_)
          exact hpost _ _ _ _ _ _ _ _ _ _ _ _ _ (by omega) yM zE aAR aA1 aAA zT yL xQ yY yK e0_m_now_217 e1_m_now_217
        · skip
          have c216 := (zJ _ _).mp c216
          refine And.intro (fun h9 => absurd h9 (by decide)) (fun _ => ?_)
          exact hpost _ _ _ _ _ _ _ _ _ _ _ _ _ (by omega) yM zE aAR aA1 aAA zT yL xQ yY yK xU xV
  refine And.intro (fun c219 => ?_) ?_
  · skip
    have c219 := (zJ _ _).mp c219
    have f220 := aAT fJ
    exact ts_X10_act_176 bT aG bW m_x gR pW qR nG oO pJ qO qQ xJ vZ zQ aAW xK yR zM xT yF yD xZ zG zI hc0 hc1 hpost p0 jD mLn oF rP dQ bZ aR aE bI aW fJ qG (by omega) yM zE aAR aA1 aAA zT yL xQ yY yK xU xV
  refine And.intro (fun c221 => ?_) ?_
  · skip
    have c221 := (zJ _ _).mp c221
    have f222 := aAT fJ
    exact ts_X10_act_98 bT aG bW m_x gR pW qR nG oO pJ qO qQ xJ vZ zQ aAW xK yR zM xT yF yD xZ zG zI hc0 hc1 hpost p0 p1 jD mLn oF rP dQ bZ aR aE bI aW fJ qG (by omega) h_p1 yM zE aAR aA1 aAA zT yL xQ yY yK xU xV
  intro c223 c224 c225 c226 c227 c228 c229
  have c223 := mt (zJ _ _).mpr c223
  have c224 := mt (zJ _ _).mpr c224
  have c225 := mt (zJ _ _).mpr c225
  have c226 := mt (zJ _ _).mpr c226
  have c227 := mt (zJ _ _).mpr c227
  have c228 := mt (zJ _ _).mpr c228
  have c229 := mt (zJ _ _).mpr c229
  have f230 := aAT fJ
  exact ts_X10_act_196 bT aG bW m_x gR pW qR nG oO pJ qO qQ xJ vZ zQ aAW xK yR zM xT yF yD xZ zG zI hc0 hc1 hpost jD mLn oF rP dQ bZ aR aE bI aW fJ qG yM zE aAR aA1 aAA zT yL xQ yY yK xU xV
set_option maxHeartbeats 8000000 in
set_option maxRecDepth 200000 in
theorem ts_X10_lay_b3_2 {post : (Nat -> Int32) -> Prop} {SB : Int} {next : Int32 -> Int32 -> (Nat -> Int32) -> Prop} {n2 : Int} (vF : Nat -> Int32) (aBP : ∀ k : Nat, k = 17 -> -1 <= Int32.toInt (vF k) /\ Int32.toInt (vF k) <= SB) (aBQ : ∀ k : Nat, k = 19 -> 0 <= Int32.toInt (vF k) /\ Int32.toInt (vF k) <= 9) (hc0 : -1 <= SB /\ SB <= 7) (hpost : ∀ (aBl : Nat -> Int32), (∀ k : Nat, k % 21 = 17 -> -1 <= Int32.toInt (aBl k) /\ Int32.toInt (aBl k) <= SB) -> (∀ k : Nat, k % 21 = 19 -> 0 <= Int32.toInt (aBl k) /\ Int32.toInt (aBl k) <= 9) -> post aBl) (hKn : ∀ (x2 : Int32) (x3 : Int32) (uL : Nat -> Int32), (0 <= Int32.toInt x2 /\ Int32.toInt x2 <= 231) -> (0 <= Int32.toInt x3 /\ Int32.toInt x3 <= 21) -> (∀ k : Nat, k % 21 = 17 -> -1 <= Int32.toInt (uL k) /\ Int32.toInt (uL k) <= SB) -> (∀ k : Nat, k % 21 = 19 -> 0 <= Int32.toInt (uL k) /\ Int32.toInt (uL k) <= 9) -> (Int32.toInt x2 % 21 = 0) -> (21 - Int32.toInt x3 < n2) -> next x2 x3 uL) (x2 x3 : Int32) (uL : Nat -> Int32) (aBN : 0 <= Int32.toInt x2 /\ Int32.toInt x2 <= 231) (aCH : 0 <= Int32.toInt x3 /\ Int32.toInt x3 <= 21) (aAo : ∀ k : Nat, k % 21 = 17 -> -1 <= Int32.toInt (uL k) /\ Int32.toInt (uL k) <= SB) (aAp : ∀ k : Nat, k % 21 = 19 -> 0 <= Int32.toInt (uL k) /\ Int32.toInt (uL k) <= 9) (hx0 : Int32.toInt x2 % 21 = 0) (hn2 : 21 - Int32.toInt x3 <= n2) : ws_X10_lay_b3_2 post next vF x2 x3 uL := by
  have l0 := aEc
  have l1 := li_21
  refine And.intro (fun c1 => ?_) (fun c1 => ?_)
  · skip
    have c1 := (aAO _ _).mp c1
    exact hpost _ aAo aAp
  · skip
    have c1 := mt (aAO _ _).mpr c1
    intro v2 ev2
    have f3 : Int32.toInt (x2 + x3) = Int32.toInt x2 + Int32.toInt x3 := aAD _ _ (by omega)
    rw [<- ev2] at f3
    refine And.intro (aBZ (by omega)) ?_
    have q4 := aBP x3.toNatClampNeg
    have q5 := aBQ x3.toNatClampNeg
    have q6 : x3.toNatClampNeg = (Int32.toInt x3).toNat := rfl
    intro v7 ev7
    have hv7 := congrArg Int32.toInt ev7
    refine And.intro (aBZ (by omega)) ?_
    have f10 := aAT v7
    have e9 : ∀ k : Nat, k % 21 = 17 -> -1 <= Int32.toInt ((upd uL v2.toNatClampNeg v7) k) /\ Int32.toInt ((upd uL v2.toNatClampNeg v7) k) <= SB := aCJ (C := fun k => k % 21 = 17) aAo (fun hk => by have e9 : v2.toNatClampNeg = (Int32.toInt v2).toNat := rfl; have hk : v2.toNatClampNeg % 21 = 17 := hk; omega)
    have e11 : ∀ k : Nat, k % 21 = 19 -> 0 <= Int32.toInt ((upd uL v2.toNatClampNeg v7) k) /\ Int32.toInt ((upd uL v2.toNatClampNeg v7) k) <= 9 := aCJ (C := fun k => k % 21 = 19) aAp (fun hk => by have e9 : v2.toNatClampNeg = (Int32.toInt v2).toNat := rfl; have hk : v2.toNatClampNeg % 21 = 19 := hk; omega)
    intro v12 ev12
    have f13 : Int32.toInt (x3 + 1) = Int32.toInt x3 + Int32.toInt (1 : Int32) := aAD _ _ (by omega)
    rw [<- ev12] at f13
    exact hKn x2 v12 (upd uL v2.toNatClampNeg v7) aBN (by omega) e9 e11 hx0 (by omega)
set_option maxHeartbeats 8000000 in
set_option maxRecDepth 200000 in
theorem tb_X10_lay_b3_2 {post : (Nat -> Int32) -> Prop} {SB : Int} (vF : Nat -> Int32) (aBP : ∀ k : Nat, k = 17 -> -1 <= Int32.toInt (vF k) /\ Int32.toInt (vF k) <= SB) (aBQ : ∀ k : Nat, k = 19 -> 0 <= Int32.toInt (vF k) /\ Int32.toInt (vF k) <= 9) (hc0 : -1 <= SB /\ SB <= 7) (hpost : ∀ (aBl : Nat -> Int32), (∀ k : Nat, k % 21 = 17 -> -1 <= Int32.toInt (aBl k) /\ Int32.toInt (aBl k) <= SB) -> (∀ k : Nat, k % 21 = 19 -> 0 <= Int32.toInt (aBl k) /\ Int32.toInt (aBl k) <= 9) -> post aBl) : ∀ (n : Nat) (x2 x3 : Int32) (uL : Nat -> Int32), (0 <= Int32.toInt x2 /\ Int32.toInt x2 <= 231) -> (0 <= Int32.toInt x3 /\ Int32.toInt x3 <= 21) -> (∀ k : Nat, k % 21 = 17 -> -1 <= Int32.toInt (uL k) /\ Int32.toInt (uL k) <= SB) -> (∀ k : Nat, k % 21 = 19 -> 0 <= Int32.toInt (uL k) /\ Int32.toInt (uL k) <= 9) -> (Int32.toInt x2 % 21 = 0) -> (21 - Int32.toInt x3 < (n : Int)) -> wb_X10_lay_b3_2 post vF n x2 x3 uL := by
  intro n
  induction n with
  | zero =>
    intro x2 x3 uL aBN aCH aAo aAp hx0 hm
    exfalso; omega
  | succ n ih =>
    intro x2 x3 uL aBN aCH aAo aAp hx0 hm
    exact ts_X10_lay_b3_2 vF aBP aBQ hc0 hpost ih x2 x3 uL aBN aCH aAo aAp hx0 (by omega)
set_option maxHeartbeats 8000000 in
set_option maxRecDepth 200000 in
theorem t_X10_lay_b3 {post : (Nat -> Int32) -> Prop} {SB : Int} {p2 : Int32} {uL vF : Nat -> Int32} (h_p2 : 0 <= Int32.toInt p2 /\ Int32.toInt p2 <= 231) (aAo : ∀ k : Nat, k % 21 = 17 -> -1 <= Int32.toInt (uL k) /\ Int32.toInt (uL k) <= SB) (aAp : ∀ k : Nat, k % 21 = 19 -> 0 <= Int32.toInt (uL k) /\ Int32.toInt (uL k) <= 9) (aBP : ∀ k : Nat, k = 17 -> -1 <= Int32.toInt (vF k) /\ Int32.toInt (vF k) <= SB) (aBQ : ∀ k : Nat, k = 19 -> 0 <= Int32.toInt (vF k) /\ Int32.toInt (vF k) <= 9) (hc0 : -1 <= SB /\ SB <= 7) (hx0 : Int32.toInt p2 % 21 = 0) (hpost : ∀ (aBl : Nat -> Int32), (∀ k : Nat, k % 21 = 17 -> -1 <= Int32.toInt (aBl k) /\ Int32.toInt (aBl k) <= SB) -> (∀ k : Nat, k % 21 = 19 -> 0 <= Int32.toInt (aBl k) /\ Int32.toInt (aBl k) <= 9) -> post aBl) : wp_X10_lay_b3 post p2 uL vF := by
  have l0 := aE0
  exact ⟨23, tb_X10_lay_b3_2 vF aBP aBQ hc0 hpost _ p2 0 uL h_p2 (by omega) aAo aAp (by omega) (by omega)⟩
set_option maxHeartbeats 8000000 in
set_option maxRecDepth 200000 in
theorem ts_X10_remember_b2_49 {post : Int32 -> (Nat -> Int32) -> Prop} {SB : Int} (vF : Nat -> Int32) (aBP : ∀ k : Nat, k = 17 -> -1 <= Int32.toInt (vF k) /\ Int32.toInt (vF k) <= SB) (aBQ : ∀ k : Nat, k = 19 -> 0 <= Int32.toInt (vF k) /\ Int32.toInt (vF k) <= 9) (hc0 : -1 <= SB /\ SB <= 7) (hpost : ∀ (aBI : Int32) (aBl : Nat -> Int32), (1 <= Int32.toInt aBI /\ Int32.toInt aBI <= 12) -> (∀ k : Nat, k % 21 = 17 -> -1 <= Int32.toInt (aBl k) /\ Int32.toInt (aBl k) <= SB) -> (∀ k : Nat, k % 21 = 19 -> 0 <= Int32.toInt (aBl k) /\ Int32.toInt (aBl k) <= 9) -> post aBI aBl) (bU : Int32) (uL : Nat -> Int32) (aAZ : 0 <= Int32.toInt bU /\ Int32.toInt bU <= 11) (aAo : ∀ k : Nat, k % 21 = 17 -> -1 <= Int32.toInt (uL k) /\ Int32.toInt (uL k) <= SB) (aAp : ∀ k : Nat, k % 21 = 19 -> 0 <= Int32.toInt (uL k) /\ Int32.toInt (uL k) <= 9) : aYJ post vF bU uL := by
  have l0 := aEc
  have l1 := li_21
  intro v1 ev1
  have f2 : Int32.toInt (21 * bU) = Int32.toInt bU * 21 := ta_cmul _ _ (by decide) (by omega)
  rw [<- ev1] at f2
  refine t_X10_lay_b3 (by omega) aAo aAp aBP aBQ (by omega) (by omega) (fun aJk e0_m_undos_3 e1_m_undos_3 => ?_)
  intro v4 ev4
  have f5 : Int32.toInt (bU + 1) = Int32.toInt bU + Int32.toInt (1 : Int32) := aAD _ _ (by omega)
  rw [<- ev4] at f5
  exact hpost _ _ (by omega) e0_m_undos_3 e1_m_undos_3
set_option maxHeartbeats 8000000 in
set_option maxRecDepth 200000 in
theorem ts_X10_remember_b2_11 {post : Int32 -> (Nat -> Int32) -> Prop} {SB : Int} {next : Int32 -> Int32 -> (Nat -> Int32) -> Prop} {n11 : Int} (vF : Nat -> Int32) (aBP : ∀ k : Nat, k = 17 -> -1 <= Int32.toInt (vF k) /\ Int32.toInt (vF k) <= SB) (aBQ : ∀ k : Nat, k = 19 -> 0 <= Int32.toInt (vF k) /\ Int32.toInt (vF k) <= 9) (hc0 : -1 <= SB /\ SB <= 7) (hpost : ∀ (aBI : Int32) (aBl : Nat -> Int32), (1 <= Int32.toInt aBI /\ Int32.toInt aBI <= 12) -> (∀ k : Nat, k % 21 = 17 -> -1 <= Int32.toInt (aBl k) /\ Int32.toInt (aBl k) <= SB) -> (∀ k : Nat, k % 21 = 19 -> 0 <= Int32.toInt (aBl k) /\ Int32.toInt (aBl k) <= 9) -> post aBI aBl) (hKn : ∀ (x2 : Int32) (bU : Int32) (uL : Nat -> Int32), (0 <= Int32.toInt x2 /\ Int32.toInt x2 <= 231) -> (12 <= Int32.toInt bU /\ Int32.toInt bU <= 12) -> (∀ k : Nat, k % 21 = 17 -> -1 <= Int32.toInt (uL k) /\ Int32.toInt (uL k) <= SB) -> (∀ k : Nat, k % 21 = 19 -> 0 <= Int32.toInt (uL k) /\ Int32.toInt (uL k) <= 9) -> (231 - Int32.toInt x2 < n11) -> next x2 bU uL) (x2 bU : Int32) (uL : Nat -> Int32) (aBN : 0 <= Int32.toInt x2 /\ Int32.toInt x2 <= 231) (aAZ : 12 <= Int32.toInt bU /\ Int32.toInt bU <= 12) (aAo : ∀ k : Nat, k % 21 = 17 -> -1 <= Int32.toInt (uL k) /\ Int32.toInt (uL k) <= SB) (aAp : ∀ k : Nat, k % 21 = 19 -> 0 <= Int32.toInt (uL k) /\ Int32.toInt (uL k) <= 9) (hn11 : 231 - Int32.toInt x2 <= n11) : ws_X10_remember_b2_11 post next vF x2 bU uL := by
  have l0 := aEc
  have l1 := li_21
  have l2 := li_231
  refine And.intro (fun c6 => ?_) (fun c6 => ?_)
  · skip
    have c6 := (aAO _ _).mp c6
    intro v7 ev7
    have f8 : Int32.toInt (bU - 1) = Int32.toInt bU - Int32.toInt (1 : Int32) := aCA _ _ (by omega)
    rw [<- ev7] at f8
    exact ts_X10_remember_b2_49 vF aBP aBQ hc0 hpost v7 uL (by omega) aAo aAp
  · skip
    have c6 := mt (aAO _ _).mpr c6
    intro v9 ev9
    have f10 : Int32.toInt (x2 + 21) = Int32.toInt x2 + Int32.toInt (21 : Int32) := aAD _ _ (by omega)
    rw [<- ev9] at f10
    refine And.intro (aBZ (by omega)) ?_
    have q11 := aAo v9.toNatClampNeg
    have q12 := aAp v9.toNatClampNeg
    have q13 : v9.toNatClampNeg = (Int32.toInt v9).toNat := rfl
    intro v14 ev14
    have hv14 := congrArg Int32.toInt ev14
    refine And.intro (aBZ (by omega)) ?_
    have f17 := aAT v14
    have e16 : ∀ k : Nat, k % 21 = 17 -> -1 <= Int32.toInt ((upd uL x2.toNatClampNeg v14) k) /\ Int32.toInt ((upd uL x2.toNatClampNeg v14) k) <= SB := aCJ (C := fun k => k % 21 = 17) aAo (fun hk => by have e9 : x2.toNatClampNeg = (Int32.toInt x2).toNat := rfl; have hk : x2.toNatClampNeg % 21 = 17 := hk; omega)
    have e18 : ∀ k : Nat, k % 21 = 19 -> 0 <= Int32.toInt ((upd uL x2.toNatClampNeg v14) k) /\ Int32.toInt ((upd uL x2.toNatClampNeg v14) k) <= 9 := aCJ (C := fun k => k % 21 = 19) aAp (fun hk => by have e9 : x2.toNatClampNeg = (Int32.toInt x2).toNat := rfl; have hk : x2.toNatClampNeg % 21 = 19 := hk; omega)
    intro v19 ev19
    have f20 : Int32.toInt (x2 + 1) = Int32.toInt x2 + Int32.toInt (1 : Int32) := aAD _ _ (by omega)
    rw [<- ev19] at f20
    exact hKn v19 bU (upd uL x2.toNatClampNeg v14) (by omega) aAZ e16 e18 (by omega)
set_option maxHeartbeats 8000000 in
set_option maxRecDepth 200000 in
theorem tb_X10_remember_b2_11 {post : Int32 -> (Nat -> Int32) -> Prop} {SB : Int} (vF : Nat -> Int32) (aBP : ∀ k : Nat, k = 17 -> -1 <= Int32.toInt (vF k) /\ Int32.toInt (vF k) <= SB) (aBQ : ∀ k : Nat, k = 19 -> 0 <= Int32.toInt (vF k) /\ Int32.toInt (vF k) <= 9) (hc0 : -1 <= SB /\ SB <= 7) (hpost : ∀ (aBI : Int32) (aBl : Nat -> Int32), (1 <= Int32.toInt aBI /\ Int32.toInt aBI <= 12) -> (∀ k : Nat, k % 21 = 17 -> -1 <= Int32.toInt (aBl k) /\ Int32.toInt (aBl k) <= SB) -> (∀ k : Nat, k % 21 = 19 -> 0 <= Int32.toInt (aBl k) /\ Int32.toInt (aBl k) <= 9) -> post aBI aBl) : ∀ (n : Nat) (x2 bU : Int32) (uL : Nat -> Int32), (0 <= Int32.toInt x2 /\ Int32.toInt x2 <= 231) -> (12 <= Int32.toInt bU /\ Int32.toInt bU <= 12) -> (∀ k : Nat, k % 21 = 17 -> -1 <= Int32.toInt (uL k) /\ Int32.toInt (uL k) <= SB) -> (∀ k : Nat, k % 21 = 19 -> 0 <= Int32.toInt (uL k) /\ Int32.toInt (uL k) <= 9) -> (231 - Int32.toInt x2 < (n : Int)) -> wb_X10_remember_b2_11 post vF n x2 bU uL := by
  intro n
  induction n with
  | zero =>
    intro x2 bU uL aBN aAZ aAo aAp hm
    exfalso; omega
  | succ n ih =>
    intro x2 bU uL aBN aAZ aAo aAp hm
    exact ts_X10_remember_b2_11 vF aBP aBQ hc0 hpost ih x2 bU uL aBN aAZ aAo aAp (by omega)
set_option maxHeartbeats 8000000 in
set_option maxRecDepth 200000 in
theorem t_X10_remember_b2 {post : Int32 -> (Nat -> Int32) -> Prop} {SB : Int} {bU : Int32} {uL vF : Nat -> Int32} (aAZ : 0 <= Int32.toInt bU /\ Int32.toInt bU <= 12) (aAo : ∀ k : Nat, k % 21 = 17 -> -1 <= Int32.toInt (uL k) /\ Int32.toInt (uL k) <= SB) (aAp : ∀ k : Nat, k % 21 = 19 -> 0 <= Int32.toInt (uL k) /\ Int32.toInt (uL k) <= 9) (aBP : ∀ k : Nat, k = 17 -> -1 <= Int32.toInt (vF k) /\ Int32.toInt (vF k) <= SB) (aBQ : ∀ k : Nat, k = 19 -> 0 <= Int32.toInt (vF k) /\ Int32.toInt (vF k) <= 9) (hc0 : -1 <= SB /\ SB <= 7) (hpost : ∀ (aBI : Int32) (aBl : Nat -> Int32), (1 <= Int32.toInt aBI /\ Int32.toInt aBI <= 12) -> (∀ k : Nat, k % 21 = 17 -> -1 <= Int32.toInt (aBl k) /\ Int32.toInt (aBl k) <= SB) -> (∀ k : Nat, k % 21 = 19 -> 0 <= Int32.toInt (aBl k) /\ Int32.toInt (aBl k) <= 9) -> post aBI aBl) : bBu post bU uL vF := by
  have l0 := aE0
  have l1 := li_12
  refine And.intro (fun c21 => ?_) (fun c21 => ?_)
  · skip
    have c21 := mt (zJ _ _).mpr c21
    exact ts_X10_remember_b2_49 vF aBP aBQ hc0 hpost bU uL (by omega) aAo aAp
  · skip
    have c21 := (zJ _ _).mp c21
    exact ⟨233, tb_X10_remember_b2_11 vF aBP aBQ hc0 hpost _ 0 bU uL (by omega) (by omega) aAo aAp (by omega)⟩
set_option maxHeartbeats 8000000 in
set_option maxRecDepth 200000 in
theorem ts_X10_day_186 {post : Int32 -> Int32 -> Int32 -> Int32 -> Nat -> Int32 -> Int32 -> Int32 -> Int32 -> Int32 -> Int32 -> Int32 -> Int32 -> Int32 -> Int32 -> Int32 -> (Nat -> Int32) -> (Nat -> Int32) -> (Nat -> Int32) -> (Nat -> Int32) -> (Nat -> Int32) -> Prop} {SB : Int} (bT aG bW : Int32) (m_x gR pW qR nG oO pJ qO qQ : Nat -> Int32) (xJ : 0 <= Int32.toInt bT /\ Int32.toInt bT <= 16) (vZ : 0 <= Int32.toInt aG /\ Int32.toInt aG <= 8) (zQ : 0 <= Int32.toInt bW /\ Int32.toInt bW <= 40) (aAW : ∀ k : Nat, 0 <= Int32.toInt (m_x k) /\ Int32.toInt (m_x k) <= 99) (xK : ∀ k : Nat, 0 <= Int32.toInt (gR k) /\ Int32.toInt (gR k) <= 99) (yR : ∀ k : Nat, 0 <= Int32.toInt (pW k) /\ Int32.toInt (pW k) <= 9) (zM : ∀ k : Nat, 0 <= Int32.toInt (qR k) /\ Int32.toInt (qR k) <= 9) (xT : ∀ k : Nat, 0 <= Int32.toInt (nG k) /\ Int32.toInt (nG k) <= 99) (yF : ∀ k : Nat, 0 <= Int32.toInt (oO k) /\ Int32.toInt (oO k) <= 99) (yD : ∀ k : Nat, k = 4 -> 1 <= Int32.toInt (pJ k) /\ Int32.toInt (pJ k) <= 30) (xZ : ∀ k : Nat, k = 3 -> 0 <= Int32.toInt (pJ k) /\ Int32.toInt (pJ k) <= 9) (zG : ∀ k : Nat, -128 <= Int32.toInt (qO k) /\ Int32.toInt (qO k) <= 127) (zI : ∀ k : Nat, -128 <= Int32.toInt (qQ k) /\ Int32.toInt (qQ k) <= 127) (hc0 : -1 <= SB /\ SB <= 7) (hc1 : (Int32.toInt aG <= 0 /\ SB = 0) \/ (1 <= Int32.toInt aG /\ SB = Int32.toInt aG - 1)) (hpost : ∀ (r : Int32) (aBT : Int32) (xM : Int32) (xG : Int32) (aAP : Nat) (zS : Int32) (aAz : Int32) (aAm : Int32) (zH : Int32) (aAM : Int32) (zP : Int32) (yO : Int32) (zZ : Int32) (zO : Int32) (aBI : Int32) (aMk : Int32) (aBf : Nat -> Int32) (aBX : Nat -> Int32) (aBl : Nat -> Int32) (aDy : Nat -> Int32) (aIY : Nat -> Int32), (-100 <= Int32.toInt r /\ Int32.toInt r <= 62) -> (0 <= Int32.toInt aBT /\ Int32.toInt aBT <= 0) -> (0 <= Int32.toInt xM /\ Int32.toInt xM <= 16) -> (0 <= Int32.toInt xG /\ Int32.toInt xG <= 0) -> (aAP = 0 \/ aAP = 1 \/ aAP = 2) -> (0 <= Int32.toInt zS /\ Int32.toInt zS <= 80) -> (0 <= Int32.toInt aAz /\ Int32.toInt aAz <= 80) -> (0 <= Int32.toInt aAm /\ Int32.toInt aAm <= 80) -> (-1 <= Int32.toInt zH /\ Int32.toInt zH <= 80) -> (0 <= Int32.toInt aAM /\ Int32.toInt aAM <= 0) -> (0 <= Int32.toInt zP /\ Int32.toInt zP <= 15) -> (0 <= Int32.toInt yO /\ Int32.toInt yO <= 7) -> (0 <= Int32.toInt zZ /\ Int32.toInt zZ <= 1) -> (0 <= Int32.toInt zO /\ Int32.toInt zO <= 63) -> (0 <= Int32.toInt aBI /\ Int32.toInt aBI <= 12) -> (∀ k : Nat, k = 17 -> -1 <= Int32.toInt (aBf k) /\ Int32.toInt (aBf k) <= SB) -> (∀ k : Nat, k = 19 -> 0 <= Int32.toInt (aBf k) /\ Int32.toInt (aBf k) <= 9) -> (∀ k : Nat, k % 21 = 17 -> -1 <= Int32.toInt (aBl k) /\ Int32.toInt (aBl k) <= SB) -> (∀ k : Nat, k % 21 = 19 -> 0 <= Int32.toInt (aBl k) /\ Int32.toInt (aBl k) <= 9) -> (∀ k : Nat, k = 17 -> -1 <= Int32.toInt (aDy k) /\ Int32.toInt (aDy k) <= SB) -> (∀ k : Nat, k = 19 -> 0 <= Int32.toInt (aDy k) /\ Int32.toInt (aDy k) <= 9) -> (∀ k : Nat, -1 <= Int32.toInt (aIY k) /\ Int32.toInt (aIY k) <= 255) -> post r aBT xM xG aAP zS aAz aAm zH aAM zP yO zZ zO aBI aMk aBf aBX aBl aDy aIY) (x3 k1 jC bL bY : Int32) (jD : Nat) (mLn oF rP dQ bZ aR aE bI aW bU fJ : Int32) (qG sW uL vF wJ : Nat -> Int32) (aCH : 0 <= Int32.toInt x3 /\ Int32.toInt x3 <= 62) (h_k1 : 0 <= Int32.toInt k1 /\ Int32.toInt k1 <= 1) (aA4 : 0 <= Int32.toInt jC /\ Int32.toInt jC <= 0) (yJ : 0 <= Int32.toInt bL /\ Int32.toInt bL <= 0) (yG : 0 <= Int32.toInt bY /\ Int32.toInt bY <= 0) (yM : jD = 0 \/ jD = 1 \/ jD = 2) (zE : 0 <= Int32.toInt mLn /\ Int32.toInt mLn <= 80) (aAR : 0 <= Int32.toInt oF /\ Int32.toInt oF <= 80) (aA1 : 0 <= Int32.toInt rP /\ Int32.toInt rP <= 80) (aAA : -1 <= Int32.toInt dQ /\ Int32.toInt dQ <= 80) (zT : 0 <= Int32.toInt bZ /\ Int32.toInt bZ <= 0) (yL : 0 <= Int32.toInt aR /\ Int32.toInt aR <= 15) (xQ : 0 <= Int32.toInt aE /\ Int32.toInt aE <= 7) (yY : 0 <= Int32.toInt bI /\ Int32.toInt bI <= 1) (yK : 0 <= Int32.toInt aW /\ Int32.toInt aW <= 63) (aAZ : 0 <= Int32.toInt bU /\ Int32.toInt bU <= 12) (xU : ∀ k : Nat, k = 17 -> -1 <= Int32.toInt (qG k) /\ Int32.toInt (qG k) <= SB) (xV : ∀ k : Nat, k = 19 -> 0 <= Int32.toInt (qG k) /\ Int32.toInt (qG k) <= 9) (aAo : ∀ k : Nat, k % 21 = 17 -> -1 <= Int32.toInt (uL k) /\ Int32.toInt (uL k) <= SB) (aAp : ∀ k : Nat, k % 21 = 19 -> 0 <= Int32.toInt (uL k) /\ Int32.toInt (uL k) <= 9) (aBP : ∀ k : Nat, k = 17 -> -1 <= Int32.toInt (vF k) /\ Int32.toInt (vF k) <= SB) (aBQ : ∀ k : Nat, k = 19 -> 0 <= Int32.toInt (vF k) /\ Int32.toInt (vF k) <= 9) (aB1 : ∀ k : Nat, -1 <= Int32.toInt (wJ k) /\ Int32.toInt (wJ k) <= 255) : ws_X10_day_186 post bT aG bW m_x gR pW qR nG oO pJ qO qQ x3 k1 jC bL bY jD mLn oF rP dQ bZ aR aE bI aW bU fJ qG sW uL vF wJ := by
  have l0 := aEc
  refine And.intro (aBZ (by omega)) ?_
  intro v1 ev1
  have f2 : Int32.toInt (bL + 1) = Int32.toInt bL + Int32.toInt (1 : Int32) := aAD _ _ (by omega)
  rw [<- ev1] at f2
  refine And.intro (aBZ (by omega)) ?_
  intro v3 ev3
  have f4 : Int32.toInt (v1 + 1) = Int32.toInt v1 + Int32.toInt (1 : Int32) := aAD _ _ (by omega)
  rw [<- ev3] at f4
  exact hpost _ _ _ _ _ _ _ _ _ _ _ _ _ _ _ _ _ _ _ _ _ (by omega) aA4 (by omega) yG yM zE aAR aA1 aAA zT yL xQ yY yK aAZ xU xV aAo aAp aBP aBQ aB1
set_option maxHeartbeats 8000000 in
set_option maxRecDepth 200000 in
theorem ts_X10_day_170 {post : Int32 -> Int32 -> Int32 -> Int32 -> Nat -> Int32 -> Int32 -> Int32 -> Int32 -> Int32 -> Int32 -> Int32 -> Int32 -> Int32 -> Int32 -> Int32 -> (Nat -> Int32) -> (Nat -> Int32) -> (Nat -> Int32) -> (Nat -> Int32) -> (Nat -> Int32) -> Prop} {SB : Int} (bT aG bW : Int32) (m_x gR pW qR nG oO pJ qO qQ : Nat -> Int32) (xJ : 0 <= Int32.toInt bT /\ Int32.toInt bT <= 16) (vZ : 0 <= Int32.toInt aG /\ Int32.toInt aG <= 8) (zQ : 0 <= Int32.toInt bW /\ Int32.toInt bW <= 40) (aAW : ∀ k : Nat, 0 <= Int32.toInt (m_x k) /\ Int32.toInt (m_x k) <= 99) (xK : ∀ k : Nat, 0 <= Int32.toInt (gR k) /\ Int32.toInt (gR k) <= 99) (yR : ∀ k : Nat, 0 <= Int32.toInt (pW k) /\ Int32.toInt (pW k) <= 9) (zM : ∀ k : Nat, 0 <= Int32.toInt (qR k) /\ Int32.toInt (qR k) <= 9) (xT : ∀ k : Nat, 0 <= Int32.toInt (nG k) /\ Int32.toInt (nG k) <= 99) (yF : ∀ k : Nat, 0 <= Int32.toInt (oO k) /\ Int32.toInt (oO k) <= 99) (yD : ∀ k : Nat, k = 4 -> 1 <= Int32.toInt (pJ k) /\ Int32.toInt (pJ k) <= 30) (xZ : ∀ k : Nat, k = 3 -> 0 <= Int32.toInt (pJ k) /\ Int32.toInt (pJ k) <= 9) (zG : ∀ k : Nat, -128 <= Int32.toInt (qO k) /\ Int32.toInt (qO k) <= 127) (zI : ∀ k : Nat, -128 <= Int32.toInt (qQ k) /\ Int32.toInt (qQ k) <= 127) (hc0 : -1 <= SB /\ SB <= 7) (hc1 : (Int32.toInt aG <= 0 /\ SB = 0) \/ (1 <= Int32.toInt aG /\ SB = Int32.toInt aG - 1)) (hpost : ∀ (r : Int32) (aBT : Int32) (xM : Int32) (xG : Int32) (aAP : Nat) (zS : Int32) (aAz : Int32) (aAm : Int32) (zH : Int32) (aAM : Int32) (zP : Int32) (yO : Int32) (zZ : Int32) (zO : Int32) (aBI : Int32) (aMk : Int32) (aBf : Nat -> Int32) (aBX : Nat -> Int32) (aBl : Nat -> Int32) (aDy : Nat -> Int32) (aIY : Nat -> Int32), (-100 <= Int32.toInt r /\ Int32.toInt r <= 62) -> (0 <= Int32.toInt aBT /\ Int32.toInt aBT <= 0) -> (0 <= Int32.toInt xM /\ Int32.toInt xM <= 16) -> (0 <= Int32.toInt xG /\ Int32.toInt xG <= 0) -> (aAP = 0 \/ aAP = 1 \/ aAP = 2) -> (0 <= Int32.toInt zS /\ Int32.toInt zS <= 80) -> (0 <= Int32.toInt aAz /\ Int32.toInt aAz <= 80) -> (0 <= Int32.toInt aAm /\ Int32.toInt aAm <= 80) -> (-1 <= Int32.toInt zH /\ Int32.toInt zH <= 80) -> (0 <= Int32.toInt aAM /\ Int32.toInt aAM <= 0) -> (0 <= Int32.toInt zP /\ Int32.toInt zP <= 15) -> (0 <= Int32.toInt yO /\ Int32.toInt yO <= 7) -> (0 <= Int32.toInt zZ /\ Int32.toInt zZ <= 1) -> (0 <= Int32.toInt zO /\ Int32.toInt zO <= 63) -> (0 <= Int32.toInt aBI /\ Int32.toInt aBI <= 12) -> (∀ k : Nat, k = 17 -> -1 <= Int32.toInt (aBf k) /\ Int32.toInt (aBf k) <= SB) -> (∀ k : Nat, k = 19 -> 0 <= Int32.toInt (aBf k) /\ Int32.toInt (aBf k) <= 9) -> (∀ k : Nat, k % 21 = 17 -> -1 <= Int32.toInt (aBl k) /\ Int32.toInt (aBl k) <= SB) -> (∀ k : Nat, k % 21 = 19 -> 0 <= Int32.toInt (aBl k) /\ Int32.toInt (aBl k) <= 9) -> (∀ k : Nat, k = 17 -> -1 <= Int32.toInt (aDy k) /\ Int32.toInt (aDy k) <= SB) -> (∀ k : Nat, k = 19 -> 0 <= Int32.toInt (aDy k) /\ Int32.toInt (aDy k) <= 9) -> (∀ k : Nat, -1 <= Int32.toInt (aIY k) /\ Int32.toInt (aIY k) <= 255) -> post r aBT xM xG aAP zS aAz aAm zH aAM zP yO zZ zO aBI aMk aBf aBX aBl aDy aIY) (x1 x3 jC bL bY : Int32) (jD : Nat) (mLn oF rP dQ bZ aR aE bI aW bU fJ : Int32) (qG sW uL vF wJ : Nat -> Int32) (aBK : 0 <= Int32.toInt x1 /\ Int32.toInt x1 <= 62) (aCH : 0 <= Int32.toInt x3 /\ Int32.toInt x3 <= 62) (aA4 : 0 <= Int32.toInt jC /\ Int32.toInt jC <= 0) (yJ : 0 <= Int32.toInt bL /\ Int32.toInt bL <= 16) (yG : 0 <= Int32.toInt bY /\ Int32.toInt bY <= 0) (yM : jD = 0 \/ jD = 1 \/ jD = 2) (zE : 0 <= Int32.toInt mLn /\ Int32.toInt mLn <= 80) (aAR : 0 <= Int32.toInt oF /\ Int32.toInt oF <= 80) (aA1 : 0 <= Int32.toInt rP /\ Int32.toInt rP <= 80) (aAA : -1 <= Int32.toInt dQ /\ Int32.toInt dQ <= 80) (zT : 0 <= Int32.toInt bZ /\ Int32.toInt bZ <= 0) (yL : 0 <= Int32.toInt aR /\ Int32.toInt aR <= 15) (xQ : 0 <= Int32.toInt aE /\ Int32.toInt aE <= 7) (yY : 0 <= Int32.toInt bI /\ Int32.toInt bI <= 1) (yK : 0 <= Int32.toInt aW /\ Int32.toInt aW <= 63) (aAZ : 0 <= Int32.toInt bU /\ Int32.toInt bU <= 12) (xU : ∀ k : Nat, k = 17 -> -1 <= Int32.toInt (qG k) /\ Int32.toInt (qG k) <= SB) (xV : ∀ k : Nat, k = 19 -> 0 <= Int32.toInt (qG k) /\ Int32.toInt (qG k) <= 9) (aAo : ∀ k : Nat, k % 21 = 17 -> -1 <= Int32.toInt (uL k) /\ Int32.toInt (uL k) <= SB) (aAp : ∀ k : Nat, k % 21 = 19 -> 0 <= Int32.toInt (uL k) /\ Int32.toInt (uL k) <= 9) (aBP : ∀ k : Nat, k = 17 -> -1 <= Int32.toInt (vF k) /\ Int32.toInt (vF k) <= SB) (aBQ : ∀ k : Nat, k = 19 -> 0 <= Int32.toInt (vF k) /\ Int32.toInt (vF k) <= 9) (aB1 : ∀ k : Nat, -1 <= Int32.toInt (wJ k) /\ Int32.toInt (wJ k) <= 255) : ws_X10_day_170 post bT aG bW m_x gR pW qR nG oO pJ qO qQ x1 x3 jC bL bY jD mLn oF rP dQ bZ aR aE bI aW bU fJ qG sW uL vF wJ := by
  have l0 := aE0
  have l1 := aEc
  refine And.intro (fun c5 => ?_) (fun c5 => ?_)
  · skip
    have c5 := (aAO _ _).mp c5
    have f6 := aAT fJ
    exact ts_X10_day_186 bT aG bW m_x gR pW qR nG oO pJ qO qQ xJ vZ zQ aAW xK yR zM xT yF yD xZ zG zI hc0 hc1 hpost x3 0 jC 0 bY jD mLn oF rP dQ bZ aR aE bI aW bU fJ qG sW uL vF wJ aCH (by omega) aA4 (by omega) yG yM zE aAR aA1 aAA zT yL xQ yY yK aAZ xU xV aAo aAp aBP aBQ aB1
  · skip
    have c5 := mt (aAO _ _).mpr c5
    have f7 := aAT fJ
    exact ts_X10_day_186 bT aG bW m_x gR pW qR nG oO pJ qO qQ xJ vZ zQ aAW xK yR zM xT yF yD xZ zG zI hc0 hc1 hpost x3 1 jC 0 bY jD mLn oF rP dQ bZ aR aE bI aW bU fJ qG sW uL vF wJ aCH (by omega) aA4 (by omega) yG yM zE aAR aA1 aAA zT yL xQ yY yK aAZ xU xV aAo aAp aBP aBQ aB1
set_option maxHeartbeats 8000000 in
set_option maxRecDepth 200000 in
theorem ts_X10_day_158 {post : Int32 -> Int32 -> Int32 -> Int32 -> Nat -> Int32 -> Int32 -> Int32 -> Int32 -> Int32 -> Int32 -> Int32 -> Int32 -> Int32 -> Int32 -> Int32 -> (Nat -> Int32) -> (Nat -> Int32) -> (Nat -> Int32) -> (Nat -> Int32) -> (Nat -> Int32) -> Prop} {SB : Int} (bT aG bW : Int32) (m_x gR pW qR nG oO pJ qO qQ : Nat -> Int32) (xJ : 0 <= Int32.toInt bT /\ Int32.toInt bT <= 16) (vZ : 0 <= Int32.toInt aG /\ Int32.toInt aG <= 8) (zQ : 0 <= Int32.toInt bW /\ Int32.toInt bW <= 40) (aAW : ∀ k : Nat, 0 <= Int32.toInt (m_x k) /\ Int32.toInt (m_x k) <= 99) (xK : ∀ k : Nat, 0 <= Int32.toInt (gR k) /\ Int32.toInt (gR k) <= 99) (yR : ∀ k : Nat, 0 <= Int32.toInt (pW k) /\ Int32.toInt (pW k) <= 9) (zM : ∀ k : Nat, 0 <= Int32.toInt (qR k) /\ Int32.toInt (qR k) <= 9) (xT : ∀ k : Nat, 0 <= Int32.toInt (nG k) /\ Int32.toInt (nG k) <= 99) (yF : ∀ k : Nat, 0 <= Int32.toInt (oO k) /\ Int32.toInt (oO k) <= 99) (yD : ∀ k : Nat, k = 4 -> 1 <= Int32.toInt (pJ k) /\ Int32.toInt (pJ k) <= 30) (xZ : ∀ k : Nat, k = 3 -> 0 <= Int32.toInt (pJ k) /\ Int32.toInt (pJ k) <= 9) (zG : ∀ k : Nat, -128 <= Int32.toInt (qO k) /\ Int32.toInt (qO k) <= 127) (zI : ∀ k : Nat, -128 <= Int32.toInt (qQ k) /\ Int32.toInt (qQ k) <= 127) (hc0 : -1 <= SB /\ SB <= 7) (hc1 : (Int32.toInt aG <= 0 /\ SB = 0) \/ (1 <= Int32.toInt aG /\ SB = Int32.toInt aG - 1)) (hpost : ∀ (r : Int32) (aBT : Int32) (xM : Int32) (xG : Int32) (aAP : Nat) (zS : Int32) (aAz : Int32) (aAm : Int32) (zH : Int32) (aAM : Int32) (zP : Int32) (yO : Int32) (zZ : Int32) (zO : Int32) (aBI : Int32) (aMk : Int32) (aBf : Nat -> Int32) (aBX : Nat -> Int32) (aBl : Nat -> Int32) (aDy : Nat -> Int32) (aIY : Nat -> Int32), (-100 <= Int32.toInt r /\ Int32.toInt r <= 62) -> (0 <= Int32.toInt aBT /\ Int32.toInt aBT <= 0) -> (0 <= Int32.toInt xM /\ Int32.toInt xM <= 16) -> (0 <= Int32.toInt xG /\ Int32.toInt xG <= 0) -> (aAP = 0 \/ aAP = 1 \/ aAP = 2) -> (0 <= Int32.toInt zS /\ Int32.toInt zS <= 80) -> (0 <= Int32.toInt aAz /\ Int32.toInt aAz <= 80) -> (0 <= Int32.toInt aAm /\ Int32.toInt aAm <= 80) -> (-1 <= Int32.toInt zH /\ Int32.toInt zH <= 80) -> (0 <= Int32.toInt aAM /\ Int32.toInt aAM <= 0) -> (0 <= Int32.toInt zP /\ Int32.toInt zP <= 15) -> (0 <= Int32.toInt yO /\ Int32.toInt yO <= 7) -> (0 <= Int32.toInt zZ /\ Int32.toInt zZ <= 1) -> (0 <= Int32.toInt zO /\ Int32.toInt zO <= 63) -> (0 <= Int32.toInt aBI /\ Int32.toInt aBI <= 12) -> (∀ k : Nat, k = 17 -> -1 <= Int32.toInt (aBf k) /\ Int32.toInt (aBf k) <= SB) -> (∀ k : Nat, k = 19 -> 0 <= Int32.toInt (aBf k) /\ Int32.toInt (aBf k) <= 9) -> (∀ k : Nat, k % 21 = 17 -> -1 <= Int32.toInt (aBl k) /\ Int32.toInt (aBl k) <= SB) -> (∀ k : Nat, k % 21 = 19 -> 0 <= Int32.toInt (aBl k) /\ Int32.toInt (aBl k) <= 9) -> (∀ k : Nat, k = 17 -> -1 <= Int32.toInt (aDy k) /\ Int32.toInt (aDy k) <= SB) -> (∀ k : Nat, k = 19 -> 0 <= Int32.toInt (aDy k) /\ Int32.toInt (aDy k) <= 9) -> (∀ k : Nat, -1 <= Int32.toInt (aIY k) /\ Int32.toInt (aIY k) <= 255) -> post r aBT xM xG aAP zS aAz aAm zH aAM zP yO zZ zO aBI aMk aBf aBX aBl aDy aIY) (x1 x3 jC bL bY : Int32) (jD : Nat) (mLn oF rP dQ bZ aR aE bI aW bU fJ : Int32) (qG sW uL vF wJ : Nat -> Int32) (aBK : 0 <= Int32.toInt x1 /\ Int32.toInt x1 <= 62) (aCH : 0 <= Int32.toInt x3 /\ Int32.toInt x3 <= 62) (aA4 : 0 <= Int32.toInt jC /\ Int32.toInt jC <= 0) (yJ : 0 <= Int32.toInt bL /\ Int32.toInt bL <= 16) (yG : 0 <= Int32.toInt bY /\ Int32.toInt bY <= 0) (yM : jD = 0 \/ jD = 1 \/ jD = 2) (zE : 0 <= Int32.toInt mLn /\ Int32.toInt mLn <= 80) (aAR : 0 <= Int32.toInt oF /\ Int32.toInt oF <= 80) (aA1 : 0 <= Int32.toInt rP /\ Int32.toInt rP <= 80) (aAA : -1 <= Int32.toInt dQ /\ Int32.toInt dQ <= 80) (zT : 0 <= Int32.toInt bZ /\ Int32.toInt bZ <= 0) (yL : 0 <= Int32.toInt aR /\ Int32.toInt aR <= 15) (xQ : 0 <= Int32.toInt aE /\ Int32.toInt aE <= 7) (yY : 0 <= Int32.toInt bI /\ Int32.toInt bI <= 1) (yK : 0 <= Int32.toInt aW /\ Int32.toInt aW <= 63) (aAZ : 0 <= Int32.toInt bU /\ Int32.toInt bU <= 12) (xU : ∀ k : Nat, k = 17 -> -1 <= Int32.toInt (qG k) /\ Int32.toInt (qG k) <= SB) (xV : ∀ k : Nat, k = 19 -> 0 <= Int32.toInt (qG k) /\ Int32.toInt (qG k) <= 9) (aAo : ∀ k : Nat, k % 21 = 17 -> -1 <= Int32.toInt (uL k) /\ Int32.toInt (uL k) <= SB) (aAp : ∀ k : Nat, k % 21 = 19 -> 0 <= Int32.toInt (uL k) /\ Int32.toInt (uL k) <= 9) (aBP : ∀ k : Nat, k = 17 -> -1 <= Int32.toInt (vF k) /\ Int32.toInt (vF k) <= SB) (aBQ : ∀ k : Nat, k = 19 -> 0 <= Int32.toInt (vF k) /\ Int32.toInt (vF k) <= 9) (aB1 : ∀ k : Nat, -1 <= Int32.toInt (wJ k) /\ Int32.toInt (wJ k) <= 255) : ws_X10_day_158 post bT aG bW m_x gR pW qR nG oO pJ qO qQ x1 x3 jC bL bY jD mLn oF rP dQ bZ aR aE bI aW bU fJ qG sW uL vF wJ := by
  have l0 := aE0
  refine And.intro (fun c8 => ?_) (fun c8 => ?_)
  · skip
    have c8 := (aAO _ _).mp c8
    have f9 := aAT fJ
    exact ts_X10_day_170 bT aG bW m_x gR pW qR nG oO pJ qO qQ xJ vZ zQ aAW xK yR zM xT yF yD xZ zG zI hc0 hc1 hpost x1 x3 jC bL bY jD mLn oF rP dQ bZ aR aE bI aW bU fJ qG sW uL vF wJ aBK aCH aA4 yJ yG yM zE aAR aA1 aAA zT yL xQ yY yK aAZ xU xV aAo aAp aBP aBQ aB1
  · skip
    have c8 := mt (aAO _ _).mpr c8
    refine t_X10_remember_b2 aAZ aAo aAp aBP aBQ (by omega) (fun m_undoMany_10 m_undos_11 h_m_undoMany_10 e0_m_undos_11 e1_m_undos_11 => ?_)
    have f12 := aAT fJ
    exact ts_X10_day_170 bT aG bW m_x gR pW qR nG oO pJ qO qQ xJ vZ zQ aAW xK yR zM xT yF yD xZ zG zI hc0 hc1 hpost x1 x3 jC bL bY jD mLn oF rP dQ bZ aR aE bI aW m_undoMany_10 fJ qG sW m_undos_11 vF wJ aBK aCH aA4 yJ yG yM zE aAR aA1 aAA zT yL xQ yY yK (by omega) xU xV e0_m_undos_11 e1_m_undos_11 aBP aBQ aB1
set_option maxHeartbeats 8000000 in
set_option maxRecDepth 200000 in
theorem ts_X10_day_122 {post : Int32 -> Int32 -> Int32 -> Int32 -> Nat -> Int32 -> Int32 -> Int32 -> Int32 -> Int32 -> Int32 -> Int32 -> Int32 -> Int32 -> Int32 -> Int32 -> (Nat -> Int32) -> (Nat -> Int32) -> (Nat -> Int32) -> (Nat -> Int32) -> (Nat -> Int32) -> Prop} {SB : Int} {next : Int32 -> Int32 -> Int32 -> Int32 -> Int32 -> Nat -> Int32 -> Int32 -> Int32 -> Int32 -> Int32 -> Int32 -> Int32 -> Int32 -> Int32 -> Int32 -> Int32 -> (Nat -> Int32) -> (Nat -> Int32) -> (Nat -> Int32) -> (Nat -> Int32) -> (Nat -> Int32) -> Prop} {n122 : Int} (bT aG bW : Int32) (m_x gR pW qR nG oO pJ qO qQ : Nat -> Int32) (xJ : 0 <= Int32.toInt bT /\ Int32.toInt bT <= 16) (vZ : 0 <= Int32.toInt aG /\ Int32.toInt aG <= 8) (zQ : 0 <= Int32.toInt bW /\ Int32.toInt bW <= 40) (aAW : ∀ k : Nat, 0 <= Int32.toInt (m_x k) /\ Int32.toInt (m_x k) <= 99) (xK : ∀ k : Nat, 0 <= Int32.toInt (gR k) /\ Int32.toInt (gR k) <= 99) (yR : ∀ k : Nat, 0 <= Int32.toInt (pW k) /\ Int32.toInt (pW k) <= 9) (zM : ∀ k : Nat, 0 <= Int32.toInt (qR k) /\ Int32.toInt (qR k) <= 9) (xT : ∀ k : Nat, 0 <= Int32.toInt (nG k) /\ Int32.toInt (nG k) <= 99) (yF : ∀ k : Nat, 0 <= Int32.toInt (oO k) /\ Int32.toInt (oO k) <= 99) (yD : ∀ k : Nat, k = 4 -> 1 <= Int32.toInt (pJ k) /\ Int32.toInt (pJ k) <= 30) (xZ : ∀ k : Nat, k = 3 -> 0 <= Int32.toInt (pJ k) /\ Int32.toInt (pJ k) <= 9) (zG : ∀ k : Nat, -128 <= Int32.toInt (qO k) /\ Int32.toInt (qO k) <= 127) (zI : ∀ k : Nat, -128 <= Int32.toInt (qQ k) /\ Int32.toInt (qQ k) <= 127) (hc0 : -1 <= SB /\ SB <= 7) (hc1 : (Int32.toInt aG <= 0 /\ SB = 0) \/ (1 <= Int32.toInt aG /\ SB = Int32.toInt aG - 1)) (hpost : ∀ (r : Int32) (aBT : Int32) (xM : Int32) (xG : Int32) (aAP : Nat) (zS : Int32) (aAz : Int32) (aAm : Int32) (zH : Int32) (aAM : Int32) (zP : Int32) (yO : Int32) (zZ : Int32) (zO : Int32) (aBI : Int32) (aMk : Int32) (aBf : Nat -> Int32) (aBX : Nat -> Int32) (aBl : Nat -> Int32) (aDy : Nat -> Int32) (aIY : Nat -> Int32), (-100 <= Int32.toInt r /\ Int32.toInt r <= 62) -> (0 <= Int32.toInt aBT /\ Int32.toInt aBT <= 0) -> (0 <= Int32.toInt xM /\ Int32.toInt xM <= 16) -> (0 <= Int32.toInt xG /\ Int32.toInt xG <= 0) -> (aAP = 0 \/ aAP = 1 \/ aAP = 2) -> (0 <= Int32.toInt zS /\ Int32.toInt zS <= 80) -> (0 <= Int32.toInt aAz /\ Int32.toInt aAz <= 80) -> (0 <= Int32.toInt aAm /\ Int32.toInt aAm <= 80) -> (-1 <= Int32.toInt zH /\ Int32.toInt zH <= 80) -> (0 <= Int32.toInt aAM /\ Int32.toInt aAM <= 0) -> (0 <= Int32.toInt zP /\ Int32.toInt zP <= 15) -> (0 <= Int32.toInt yO /\ Int32.toInt yO <= 7) -> (0 <= Int32.toInt zZ /\ Int32.toInt zZ <= 1) -> (0 <= Int32.toInt zO /\ Int32.toInt zO <= 63) -> (0 <= Int32.toInt aBI /\ Int32.toInt aBI <= 12) -> (∀ k : Nat, k = 17 -> -1 <= Int32.toInt (aBf k) /\ Int32.toInt (aBf k) <= SB) -> (∀ k : Nat, k = 19 -> 0 <= Int32.toInt (aBf k) /\ Int32.toInt (aBf k) <= 9) -> (∀ k : Nat, k % 21 = 17 -> -1 <= Int32.toInt (aBl k) /\ Int32.toInt (aBl k) <= SB) -> (∀ k : Nat, k % 21 = 19 -> 0 <= Int32.toInt (aBl k) /\ Int32.toInt (aBl k) <= 9) -> (∀ k : Nat, k = 17 -> -1 <= Int32.toInt (aDy k) /\ Int32.toInt (aDy k) <= SB) -> (∀ k : Nat, k = 19 -> 0 <= Int32.toInt (aDy k) /\ Int32.toInt (aDy k) <= 9) -> (∀ k : Nat, -1 <= Int32.toInt (aIY k) /\ Int32.toInt (aIY k) <= 255) -> post r aBT xM xG aAP zS aAz aAm zH aAM zP yO zZ zO aBI aMk aBf aBX aBl aDy aIY) (hKn : ∀ (x1 : Int32) (x3 : Int32) (jC : Int32) (bL : Int32) (bY : Int32) (jD : Nat) (mLn : Int32) (oF : Int32) (rP : Int32) (dQ : Int32) (bZ : Int32) (aR : Int32) (aE : Int32) (bI : Int32) (aW : Int32) (bU : Int32) (fJ : Int32) (qG : Nat -> Int32) (sW : Nat -> Int32) (uL : Nat -> Int32) (vF : Nat -> Int32) (wJ : Nat -> Int32), (0 <= Int32.toInt x1 /\ Int32.toInt x1 <= 62) -> (0 <= Int32.toInt x3 /\ Int32.toInt x3 <= 62) -> (0 <= Int32.toInt jC /\ Int32.toInt jC <= 0) -> (0 <= Int32.toInt bL /\ Int32.toInt bL <= 16) -> (0 <= Int32.toInt bY /\ Int32.toInt bY <= 0) -> (jD = 0 \/ jD = 1 \/ jD = 2) -> (0 <= Int32.toInt mLn /\ Int32.toInt mLn <= 80) -> (0 <= Int32.toInt oF /\ Int32.toInt oF <= 80) -> (0 <= Int32.toInt rP /\ Int32.toInt rP <= 80) -> (-1 <= Int32.toInt dQ /\ Int32.toInt dQ <= 80) -> (0 <= Int32.toInt bZ /\ Int32.toInt bZ <= 0) -> (0 <= Int32.toInt aR /\ Int32.toInt aR <= 15) -> (0 <= Int32.toInt aE /\ Int32.toInt aE <= 7) -> (0 <= Int32.toInt bI /\ Int32.toInt bI <= 1) -> (0 <= Int32.toInt aW /\ Int32.toInt aW <= 63) -> (0 <= Int32.toInt bU /\ Int32.toInt bU <= 12) -> (∀ k : Nat, k = 17 -> -1 <= Int32.toInt (qG k) /\ Int32.toInt (qG k) <= SB) -> (∀ k : Nat, k = 19 -> 0 <= Int32.toInt (qG k) /\ Int32.toInt (qG k) <= 9) -> (∀ k : Nat, k % 21 = 17 -> -1 <= Int32.toInt (uL k) /\ Int32.toInt (uL k) <= SB) -> (∀ k : Nat, k % 21 = 19 -> 0 <= Int32.toInt (uL k) /\ Int32.toInt (uL k) <= 9) -> (∀ k : Nat, k = 17 -> -1 <= Int32.toInt (vF k) /\ Int32.toInt (vF k) <= SB) -> (∀ k : Nat, k = 19 -> 0 <= Int32.toInt (vF k) /\ Int32.toInt (vF k) <= 9) -> (∀ k : Nat, -1 <= Int32.toInt (wJ k) /\ Int32.toInt (wJ k) <= 255) -> (62 - Int32.toInt x3 < n122) -> next x1 x3 jC bL bY jD mLn oF rP dQ bZ aR aE bI aW bU fJ qG sW uL vF wJ) (x1 x3 jC bL bY : Int32) (jD : Nat) (mLn oF rP dQ bZ aR aE bI aW bU fJ : Int32) (qG sW uL vF wJ : Nat -> Int32) (aBK : 0 <= Int32.toInt x1 /\ Int32.toInt x1 <= 62) (aCH : 0 <= Int32.toInt x3 /\ Int32.toInt x3 <= 62) (aA4 : 0 <= Int32.toInt jC /\ Int32.toInt jC <= 0) (yJ : 0 <= Int32.toInt bL /\ Int32.toInt bL <= 16) (yG : 0 <= Int32.toInt bY /\ Int32.toInt bY <= 0) (yM : jD = 0 \/ jD = 1 \/ jD = 2) (zE : 0 <= Int32.toInt mLn /\ Int32.toInt mLn <= 80) (aAR : 0 <= Int32.toInt oF /\ Int32.toInt oF <= 80) (aA1 : 0 <= Int32.toInt rP /\ Int32.toInt rP <= 80) (aAA : -1 <= Int32.toInt dQ /\ Int32.toInt dQ <= 80) (zT : 0 <= Int32.toInt bZ /\ Int32.toInt bZ <= 0) (yL : 0 <= Int32.toInt aR /\ Int32.toInt aR <= 15) (xQ : 0 <= Int32.toInt aE /\ Int32.toInt aE <= 7) (yY : 0 <= Int32.toInt bI /\ Int32.toInt bI <= 1) (yK : 0 <= Int32.toInt aW /\ Int32.toInt aW <= 63) (aAZ : 0 <= Int32.toInt bU /\ Int32.toInt bU <= 12) (xU : ∀ k : Nat, k = 17 -> -1 <= Int32.toInt (qG k) /\ Int32.toInt (qG k) <= SB) (xV : ∀ k : Nat, k = 19 -> 0 <= Int32.toInt (qG k) /\ Int32.toInt (qG k) <= 9) (aAo : ∀ k : Nat, k % 21 = 17 -> -1 <= Int32.toInt (uL k) /\ Int32.toInt (uL k) <= SB) (aAp : ∀ k : Nat, k % 21 = 19 -> 0 <= Int32.toInt (uL k) /\ Int32.toInt (uL k) <= 9) (aBP : ∀ k : Nat, k = 17 -> -1 <= Int32.toInt (vF k) /\ Int32.toInt (vF k) <= SB) (aBQ : ∀ k : Nat, k = 19 -> 0 <= Int32.toInt (vF k) /\ Int32.toInt (vF k) <= 9) (aB1 : ∀ k : Nat, -1 <= Int32.toInt (wJ k) /\ Int32.toInt (wJ k) <= 255) (hn122 : 62 - Int32.toInt x3 <= n122) : ws_X10_day_122 post next bT aG bW m_x gR pW qR nG oO pJ qO qQ x1 x3 jC bL bY jD mLn oF rP dQ bZ aR aE bI aW bU fJ qG sW uL vF wJ := by
  have l0 := aE0
  have l1 := aEc
  have l2 := li_2
  refine And.intro (fun c13 => ?_) (fun c13 => ?_)
  · skip
    have c13 := (aAO _ _).mp c13
    have f14 := aAT fJ
    exact ts_X10_day_158 bT aG bW m_x gR pW qR nG oO pJ qO qQ xJ vZ zQ aAW xK yR zM xT yF yD xZ zG zI hc0 hc1 hpost x1 x3 jC bL bY jD mLn oF rP dQ bZ aR aE bI aW bU fJ qG sW uL vF wJ aBK aCH aA4 yJ yG yM zE aAR aA1 aAA zT yL xQ yY yK aAZ xU xV aAo aAp aBP aBQ aB1
  · skip
    have c13 := mt (aAO _ _).mpr c13
    intro v15 ev15
    have f16 : Int32.toInt (2 * x3) = Int32.toInt x3 * 2 := ta_cmul _ _ (by decide) (by omega)
    rw [<- ev15] at f16
    refine And.intro (aBZ (by omega)) ?_
    intro v17 ev17
    have f18 := aB1 v15.toNatClampNeg
    have hv17 := congrArg Int32.toInt ev17
    intro v19 ev19
    have hv19 := congrArg Int32.toInt (ev19.trans ev15.symm)
    intro v20 ev20
    have f21 : Int32.toInt (v19 + 1) = Int32.toInt v19 + Int32.toInt (1 : Int32) := aAD _ _ (by omega)
    rw [<- ev20] at f21
    refine And.intro (aBZ (by omega)) ?_
    intro v22 ev22
    have f23 := aB1 v20.toNatClampNeg
    have hv22 := congrArg Int32.toInt ev22
    refine t_X10_act (by omega) (by omega) xJ vZ yM zE aAR aA1 aAA zQ zT yL xQ yY yK xU xV aAW xK yR zM xT yF yD xZ zG zI (by omega) (by omega) (fun r36 m_read_24 m_length_25 m_top_26 m_at_27 aVK m_isAsked_29 m_askedFruit_30 m_askedStanding_31 m_askedHook_32 m_askedApron_33 m_picked_34 m_now_35 h_r36 h_m_read_24 h_m_length_25 h_m_top_26 h_m_at_27 h_m_wrong_28 h_m_isAsked_29 h_m_askedFruit_30 h_m_askedStanding_31 h_m_askedHook_32 h_m_askedApron_33 e0_m_now_35 e1_m_now_35 => ?_)
    refine And.intro (fun c37 => ?_) (fun c37 => ?_)
    · skip
      have c37 := (zJ _ _).mp c37
      have f38 := aAT m_picked_34
      exact ts_X10_day_158 bT aG bW m_x gR pW qR nG oO pJ qO qQ xJ vZ zQ aAW xK yR zM xT yF yD xZ zG zI hc0 hc1 hpost x1 x3 jC bL bY m_read_24 m_length_25 m_top_26 m_at_27 aVK m_isAsked_29 m_askedFruit_30 m_askedStanding_31 m_askedHook_32 m_askedApron_33 bU m_picked_34 m_now_35 sW uL vF wJ aBK aCH aA4 yJ yG h_m_read_24 h_m_length_25 h_m_top_26 h_m_at_27 h_m_wrong_28 h_m_isAsked_29 h_m_askedFruit_30 h_m_askedStanding_31 h_m_askedHook_32 h_m_askedApron_33 aAZ e0_m_now_35 e1_m_now_35 aAo aAp aBP aBQ aB1
    · skip
      have c37 := mt (zJ _ _).mpr c37
      intro v39 ev39
      have f40 : Int32.toInt (x3 + 1) = Int32.toInt x3 + Int32.toInt (1 : Int32) := aAD _ _ (by omega)
      rw [<- ev39] at f40
      have f41 := aAT m_picked_34
      exact hKn x1 v39 jC bL bY m_read_24 m_length_25 m_top_26 m_at_27 aVK m_isAsked_29 m_askedFruit_30 m_askedStanding_31 m_askedHook_32 m_askedApron_33 bU m_picked_34 m_now_35 sW uL vF wJ aBK (by omega) aA4 yJ yG h_m_read_24 h_m_length_25 h_m_top_26 h_m_at_27 h_m_wrong_28 h_m_isAsked_29 h_m_askedFruit_30 h_m_askedStanding_31 h_m_askedHook_32 h_m_askedApron_33 aAZ e0_m_now_35 e1_m_now_35 aAo aAp aBP aBQ aB1 (by omega)
set_option maxHeartbeats 8000000 in
set_option maxRecDepth 200000 in
theorem tb_X10_day_122 {post : Int32 -> Int32 -> Int32 -> Int32 -> Nat -> Int32 -> Int32 -> Int32 -> Int32 -> Int32 -> Int32 -> Int32 -> Int32 -> Int32 -> Int32 -> Int32 -> (Nat -> Int32) -> (Nat -> Int32) -> (Nat -> Int32) -> (Nat -> Int32) -> (Nat -> Int32) -> Prop} {SB : Int} (bT aG bW : Int32) (m_x gR pW qR nG oO pJ qO qQ : Nat -> Int32) (xJ : 0 <= Int32.toInt bT /\ Int32.toInt bT <= 16) (vZ : 0 <= Int32.toInt aG /\ Int32.toInt aG <= 8) (zQ : 0 <= Int32.toInt bW /\ Int32.toInt bW <= 40) (aAW : ∀ k : Nat, 0 <= Int32.toInt (m_x k) /\ Int32.toInt (m_x k) <= 99) (xK : ∀ k : Nat, 0 <= Int32.toInt (gR k) /\ Int32.toInt (gR k) <= 99) (yR : ∀ k : Nat, 0 <= Int32.toInt (pW k) /\ Int32.toInt (pW k) <= 9) (zM : ∀ k : Nat, 0 <= Int32.toInt (qR k) /\ Int32.toInt (qR k) <= 9) (xT : ∀ k : Nat, 0 <= Int32.toInt (nG k) /\ Int32.toInt (nG k) <= 99) (yF : ∀ k : Nat, 0 <= Int32.toInt (oO k) /\ Int32.toInt (oO k) <= 99) (yD : ∀ k : Nat, k = 4 -> 1 <= Int32.toInt (pJ k) /\ Int32.toInt (pJ k) <= 30) (xZ : ∀ k : Nat, k = 3 -> 0 <= Int32.toInt (pJ k) /\ Int32.toInt (pJ k) <= 9) (zG : ∀ k : Nat, -128 <= Int32.toInt (qO k) /\ Int32.toInt (qO k) <= 127) (zI : ∀ k : Nat, -128 <= Int32.toInt (qQ k) /\ Int32.toInt (qQ k) <= 127) (hc0 : -1 <= SB /\ SB <= 7) (hc1 : (Int32.toInt aG <= 0 /\ SB = 0) \/ (1 <= Int32.toInt aG /\ SB = Int32.toInt aG - 1)) (hpost : ∀ (r : Int32) (aBT : Int32) (xM : Int32) (xG : Int32) (aAP : Nat) (zS : Int32) (aAz : Int32) (aAm : Int32) (zH : Int32) (aAM : Int32) (zP : Int32) (yO : Int32) (zZ : Int32) (zO : Int32) (aBI : Int32) (aMk : Int32) (aBf : Nat -> Int32) (aBX : Nat -> Int32) (aBl : Nat -> Int32) (aDy : Nat -> Int32) (aIY : Nat -> Int32), (-100 <= Int32.toInt r /\ Int32.toInt r <= 62) -> (0 <= Int32.toInt aBT /\ Int32.toInt aBT <= 0) -> (0 <= Int32.toInt xM /\ Int32.toInt xM <= 16) -> (0 <= Int32.toInt xG /\ Int32.toInt xG <= 0) -> (aAP = 0 \/ aAP = 1 \/ aAP = 2) -> (0 <= Int32.toInt zS /\ Int32.toInt zS <= 80) -> (0 <= Int32.toInt aAz /\ Int32.toInt aAz <= 80) -> (0 <= Int32.toInt aAm /\ Int32.toInt aAm <= 80) -> (-1 <= Int32.toInt zH /\ Int32.toInt zH <= 80) -> (0 <= Int32.toInt aAM /\ Int32.toInt aAM <= 0) -> (0 <= Int32.toInt zP /\ Int32.toInt zP <= 15) -> (0 <= Int32.toInt yO /\ Int32.toInt yO <= 7) -> (0 <= Int32.toInt zZ /\ Int32.toInt zZ <= 1) -> (0 <= Int32.toInt zO /\ Int32.toInt zO <= 63) -> (0 <= Int32.toInt aBI /\ Int32.toInt aBI <= 12) -> (∀ k : Nat, k = 17 -> -1 <= Int32.toInt (aBf k) /\ Int32.toInt (aBf k) <= SB) -> (∀ k : Nat, k = 19 -> 0 <= Int32.toInt (aBf k) /\ Int32.toInt (aBf k) <= 9) -> (∀ k : Nat, k % 21 = 17 -> -1 <= Int32.toInt (aBl k) /\ Int32.toInt (aBl k) <= SB) -> (∀ k : Nat, k % 21 = 19 -> 0 <= Int32.toInt (aBl k) /\ Int32.toInt (aBl k) <= 9) -> (∀ k : Nat, k = 17 -> -1 <= Int32.toInt (aDy k) /\ Int32.toInt (aDy k) <= SB) -> (∀ k : Nat, k = 19 -> 0 <= Int32.toInt (aDy k) /\ Int32.toInt (aDy k) <= 9) -> (∀ k : Nat, -1 <= Int32.toInt (aIY k) /\ Int32.toInt (aIY k) <= 255) -> post r aBT xM xG aAP zS aAz aAm zH aAM zP yO zZ zO aBI aMk aBf aBX aBl aDy aIY) : ∀ (n : Nat) (x1 x3 jC bL bY : Int32) (jD : Nat) (mLn oF rP dQ bZ aR aE bI aW bU fJ : Int32) (qG sW uL vF wJ : Nat -> Int32), (0 <= Int32.toInt x1 /\ Int32.toInt x1 <= 62) -> (0 <= Int32.toInt x3 /\ Int32.toInt x3 <= 62) -> (0 <= Int32.toInt jC /\ Int32.toInt jC <= 0) -> (0 <= Int32.toInt bL /\ Int32.toInt bL <= 16) -> (0 <= Int32.toInt bY /\ Int32.toInt bY <= 0) -> (jD = 0 \/ jD = 1 \/ jD = 2) -> (0 <= Int32.toInt mLn /\ Int32.toInt mLn <= 80) -> (0 <= Int32.toInt oF /\ Int32.toInt oF <= 80) -> (0 <= Int32.toInt rP /\ Int32.toInt rP <= 80) -> (-1 <= Int32.toInt dQ /\ Int32.toInt dQ <= 80) -> (0 <= Int32.toInt bZ /\ Int32.toInt bZ <= 0) -> (0 <= Int32.toInt aR /\ Int32.toInt aR <= 15) -> (0 <= Int32.toInt aE /\ Int32.toInt aE <= 7) -> (0 <= Int32.toInt bI /\ Int32.toInt bI <= 1) -> (0 <= Int32.toInt aW /\ Int32.toInt aW <= 63) -> (0 <= Int32.toInt bU /\ Int32.toInt bU <= 12) -> (∀ k : Nat, k = 17 -> -1 <= Int32.toInt (qG k) /\ Int32.toInt (qG k) <= SB) -> (∀ k : Nat, k = 19 -> 0 <= Int32.toInt (qG k) /\ Int32.toInt (qG k) <= 9) -> (∀ k : Nat, k % 21 = 17 -> -1 <= Int32.toInt (uL k) /\ Int32.toInt (uL k) <= SB) -> (∀ k : Nat, k % 21 = 19 -> 0 <= Int32.toInt (uL k) /\ Int32.toInt (uL k) <= 9) -> (∀ k : Nat, k = 17 -> -1 <= Int32.toInt (vF k) /\ Int32.toInt (vF k) <= SB) -> (∀ k : Nat, k = 19 -> 0 <= Int32.toInt (vF k) /\ Int32.toInt (vF k) <= 9) -> (∀ k : Nat, -1 <= Int32.toInt (wJ k) /\ Int32.toInt (wJ k) <= 255) -> (62 - Int32.toInt x3 < (n : Int)) -> wb_X10_day_122 post bT aG bW m_x gR pW qR nG oO pJ qO qQ n x1 x3 jC bL bY jD mLn oF rP dQ bZ aR aE bI aW bU fJ qG sW uL vF wJ := by
  intro n
  induction n with
  | zero =>
    intro x1 x3 jC bL bY jD mLn oF rP dQ bZ aR aE bI aW bU fJ qG sW uL vF wJ aBK aCH aA4 yJ yG yM zE aAR aA1 aAA zT yL xQ yY yK aAZ xU xV aAo aAp aBP aBQ aB1 hm
    exfalso; omega
  | succ n ih =>
    intro x1 x3 jC bL bY jD mLn oF rP dQ bZ aR aE bI aW bU fJ qG sW uL vF wJ aBK aCH aA4 yJ yG yM zE aAR aA1 aAA zT yL xQ yY yK aAZ xU xV aAo aAp aBP aBQ aB1 hm
    exact ts_X10_day_122 bT aG bW m_x gR pW qR nG oO pJ qO qQ xJ vZ zQ aAW xK yR zM xT yF yD xZ zG zI hc0 hc1 hpost ih x1 x3 jC bL bY jD mLn oF rP dQ bZ aR aE bI aW bU fJ qG sW uL vF wJ aBK aCH aA4 yJ yG yM zE aAR aA1 aAA zT yL xQ yY yK aAZ xU xV aAo aAp aBP aBQ aB1 (by omega)
set_option maxHeartbeats 8000000 in
set_option maxRecDepth 200000 in
theorem ts_X10_day_89 {post : Int32 -> Int32 -> Int32 -> Int32 -> Nat -> Int32 -> Int32 -> Int32 -> Int32 -> Int32 -> Int32 -> Int32 -> Int32 -> Int32 -> Int32 -> Int32 -> (Nat -> Int32) -> (Nat -> Int32) -> (Nat -> Int32) -> (Nat -> Int32) -> (Nat -> Int32) -> Prop} {SB : Int} (bT aG bW : Int32) (m_x gR pW qR nG oO pJ qO qQ : Nat -> Int32) (xJ : 0 <= Int32.toInt bT /\ Int32.toInt bT <= 16) (vZ : 0 <= Int32.toInt aG /\ Int32.toInt aG <= 8) (zQ : 0 <= Int32.toInt bW /\ Int32.toInt bW <= 40) (aAW : ∀ k : Nat, 0 <= Int32.toInt (m_x k) /\ Int32.toInt (m_x k) <= 99) (xK : ∀ k : Nat, 0 <= Int32.toInt (gR k) /\ Int32.toInt (gR k) <= 99) (yR : ∀ k : Nat, 0 <= Int32.toInt (pW k) /\ Int32.toInt (pW k) <= 9) (zM : ∀ k : Nat, 0 <= Int32.toInt (qR k) /\ Int32.toInt (qR k) <= 9) (xT : ∀ k : Nat, 0 <= Int32.toInt (nG k) /\ Int32.toInt (nG k) <= 99) (yF : ∀ k : Nat, 0 <= Int32.toInt (oO k) /\ Int32.toInt (oO k) <= 99) (yD : ∀ k : Nat, k = 4 -> 1 <= Int32.toInt (pJ k) /\ Int32.toInt (pJ k) <= 30) (xZ : ∀ k : Nat, k = 3 -> 0 <= Int32.toInt (pJ k) /\ Int32.toInt (pJ k) <= 9) (zG : ∀ k : Nat, -128 <= Int32.toInt (qO k) /\ Int32.toInt (qO k) <= 127) (zI : ∀ k : Nat, -128 <= Int32.toInt (qQ k) /\ Int32.toInt (qQ k) <= 127) (hc0 : -1 <= SB /\ SB <= 7) (hc1 : (Int32.toInt aG <= 0 /\ SB = 0) \/ (1 <= Int32.toInt aG /\ SB = Int32.toInt aG - 1)) (hpost : ∀ (r : Int32) (aBT : Int32) (xM : Int32) (xG : Int32) (aAP : Nat) (zS : Int32) (aAz : Int32) (aAm : Int32) (zH : Int32) (aAM : Int32) (zP : Int32) (yO : Int32) (zZ : Int32) (zO : Int32) (aBI : Int32) (aMk : Int32) (aBf : Nat -> Int32) (aBX : Nat -> Int32) (aBl : Nat -> Int32) (aDy : Nat -> Int32) (aIY : Nat -> Int32), (-100 <= Int32.toInt r /\ Int32.toInt r <= 62) -> (0 <= Int32.toInt aBT /\ Int32.toInt aBT <= 0) -> (0 <= Int32.toInt xM /\ Int32.toInt xM <= 16) -> (0 <= Int32.toInt xG /\ Int32.toInt xG <= 0) -> (aAP = 0 \/ aAP = 1 \/ aAP = 2) -> (0 <= Int32.toInt zS /\ Int32.toInt zS <= 80) -> (0 <= Int32.toInt aAz /\ Int32.toInt aAz <= 80) -> (0 <= Int32.toInt aAm /\ Int32.toInt aAm <= 80) -> (-1 <= Int32.toInt zH /\ Int32.toInt zH <= 80) -> (0 <= Int32.toInt aAM /\ Int32.toInt aAM <= 0) -> (0 <= Int32.toInt zP /\ Int32.toInt zP <= 15) -> (0 <= Int32.toInt yO /\ Int32.toInt yO <= 7) -> (0 <= Int32.toInt zZ /\ Int32.toInt zZ <= 1) -> (0 <= Int32.toInt zO /\ Int32.toInt zO <= 63) -> (0 <= Int32.toInt aBI /\ Int32.toInt aBI <= 12) -> (∀ k : Nat, k = 17 -> -1 <= Int32.toInt (aBf k) /\ Int32.toInt (aBf k) <= SB) -> (∀ k : Nat, k = 19 -> 0 <= Int32.toInt (aBf k) /\ Int32.toInt (aBf k) <= 9) -> (∀ k : Nat, k % 21 = 17 -> -1 <= Int32.toInt (aBl k) /\ Int32.toInt (aBl k) <= SB) -> (∀ k : Nat, k % 21 = 19 -> 0 <= Int32.toInt (aBl k) /\ Int32.toInt (aBl k) <= 9) -> (∀ k : Nat, k = 17 -> -1 <= Int32.toInt (aDy k) /\ Int32.toInt (aDy k) <= SB) -> (∀ k : Nat, k = 19 -> 0 <= Int32.toInt (aDy k) /\ Int32.toInt (aDy k) <= 9) -> (∀ k : Nat, -1 <= Int32.toInt (aIY k) /\ Int32.toInt (aIY k) <= 255) -> post r aBT xM xG aAP zS aAz aAm zH aAM zP yO zZ zO aBI aMk aBf aBX aBl aDy aIY) (x1 jC bL bY : Int32) (jD : Nat) (mLn oF rP dQ bZ aR aE bI aW bU fJ : Int32) (qG sW uL vF wJ : Nat -> Int32) (aBK : 0 <= Int32.toInt x1 /\ Int32.toInt x1 <= 62) (aA4 : 0 <= Int32.toInt jC /\ Int32.toInt jC <= 0) (yJ : 0 <= Int32.toInt bL /\ Int32.toInt bL <= 16) (yG : 0 <= Int32.toInt bY /\ Int32.toInt bY <= 0) (yM : jD = 1) (zE : 0 <= Int32.toInt mLn /\ Int32.toInt mLn <= 80) (aAR : 60 <= Int32.toInt oF /\ Int32.toInt oF <= 60) (aA1 : 0 <= Int32.toInt rP /\ Int32.toInt rP <= 80) (aAA : -1 <= Int32.toInt dQ /\ Int32.toInt dQ <= 80) (zT : 0 <= Int32.toInt bZ /\ Int32.toInt bZ <= 0) (yL : 0 <= Int32.toInt aR /\ Int32.toInt aR <= 15) (xQ : 0 <= Int32.toInt aE /\ Int32.toInt aE <= 7) (yY : 0 <= Int32.toInt bI /\ Int32.toInt bI <= 1) (yK : 0 <= Int32.toInt aW /\ Int32.toInt aW <= 63) (aAZ : 0 <= Int32.toInt bU /\ Int32.toInt bU <= 12) (xU : ∀ k : Nat, k = 17 -> -1 <= Int32.toInt (qG k) /\ Int32.toInt (qG k) <= SB) (xV : ∀ k : Nat, k = 19 -> 0 <= Int32.toInt (qG k) /\ Int32.toInt (qG k) <= 9) (aAo : ∀ k : Nat, k % 21 = 17 -> -1 <= Int32.toInt (uL k) /\ Int32.toInt (uL k) <= SB) (aAp : ∀ k : Nat, k % 21 = 19 -> 0 <= Int32.toInt (uL k) /\ Int32.toInt (uL k) <= 9) (aBP : ∀ k : Nat, k = 17 -> -1 <= Int32.toInt (vF k) /\ Int32.toInt (vF k) <= SB) (aBQ : ∀ k : Nat, k = 19 -> 0 <= Int32.toInt (vF k) /\ Int32.toInt (vF k) <= 9) (aB1 : ∀ k : Nat, -1 <= Int32.toInt (wJ k) /\ Int32.toInt (wJ k) <= 255) : ws_X10_day_89 post bT aG bW m_x gR pW qR nG oO pJ qO qQ x1 jC bL bY jD mLn oF rP dQ bZ aR aE bI aW bU fJ qG sW uL vF wJ := by
  have l0 := aI2
  have l1 := aE0
  refine And.intro (fun c42 => ?_) (fun c42 => ?_)
  · skip
    have c42 := mt (zJ _ _).mpr c42
    refine And.intro (fun h9 => absurd h9 (by decide)) (fun _ => ?_)
    have f43 : Int32.toInt ((-1) - dQ) = Int32.toInt ((-1) : Int32) - Int32.toInt dQ := aCA _ _ (by omega)
    obtain ⟨w44, ew44⟩ : ∃ w9 : Int32, w9 = (-1) - dQ := ⟨_, rfl⟩
    rw [<- ew44] at f43
    have key9 := hpost w44 jC bL bY jD mLn oF rP dQ bZ aR aE bI aW bU fJ qG sW uL vF wJ (by omega) aA4 yJ yG (by first | exact yM | exact Or.inl rfl | exact Or.inr rfl | omega) zE (by omega) aA1 aAA zT yL xQ yY yK aAZ xU xV aAo aAp aBP aBQ aB1
    subst ew44
    exact key9
  · skip
    have c42 := (zJ _ _).mp c42
    refine And.intro (fun _ => ?_) (fun h9 => absurd h9 (by decide))
    refine t_X10_lay_b2 (by omega) xU xV aBP aBQ (by omega) (by omega) (fun m_aside_45 e0_m_aside_45 e1_m_aside_45 => ?_)
    exact ⟨64, tb_X10_day_122 bT aG bW m_x gR pW qR nG oO pJ qO qQ xJ vZ zQ aAW xK yR zM xT yF yD xZ zG zI hc0 hc1 hpost _ x1 0 jC bL bY jD mLn oF rP dQ bZ aR aE bI aW bU 0 qG sW uL m_aside_45 wJ aBK (by omega) aA4 yJ yG (by first | exact yM | exact Or.inl rfl | exact Or.inr rfl | omega) zE (by omega) aA1 aAA zT yL xQ yY yK aAZ xU xV aAo aAp e0_m_aside_45 e1_m_aside_45 aB1 (by omega)⟩
set_option maxHeartbeats 8000000 in
set_option maxRecDepth 200000 in
theorem ts_X10_day_70 {post : Int32 -> Int32 -> Int32 -> Int32 -> Nat -> Int32 -> Int32 -> Int32 -> Int32 -> Int32 -> Int32 -> Int32 -> Int32 -> Int32 -> Int32 -> Int32 -> (Nat -> Int32) -> (Nat -> Int32) -> (Nat -> Int32) -> (Nat -> Int32) -> (Nat -> Int32) -> Prop} {SB : Int} (bT aG bW : Int32) (m_x gR pW qR nG oO pJ qO qQ : Nat -> Int32) (xJ : 0 <= Int32.toInt bT /\ Int32.toInt bT <= 16) (vZ : 0 <= Int32.toInt aG /\ Int32.toInt aG <= 8) (zQ : 0 <= Int32.toInt bW /\ Int32.toInt bW <= 40) (aAW : ∀ k : Nat, 0 <= Int32.toInt (m_x k) /\ Int32.toInt (m_x k) <= 99) (xK : ∀ k : Nat, 0 <= Int32.toInt (gR k) /\ Int32.toInt (gR k) <= 99) (yR : ∀ k : Nat, 0 <= Int32.toInt (pW k) /\ Int32.toInt (pW k) <= 9) (zM : ∀ k : Nat, 0 <= Int32.toInt (qR k) /\ Int32.toInt (qR k) <= 9) (xT : ∀ k : Nat, 0 <= Int32.toInt (nG k) /\ Int32.toInt (nG k) <= 99) (yF : ∀ k : Nat, 0 <= Int32.toInt (oO k) /\ Int32.toInt (oO k) <= 99) (yD : ∀ k : Nat, k = 4 -> 1 <= Int32.toInt (pJ k) /\ Int32.toInt (pJ k) <= 30) (xZ : ∀ k : Nat, k = 3 -> 0 <= Int32.toInt (pJ k) /\ Int32.toInt (pJ k) <= 9) (zG : ∀ k : Nat, -128 <= Int32.toInt (qO k) /\ Int32.toInt (qO k) <= 127) (zI : ∀ k : Nat, -128 <= Int32.toInt (qQ k) /\ Int32.toInt (qQ k) <= 127) (hc0 : -1 <= SB /\ SB <= 7) (hc1 : (Int32.toInt aG <= 0 /\ SB = 0) \/ (1 <= Int32.toInt aG /\ SB = Int32.toInt aG - 1)) (hpost : ∀ (r : Int32) (aBT : Int32) (xM : Int32) (xG : Int32) (aAP : Nat) (zS : Int32) (aAz : Int32) (aAm : Int32) (zH : Int32) (aAM : Int32) (zP : Int32) (yO : Int32) (zZ : Int32) (zO : Int32) (aBI : Int32) (aMk : Int32) (aBf : Nat -> Int32) (aBX : Nat -> Int32) (aBl : Nat -> Int32) (aDy : Nat -> Int32) (aIY : Nat -> Int32), (-100 <= Int32.toInt r /\ Int32.toInt r <= 62) -> (0 <= Int32.toInt aBT /\ Int32.toInt aBT <= 0) -> (0 <= Int32.toInt xM /\ Int32.toInt xM <= 16) -> (0 <= Int32.toInt xG /\ Int32.toInt xG <= 0) -> (aAP = 0 \/ aAP = 1 \/ aAP = 2) -> (0 <= Int32.toInt zS /\ Int32.toInt zS <= 80) -> (0 <= Int32.toInt aAz /\ Int32.toInt aAz <= 80) -> (0 <= Int32.toInt aAm /\ Int32.toInt aAm <= 80) -> (-1 <= Int32.toInt zH /\ Int32.toInt zH <= 80) -> (0 <= Int32.toInt aAM /\ Int32.toInt aAM <= 0) -> (0 <= Int32.toInt zP /\ Int32.toInt zP <= 15) -> (0 <= Int32.toInt yO /\ Int32.toInt yO <= 7) -> (0 <= Int32.toInt zZ /\ Int32.toInt zZ <= 1) -> (0 <= Int32.toInt zO /\ Int32.toInt zO <= 63) -> (0 <= Int32.toInt aBI /\ Int32.toInt aBI <= 12) -> (∀ k : Nat, k = 17 -> -1 <= Int32.toInt (aBf k) /\ Int32.toInt (aBf k) <= SB) -> (∀ k : Nat, k = 19 -> 0 <= Int32.toInt (aBf k) /\ Int32.toInt (aBf k) <= 9) -> (∀ k : Nat, k % 21 = 17 -> -1 <= Int32.toInt (aBl k) /\ Int32.toInt (aBl k) <= SB) -> (∀ k : Nat, k % 21 = 19 -> 0 <= Int32.toInt (aBl k) /\ Int32.toInt (aBl k) <= 9) -> (∀ k : Nat, k = 17 -> -1 <= Int32.toInt (aDy k) /\ Int32.toInt (aDy k) <= SB) -> (∀ k : Nat, k = 19 -> 0 <= Int32.toInt (aDy k) /\ Int32.toInt (aDy k) <= 9) -> (∀ k : Nat, -1 <= Int32.toInt (aIY k) /\ Int32.toInt (aIY k) <= 255) -> post r aBT xM xG aAP zS aAz aAm zH aAM zP yO zZ zO aBI aMk aBf aBX aBl aDy aIY) (x1 jC bL bY : Int32) (jD : Nat) (mLn oF rP dQ bZ aR aE bI aW bU fJ : Int32) (qG sW uL vF wJ : Nat -> Int32) (aBK : 0 <= Int32.toInt x1 /\ Int32.toInt x1 <= 62) (aA4 : 0 <= Int32.toInt jC /\ Int32.toInt jC <= 0) (yJ : 0 <= Int32.toInt bL /\ Int32.toInt bL <= 16) (yG : 0 <= Int32.toInt bY /\ Int32.toInt bY <= 0) (yM : jD = 1) (zE : 0 <= Int32.toInt mLn /\ Int32.toInt mLn <= 80) (aAR : 60 <= Int32.toInt oF /\ Int32.toInt oF <= 60) (aA1 : 0 <= Int32.toInt rP /\ Int32.toInt rP <= 80) (aAA : -1 <= Int32.toInt dQ /\ Int32.toInt dQ <= 80) (zT : 0 <= Int32.toInt bZ /\ Int32.toInt bZ <= 0) (yL : 0 <= Int32.toInt aR /\ Int32.toInt aR <= 15) (xQ : 0 <= Int32.toInt aE /\ Int32.toInt aE <= 7) (yY : 0 <= Int32.toInt bI /\ Int32.toInt bI <= 1) (yK : 0 <= Int32.toInt aW /\ Int32.toInt aW <= 63) (aAZ : 0 <= Int32.toInt bU /\ Int32.toInt bU <= 12) (xU : ∀ k : Nat, k = 17 -> -1 <= Int32.toInt (qG k) /\ Int32.toInt (qG k) <= SB) (xV : ∀ k : Nat, k = 19 -> 0 <= Int32.toInt (qG k) /\ Int32.toInt (qG k) <= 9) (aAo : ∀ k : Nat, k % 21 = 17 -> -1 <= Int32.toInt (uL k) /\ Int32.toInt (uL k) <= SB) (aAp : ∀ k : Nat, k % 21 = 19 -> 0 <= Int32.toInt (uL k) /\ Int32.toInt (uL k) <= 9) (aBP : ∀ k : Nat, k = 17 -> -1 <= Int32.toInt (vF k) /\ Int32.toInt (vF k) <= SB) (aBQ : ∀ k : Nat, k = 19 -> 0 <= Int32.toInt (vF k) /\ Int32.toInt (vF k) <= 9) (aB1 : ∀ k : Nat, -1 <= Int32.toInt (wJ k) /\ Int32.toInt (wJ k) <= 255) : ws_X10_day_70 post bT aG bW m_x gR pW qR nG oO pJ qO qQ x1 jC bL bY jD mLn oF rP dQ bZ aR aE bI aW bU fJ qG sW uL vF wJ := by
  have l0 := aI2
  refine And.intro (fun c46 => ?_) (fun c46 => ?_)
  · skip
    have c46 := (aAO _ _).mp c46
    have f47 := aAT fJ
    exact ts_X10_day_89 bT aG bW m_x gR pW qR nG oO pJ qO qQ xJ vZ zQ aAW xK yR zM xT yF yD xZ zG zI hc0 hc1 hpost x1 jC bL bY jD mLn oF rP dQ bZ aR aE bI aW bU fJ qG sW uL vF wJ aBK aA4 yJ yG yM zE aAR aA1 aAA zT yL xQ yY yK aAZ xU xV aAo aAp aBP aBQ aB1
  · skip
    have c46 := mt (aAO _ _).mpr c46
    refine And.intro (fun c48 => ?_) (fun c48 => ?_)
    · skip
      have c48 := mt (zJ _ _).mpr c48
      refine And.intro (fun _ => ?_) (fun h9 => absurd h9 (by decide))
      have f49 := aAT fJ
      exact ts_X10_day_89 bT aG bW m_x gR pW qR nG oO pJ qO qQ xJ vZ zQ aAW xK yR zM xT yF yD xZ zG zI hc0 hc1 hpost x1 jC bL bY jD mLn oF rP dQ bZ aR aE bI aW bU fJ qG sW uL vF wJ aBK aA4 yJ yG yM zE aAR aA1 aAA zT yL xQ yY yK aAZ xU xV aAo aAp aBP aBQ aB1
    · skip
      have c48 := (zJ _ _).mp c48
      refine And.intro (fun h9 => absurd h9 (by decide)) (fun _ => ?_)
      have f50 := aAT fJ
      exact ts_X10_day_89 bT aG bW m_x gR pW qR nG oO pJ qO qQ xJ vZ zQ aAW xK yR zM xT yF yD xZ zG zI hc0 hc1 hpost x1 jC bL bY jD mLn oF rP rP bZ aR aE bI aW bU fJ qG sW uL vF wJ aBK aA4 yJ yG yM zE aAR aA1 (by omega) zT yL xQ yY yK aAZ xU xV aAo aAp aBP aBQ aB1
set_option maxHeartbeats 8000000 in
set_option maxRecDepth 200000 in
theorem ts_X10_day_39 {post : Int32 -> Int32 -> Int32 -> Int32 -> Nat -> Int32 -> Int32 -> Int32 -> Int32 -> Int32 -> Int32 -> Int32 -> Int32 -> Int32 -> Int32 -> Int32 -> (Nat -> Int32) -> (Nat -> Int32) -> (Nat -> Int32) -> (Nat -> Int32) -> (Nat -> Int32) -> Prop} {SB : Int} {next : Int32 -> Int32 -> Int32 -> Int32 -> Int32 -> Nat -> Int32 -> Int32 -> Int32 -> Int32 -> Int32 -> Int32 -> Int32 -> Int32 -> Int32 -> Int32 -> Int32 -> (Nat -> Int32) -> (Nat -> Int32) -> (Nat -> Int32) -> (Nat -> Int32) -> (Nat -> Int32) -> Prop} {n39 : Int} (bT aG bW : Int32) (m_x gR pW qR nG oO pJ qO qQ : Nat -> Int32) (xJ : 0 <= Int32.toInt bT /\ Int32.toInt bT <= 16) (vZ : 0 <= Int32.toInt aG /\ Int32.toInt aG <= 8) (zQ : 0 <= Int32.toInt bW /\ Int32.toInt bW <= 40) (aAW : ∀ k : Nat, 0 <= Int32.toInt (m_x k) /\ Int32.toInt (m_x k) <= 99) (xK : ∀ k : Nat, 0 <= Int32.toInt (gR k) /\ Int32.toInt (gR k) <= 99) (yR : ∀ k : Nat, 0 <= Int32.toInt (pW k) /\ Int32.toInt (pW k) <= 9) (zM : ∀ k : Nat, 0 <= Int32.toInt (qR k) /\ Int32.toInt (qR k) <= 9) (xT : ∀ k : Nat, 0 <= Int32.toInt (nG k) /\ Int32.toInt (nG k) <= 99) (yF : ∀ k : Nat, 0 <= Int32.toInt (oO k) /\ Int32.toInt (oO k) <= 99) (yD : ∀ k : Nat, k = 4 -> 1 <= Int32.toInt (pJ k) /\ Int32.toInt (pJ k) <= 30) (xZ : ∀ k : Nat, k = 3 -> 0 <= Int32.toInt (pJ k) /\ Int32.toInt (pJ k) <= 9) (zG : ∀ k : Nat, -128 <= Int32.toInt (qO k) /\ Int32.toInt (qO k) <= 127) (zI : ∀ k : Nat, -128 <= Int32.toInt (qQ k) /\ Int32.toInt (qQ k) <= 127) (hc0 : -1 <= SB /\ SB <= 7) (hc1 : (Int32.toInt aG <= 0 /\ SB = 0) \/ (1 <= Int32.toInt aG /\ SB = Int32.toInt aG - 1)) (hpost : ∀ (r : Int32) (aBT : Int32) (xM : Int32) (xG : Int32) (aAP : Nat) (zS : Int32) (aAz : Int32) (aAm : Int32) (zH : Int32) (aAM : Int32) (zP : Int32) (yO : Int32) (zZ : Int32) (zO : Int32) (aBI : Int32) (aMk : Int32) (aBf : Nat -> Int32) (aBX : Nat -> Int32) (aBl : Nat -> Int32) (aDy : Nat -> Int32) (aIY : Nat -> Int32), (-100 <= Int32.toInt r /\ Int32.toInt r <= 62) -> (0 <= Int32.toInt aBT /\ Int32.toInt aBT <= 0) -> (0 <= Int32.toInt xM /\ Int32.toInt xM <= 16) -> (0 <= Int32.toInt xG /\ Int32.toInt xG <= 0) -> (aAP = 0 \/ aAP = 1 \/ aAP = 2) -> (0 <= Int32.toInt zS /\ Int32.toInt zS <= 80) -> (0 <= Int32.toInt aAz /\ Int32.toInt aAz <= 80) -> (0 <= Int32.toInt aAm /\ Int32.toInt aAm <= 80) -> (-1 <= Int32.toInt zH /\ Int32.toInt zH <= 80) -> (0 <= Int32.toInt aAM /\ Int32.toInt aAM <= 0) -> (0 <= Int32.toInt zP /\ Int32.toInt zP <= 15) -> (0 <= Int32.toInt yO /\ Int32.toInt yO <= 7) -> (0 <= Int32.toInt zZ /\ Int32.toInt zZ <= 1) -> (0 <= Int32.toInt zO /\ Int32.toInt zO <= 63) -> (0 <= Int32.toInt aBI /\ Int32.toInt aBI <= 12) -> (∀ k : Nat, k = 17 -> -1 <= Int32.toInt (aBf k) /\ Int32.toInt (aBf k) <= SB) -> (∀ k : Nat, k = 19 -> 0 <= Int32.toInt (aBf k) /\ Int32.toInt (aBf k) <= 9) -> (∀ k : Nat, k % 21 = 17 -> -1 <= Int32.toInt (aBl k) /\ Int32.toInt (aBl k) <= SB) -> (∀ k : Nat, k % 21 = 19 -> 0 <= Int32.toInt (aBl k) /\ Int32.toInt (aBl k) <= 9) -> (∀ k : Nat, k = 17 -> -1 <= Int32.toInt (aDy k) /\ Int32.toInt (aDy k) <= SB) -> (∀ k : Nat, k = 19 -> 0 <= Int32.toInt (aDy k) /\ Int32.toInt (aDy k) <= 9) -> (∀ k : Nat, -1 <= Int32.toInt (aIY k) /\ Int32.toInt (aIY k) <= 255) -> post r aBT xM xG aAP zS aAz aAm zH aAM zP yO zZ zO aBI aMk aBf aBX aBl aDy aIY) (hKn : ∀ (x1 : Int32) (x2 : Int32) (jC : Int32) (bL : Int32) (bY : Int32) (jD : Nat) (mLn : Int32) (oF : Int32) (rP : Int32) (dQ : Int32) (bZ : Int32) (aR : Int32) (aE : Int32) (bI : Int32) (aW : Int32) (bU : Int32) (fJ : Int32) (qG : Nat -> Int32) (sW : Nat -> Int32) (uL : Nat -> Int32) (vF : Nat -> Int32) (wJ : Nat -> Int32), (0 <= Int32.toInt x1 /\ Int32.toInt x1 <= 62) -> (0 <= Int32.toInt x2 /\ Int32.toInt x2 <= 1) -> (0 <= Int32.toInt jC /\ Int32.toInt jC <= 0) -> (0 <= Int32.toInt bL /\ Int32.toInt bL <= 16) -> (0 <= Int32.toInt bY /\ Int32.toInt bY <= 0) -> (jD = 1) -> (0 <= Int32.toInt mLn /\ Int32.toInt mLn <= 80) -> (60 <= Int32.toInt oF /\ Int32.toInt oF <= 60) -> (0 <= Int32.toInt rP /\ Int32.toInt rP <= 80) -> (-1 <= Int32.toInt dQ /\ Int32.toInt dQ <= 80) -> (0 <= Int32.toInt bZ /\ Int32.toInt bZ <= 0) -> (0 <= Int32.toInt aR /\ Int32.toInt aR <= 15) -> (0 <= Int32.toInt aE /\ Int32.toInt aE <= 7) -> (0 <= Int32.toInt bI /\ Int32.toInt bI <= 1) -> (0 <= Int32.toInt aW /\ Int32.toInt aW <= 63) -> (0 <= Int32.toInt bU /\ Int32.toInt bU <= 12) -> (∀ k : Nat, k = 17 -> -1 <= Int32.toInt (qG k) /\ Int32.toInt (qG k) <= SB) -> (∀ k : Nat, k = 19 -> 0 <= Int32.toInt (qG k) /\ Int32.toInt (qG k) <= 9) -> (∀ k : Nat, k % 21 = 17 -> -1 <= Int32.toInt (uL k) /\ Int32.toInt (uL k) <= SB) -> (∀ k : Nat, k % 21 = 19 -> 0 <= Int32.toInt (uL k) /\ Int32.toInt (uL k) <= 9) -> (∀ k : Nat, k = 17 -> -1 <= Int32.toInt (vF k) /\ Int32.toInt (vF k) <= SB) -> (∀ k : Nat, k = 19 -> 0 <= Int32.toInt (vF k) /\ Int32.toInt (vF k) <= 9) -> (∀ k : Nat, -1 <= Int32.toInt (wJ k) /\ Int32.toInt (wJ k) <= 255) -> (Int32.toInt x1 <= Int32.toInt rP) -> (Int32.toInt rP <= 61 - Int32.toInt x2) -> (80 - Int32.toInt rP + Int32.toInt x2 < n39) -> next x1 x2 jC bL bY jD mLn oF rP dQ bZ aR aE bI aW bU fJ qG sW uL vF wJ) (x1 x2 jC bL bY : Int32) (jD : Nat) (mLn oF rP dQ bZ aR aE bI aW bU fJ : Int32) (qG sW uL vF wJ : Nat -> Int32) (aBK : 0 <= Int32.toInt x1 /\ Int32.toInt x1 <= 62) (aBN : 0 <= Int32.toInt x2 /\ Int32.toInt x2 <= 1) (aA4 : 0 <= Int32.toInt jC /\ Int32.toInt jC <= 0) (yJ : 0 <= Int32.toInt bL /\ Int32.toInt bL <= 16) (yG : 0 <= Int32.toInt bY /\ Int32.toInt bY <= 0) (yM : jD = 1) (zE : 0 <= Int32.toInt mLn /\ Int32.toInt mLn <= 80) (aAR : 60 <= Int32.toInt oF /\ Int32.toInt oF <= 60) (aA1 : 0 <= Int32.toInt rP /\ Int32.toInt rP <= 80) (aAA : -1 <= Int32.toInt dQ /\ Int32.toInt dQ <= 80) (zT : 0 <= Int32.toInt bZ /\ Int32.toInt bZ <= 0) (yL : 0 <= Int32.toInt aR /\ Int32.toInt aR <= 15) (xQ : 0 <= Int32.toInt aE /\ Int32.toInt aE <= 7) (yY : 0 <= Int32.toInt bI /\ Int32.toInt bI <= 1) (yK : 0 <= Int32.toInt aW /\ Int32.toInt aW <= 63) (aAZ : 0 <= Int32.toInt bU /\ Int32.toInt bU <= 12) (xU : ∀ k : Nat, k = 17 -> -1 <= Int32.toInt (qG k) /\ Int32.toInt (qG k) <= SB) (xV : ∀ k : Nat, k = 19 -> 0 <= Int32.toInt (qG k) /\ Int32.toInt (qG k) <= 9) (aAo : ∀ k : Nat, k % 21 = 17 -> -1 <= Int32.toInt (uL k) /\ Int32.toInt (uL k) <= SB) (aAp : ∀ k : Nat, k % 21 = 19 -> 0 <= Int32.toInt (uL k) /\ Int32.toInt (uL k) <= 9) (aBP : ∀ k : Nat, k = 17 -> -1 <= Int32.toInt (vF k) /\ Int32.toInt (vF k) <= SB) (aBQ : ∀ k : Nat, k = 19 -> 0 <= Int32.toInt (vF k) /\ Int32.toInt (vF k) <= 9) (aB1 : ∀ k : Nat, -1 <= Int32.toInt (wJ k) /\ Int32.toInt (wJ k) <= 255) (hx0 : Int32.toInt x1 <= Int32.toInt rP) (hx1 : Int32.toInt rP <= 61 - Int32.toInt x2) (hn39 : 80 - Int32.toInt rP + Int32.toInt x2 <= n39) : ws_X10_day_39 post next bT aG bW m_x gR pW qR nG oO pJ qO qQ x1 x2 jC bL bY jD mLn oF rP dQ bZ aR aE bI aW bU fJ qG sW uL vF wJ := by
  have l0 := aI2
  have l1 := aE0
  have l2 := aEc
  have l3 := li_2
  have l4 := li_59
  refine And.intro (fun c51 => ?_) (fun c51 => ?_)
  · skip
    have c51 := (zJ _ _).mp c51
    have f52 := aAT fJ
    exact ts_X10_day_70 bT aG bW m_x gR pW qR nG oO pJ qO qQ xJ vZ zQ aAW xK yR zM xT yF yD xZ zG zI hc0 hc1 hpost x1 jC bL bY jD mLn oF rP dQ bZ aR aE bI aW bU fJ qG sW uL vF wJ aBK aA4 yJ yG yM zE aAR aA1 aAA zT yL xQ yY yK aAZ xU xV aAo aAp aBP aBQ aB1
  · skip
    have c51 := mt (zJ _ _).mpr c51
    refine And.intro (fun c53 => ?_) (fun c53 => ?_)
    · skip
      have c53 := mt (zJ _ _).mpr c53
      refine And.intro (fun _ => ?_) (fun h9 => absurd h9 (by decide))
      have f54 := aAT fJ
      exact ts_X10_day_70 bT aG bW m_x gR pW qR nG oO pJ qO qQ xJ vZ zQ aAW xK yR zM xT yF yD xZ zG zI hc0 hc1 hpost x1 jC bL bY jD mLn oF rP dQ bZ aR aE bI aW bU fJ qG sW uL vF wJ aBK aA4 yJ yG yM zE aAR aA1 aAA zT yL xQ yY yK aAZ xU xV aAo aAp aBP aBQ aB1
    · skip
      have c53 := (zJ _ _).mp c53
      refine And.intro (fun h9 => absurd h9 (by decide)) (fun _ => ?_)
      intro v55 ev55
      have f56 : Int32.toInt (2 * x1) = Int32.toInt x1 * 2 := ta_cmul _ _ (by decide) (by omega)
      rw [<- ev55] at f56
      refine t_X10_readAct (by omega) yM zE aAR aA1 (by omega) zG zI aB1 (by omega) (fun m_at_57 m_wrong_58 m_acts_59 h_m_at_57 h_m_wrong_58 h_m_acts_59 ox60 ox61 => ?_)
      intro v62 ev62
      have f63 : Int32.toInt (x1 + 1) = Int32.toInt x1 + Int32.toInt (1 : Int32) := aAD _ _ (by omega)
      rw [<- ev62] at f63
      refine And.intro (fun c64 => ?_) (fun c64 => ?_)
      · skip
        have c64 := mt (zJ _ _).mpr c64
        refine And.intro (fun _ => ?_) (fun h9 => absurd h9 (by decide))
        have f65 := aAT fJ
        exact hKn v62 0 jC bL bY jD mLn oF m_at_57 m_wrong_58 bZ aR aE bI aW bU fJ qG sW uL vF m_acts_59 (by omega) (by omega) aA4 yJ yG yM zE aAR h_m_at_57 h_m_wrong_58 zT yL xQ yY yK aAZ xU xV aAo aAp aBP aBQ h_m_acts_59 (by omega) (by omega) (by omega)
      · skip
        have c64 := (zJ _ _).mp c64
        refine And.intro (fun h9 => absurd h9 (by decide)) (fun _ => ?_)
        refine aOq (by first | exact yM | exact Or.inl rfl | exact Or.inr rfl | omega) zE (by omega) h_m_at_57 zG zI (by omega) (fun r66 h_r66 ox67 ox68 => ?_)
        refine And.intro (fun c69 => ?_) (fun c69 => ?_)
        · skip
          have c69 := (zJ _ _).mp c69
          intro v70 ev70
          have f71 : Int32.toInt (m_at_57 + 1) = Int32.toInt m_at_57 + Int32.toInt (1 : Int32) := aAD _ _ (by omega)
          rw [<- ev70] at f71
          have f72 := aAT fJ
          exact hKn v62 1 jC bL bY jD mLn oF v70 m_wrong_58 bZ aR aE bI aW bU fJ qG sW uL vF m_acts_59 (by omega) (by omega) aA4 yJ yG yM zE aAR (by omega) h_m_wrong_58 zT yL xQ yY yK aAZ xU xV aAo aAp aBP aBQ h_m_acts_59 (by omega) (by omega) (by omega)
        · skip
          have c69 := mt (zJ _ _).mpr c69
          have f73 := aAT fJ
          exact hKn v62 0 jC bL bY jD mLn oF m_at_57 m_wrong_58 bZ aR aE bI aW bU fJ qG sW uL vF m_acts_59 (by omega) (by omega) aA4 yJ yG yM zE aAR h_m_at_57 h_m_wrong_58 zT yL xQ yY yK aAZ xU xV aAo aAp aBP aBQ h_m_acts_59 (by omega) (by omega) (by omega)
set_option maxHeartbeats 8000000 in
set_option maxRecDepth 200000 in
theorem tb_X10_day_39 {post : Int32 -> Int32 -> Int32 -> Int32 -> Nat -> Int32 -> Int32 -> Int32 -> Int32 -> Int32 -> Int32 -> Int32 -> Int32 -> Int32 -> Int32 -> Int32 -> (Nat -> Int32) -> (Nat -> Int32) -> (Nat -> Int32) -> (Nat -> Int32) -> (Nat -> Int32) -> Prop} {SB : Int} (bT aG bW : Int32) (m_x gR pW qR nG oO pJ qO qQ : Nat -> Int32) (xJ : 0 <= Int32.toInt bT /\ Int32.toInt bT <= 16) (vZ : 0 <= Int32.toInt aG /\ Int32.toInt aG <= 8) (zQ : 0 <= Int32.toInt bW /\ Int32.toInt bW <= 40) (aAW : ∀ k : Nat, 0 <= Int32.toInt (m_x k) /\ Int32.toInt (m_x k) <= 99) (xK : ∀ k : Nat, 0 <= Int32.toInt (gR k) /\ Int32.toInt (gR k) <= 99) (yR : ∀ k : Nat, 0 <= Int32.toInt (pW k) /\ Int32.toInt (pW k) <= 9) (zM : ∀ k : Nat, 0 <= Int32.toInt (qR k) /\ Int32.toInt (qR k) <= 9) (xT : ∀ k : Nat, 0 <= Int32.toInt (nG k) /\ Int32.toInt (nG k) <= 99) (yF : ∀ k : Nat, 0 <= Int32.toInt (oO k) /\ Int32.toInt (oO k) <= 99) (yD : ∀ k : Nat, k = 4 -> 1 <= Int32.toInt (pJ k) /\ Int32.toInt (pJ k) <= 30) (xZ : ∀ k : Nat, k = 3 -> 0 <= Int32.toInt (pJ k) /\ Int32.toInt (pJ k) <= 9) (zG : ∀ k : Nat, -128 <= Int32.toInt (qO k) /\ Int32.toInt (qO k) <= 127) (zI : ∀ k : Nat, -128 <= Int32.toInt (qQ k) /\ Int32.toInt (qQ k) <= 127) (hc0 : -1 <= SB /\ SB <= 7) (hc1 : (Int32.toInt aG <= 0 /\ SB = 0) \/ (1 <= Int32.toInt aG /\ SB = Int32.toInt aG - 1)) (hpost : ∀ (r : Int32) (aBT : Int32) (xM : Int32) (xG : Int32) (aAP : Nat) (zS : Int32) (aAz : Int32) (aAm : Int32) (zH : Int32) (aAM : Int32) (zP : Int32) (yO : Int32) (zZ : Int32) (zO : Int32) (aBI : Int32) (aMk : Int32) (aBf : Nat -> Int32) (aBX : Nat -> Int32) (aBl : Nat -> Int32) (aDy : Nat -> Int32) (aIY : Nat -> Int32), (-100 <= Int32.toInt r /\ Int32.toInt r <= 62) -> (0 <= Int32.toInt aBT /\ Int32.toInt aBT <= 0) -> (0 <= Int32.toInt xM /\ Int32.toInt xM <= 16) -> (0 <= Int32.toInt xG /\ Int32.toInt xG <= 0) -> (aAP = 0 \/ aAP = 1 \/ aAP = 2) -> (0 <= Int32.toInt zS /\ Int32.toInt zS <= 80) -> (0 <= Int32.toInt aAz /\ Int32.toInt aAz <= 80) -> (0 <= Int32.toInt aAm /\ Int32.toInt aAm <= 80) -> (-1 <= Int32.toInt zH /\ Int32.toInt zH <= 80) -> (0 <= Int32.toInt aAM /\ Int32.toInt aAM <= 0) -> (0 <= Int32.toInt zP /\ Int32.toInt zP <= 15) -> (0 <= Int32.toInt yO /\ Int32.toInt yO <= 7) -> (0 <= Int32.toInt zZ /\ Int32.toInt zZ <= 1) -> (0 <= Int32.toInt zO /\ Int32.toInt zO <= 63) -> (0 <= Int32.toInt aBI /\ Int32.toInt aBI <= 12) -> (∀ k : Nat, k = 17 -> -1 <= Int32.toInt (aBf k) /\ Int32.toInt (aBf k) <= SB) -> (∀ k : Nat, k = 19 -> 0 <= Int32.toInt (aBf k) /\ Int32.toInt (aBf k) <= 9) -> (∀ k : Nat, k % 21 = 17 -> -1 <= Int32.toInt (aBl k) /\ Int32.toInt (aBl k) <= SB) -> (∀ k : Nat, k % 21 = 19 -> 0 <= Int32.toInt (aBl k) /\ Int32.toInt (aBl k) <= 9) -> (∀ k : Nat, k = 17 -> -1 <= Int32.toInt (aDy k) /\ Int32.toInt (aDy k) <= SB) -> (∀ k : Nat, k = 19 -> 0 <= Int32.toInt (aDy k) /\ Int32.toInt (aDy k) <= 9) -> (∀ k : Nat, -1 <= Int32.toInt (aIY k) /\ Int32.toInt (aIY k) <= 255) -> post r aBT xM xG aAP zS aAz aAm zH aAM zP yO zZ zO aBI aMk aBf aBX aBl aDy aIY) : ∀ (n : Nat) (x1 x2 jC bL bY : Int32) (jD : Nat) (mLn oF rP dQ bZ aR aE bI aW bU fJ : Int32) (qG sW uL vF wJ : Nat -> Int32), (0 <= Int32.toInt x1 /\ Int32.toInt x1 <= 62) -> (0 <= Int32.toInt x2 /\ Int32.toInt x2 <= 1) -> (0 <= Int32.toInt jC /\ Int32.toInt jC <= 0) -> (0 <= Int32.toInt bL /\ Int32.toInt bL <= 16) -> (0 <= Int32.toInt bY /\ Int32.toInt bY <= 0) -> (jD = 1) -> (0 <= Int32.toInt mLn /\ Int32.toInt mLn <= 80) -> (60 <= Int32.toInt oF /\ Int32.toInt oF <= 60) -> (0 <= Int32.toInt rP /\ Int32.toInt rP <= 80) -> (-1 <= Int32.toInt dQ /\ Int32.toInt dQ <= 80) -> (0 <= Int32.toInt bZ /\ Int32.toInt bZ <= 0) -> (0 <= Int32.toInt aR /\ Int32.toInt aR <= 15) -> (0 <= Int32.toInt aE /\ Int32.toInt aE <= 7) -> (0 <= Int32.toInt bI /\ Int32.toInt bI <= 1) -> (0 <= Int32.toInt aW /\ Int32.toInt aW <= 63) -> (0 <= Int32.toInt bU /\ Int32.toInt bU <= 12) -> (∀ k : Nat, k = 17 -> -1 <= Int32.toInt (qG k) /\ Int32.toInt (qG k) <= SB) -> (∀ k : Nat, k = 19 -> 0 <= Int32.toInt (qG k) /\ Int32.toInt (qG k) <= 9) -> (∀ k : Nat, k % 21 = 17 -> -1 <= Int32.toInt (uL k) /\ Int32.toInt (uL k) <= SB) -> (∀ k : Nat, k % 21 = 19 -> 0 <= Int32.toInt (uL k) /\ Int32.toInt (uL k) <= 9) -> (∀ k : Nat, k = 17 -> -1 <= Int32.toInt (vF k) /\ Int32.toInt (vF k) <= SB) -> (∀ k : Nat, k = 19 -> 0 <= Int32.toInt (vF k) /\ Int32.toInt (vF k) <= 9) -> (∀ k : Nat, -1 <= Int32.toInt (wJ k) /\ Int32.toInt (wJ k) <= 255) -> (Int32.toInt x1 <= Int32.toInt rP) -> (Int32.toInt rP <= 61 - Int32.toInt x2) -> (80 - Int32.toInt rP + Int32.toInt x2 < (n : Int)) -> wb_X10_day_39 post bT aG bW m_x gR pW qR nG oO pJ qO qQ n x1 x2 jC bL bY jD mLn oF rP dQ bZ aR aE bI aW bU fJ qG sW uL vF wJ := by
  intro n
  induction n with
  | zero =>
    intro x1 x2 jC bL bY jD mLn oF rP dQ bZ aR aE bI aW bU fJ qG sW uL vF wJ aBK aBN aA4 yJ yG yM zE aAR aA1 aAA zT yL xQ yY yK aAZ xU xV aAo aAp aBP aBQ aB1 hx0 hx1 hm
    exfalso; omega
  | succ n ih =>
    intro x1 x2 jC bL bY jD mLn oF rP dQ bZ aR aE bI aW bU fJ qG sW uL vF wJ aBK aBN aA4 yJ yG yM zE aAR aA1 aAA zT yL xQ yY yK aAZ xU xV aAo aAp aBP aBQ aB1 hx0 hx1 hm
    exact ts_X10_day_39 bT aG bW m_x gR pW qR nG oO pJ qO qQ xJ vZ zQ aAW xK yR zM xT yF yD xZ zG zI hc0 hc1 hpost ih x1 x2 jC bL bY jD mLn oF rP dQ bZ aR aE bI aW bU fJ qG sW uL vF wJ aBK aBN aA4 yJ yG yM zE aAR aA1 aAA zT yL xQ yY yK aAZ xU xV aAo aAp aBP aBQ aB1 hx0 hx1 (by omega)
set_option maxHeartbeats 8000000 in
set_option maxRecDepth 200000 in
theorem ts_X10_day_38 {post : Int32 -> Int32 -> Int32 -> Int32 -> Nat -> Int32 -> Int32 -> Int32 -> Int32 -> Int32 -> Int32 -> Int32 -> Int32 -> Int32 -> Int32 -> Int32 -> (Nat -> Int32) -> (Nat -> Int32) -> (Nat -> Int32) -> (Nat -> Int32) -> (Nat -> Int32) -> Prop} {SB : Int} (bT aG bW : Int32) (m_x gR pW qR nG oO pJ qO qQ : Nat -> Int32) (xJ : 0 <= Int32.toInt bT /\ Int32.toInt bT <= 16) (vZ : 0 <= Int32.toInt aG /\ Int32.toInt aG <= 8) (zQ : 0 <= Int32.toInt bW /\ Int32.toInt bW <= 40) (aAW : ∀ k : Nat, 0 <= Int32.toInt (m_x k) /\ Int32.toInt (m_x k) <= 99) (xK : ∀ k : Nat, 0 <= Int32.toInt (gR k) /\ Int32.toInt (gR k) <= 99) (yR : ∀ k : Nat, 0 <= Int32.toInt (pW k) /\ Int32.toInt (pW k) <= 9) (zM : ∀ k : Nat, 0 <= Int32.toInt (qR k) /\ Int32.toInt (qR k) <= 9) (xT : ∀ k : Nat, 0 <= Int32.toInt (nG k) /\ Int32.toInt (nG k) <= 99) (yF : ∀ k : Nat, 0 <= Int32.toInt (oO k) /\ Int32.toInt (oO k) <= 99) (yD : ∀ k : Nat, k = 4 -> 1 <= Int32.toInt (pJ k) /\ Int32.toInt (pJ k) <= 30) (xZ : ∀ k : Nat, k = 3 -> 0 <= Int32.toInt (pJ k) /\ Int32.toInt (pJ k) <= 9) (zG : ∀ k : Nat, -128 <= Int32.toInt (qO k) /\ Int32.toInt (qO k) <= 127) (zI : ∀ k : Nat, -128 <= Int32.toInt (qQ k) /\ Int32.toInt (qQ k) <= 127) (hc0 : -1 <= SB /\ SB <= 7) (hc1 : (Int32.toInt aG <= 0 /\ SB = 0) \/ (1 <= Int32.toInt aG /\ SB = Int32.toInt aG - 1)) (hpost : ∀ (r : Int32) (aBT : Int32) (xM : Int32) (xG : Int32) (aAP : Nat) (zS : Int32) (aAz : Int32) (aAm : Int32) (zH : Int32) (aAM : Int32) (zP : Int32) (yO : Int32) (zZ : Int32) (zO : Int32) (aBI : Int32) (aMk : Int32) (aBf : Nat -> Int32) (aBX : Nat -> Int32) (aBl : Nat -> Int32) (aDy : Nat -> Int32) (aIY : Nat -> Int32), (-100 <= Int32.toInt r /\ Int32.toInt r <= 62) -> (0 <= Int32.toInt aBT /\ Int32.toInt aBT <= 0) -> (0 <= Int32.toInt xM /\ Int32.toInt xM <= 16) -> (0 <= Int32.toInt xG /\ Int32.toInt xG <= 0) -> (aAP = 0 \/ aAP = 1 \/ aAP = 2) -> (0 <= Int32.toInt zS /\ Int32.toInt zS <= 80) -> (0 <= Int32.toInt aAz /\ Int32.toInt aAz <= 80) -> (0 <= Int32.toInt aAm /\ Int32.toInt aAm <= 80) -> (-1 <= Int32.toInt zH /\ Int32.toInt zH <= 80) -> (0 <= Int32.toInt aAM /\ Int32.toInt aAM <= 0) -> (0 <= Int32.toInt zP /\ Int32.toInt zP <= 15) -> (0 <= Int32.toInt yO /\ Int32.toInt yO <= 7) -> (0 <= Int32.toInt zZ /\ Int32.toInt zZ <= 1) -> (0 <= Int32.toInt zO /\ Int32.toInt zO <= 63) -> (0 <= Int32.toInt aBI /\ Int32.toInt aBI <= 12) -> (∀ k : Nat, k = 17 -> -1 <= Int32.toInt (aBf k) /\ Int32.toInt (aBf k) <= SB) -> (∀ k : Nat, k = 19 -> 0 <= Int32.toInt (aBf k) /\ Int32.toInt (aBf k) <= 9) -> (∀ k : Nat, k % 21 = 17 -> -1 <= Int32.toInt (aBl k) /\ Int32.toInt (aBl k) <= SB) -> (∀ k : Nat, k % 21 = 19 -> 0 <= Int32.toInt (aBl k) /\ Int32.toInt (aBl k) <= 9) -> (∀ k : Nat, k = 17 -> -1 <= Int32.toInt (aDy k) /\ Int32.toInt (aDy k) <= SB) -> (∀ k : Nat, k = 19 -> 0 <= Int32.toInt (aDy k) /\ Int32.toInt (aDy k) <= 9) -> (∀ k : Nat, -1 <= Int32.toInt (aIY k) /\ Int32.toInt (aIY k) <= 255) -> post r aBT xM xG aAP zS aAz aAm zH aAM zP yO zZ zO aBI aMk aBf aBX aBl aDy aIY) (x1 k0 jC bL bY : Int32) (jD : Nat) (mLn oF rP dQ bZ aR aE bI aW bU fJ : Int32) (qG sW uL vF wJ : Nat -> Int32) (aBK : 0 <= Int32.toInt x1 /\ Int32.toInt x1 <= 0) (h_k0 : 0 <= Int32.toInt k0 /\ Int32.toInt k0 <= 1) (aA4 : 0 <= Int32.toInt jC /\ Int32.toInt jC <= 0) (yJ : 0 <= Int32.toInt bL /\ Int32.toInt bL <= 16) (yG : 0 <= Int32.toInt bY /\ Int32.toInt bY <= 0) (yM : jD = 1) (zE : 0 <= Int32.toInt mLn /\ Int32.toInt mLn <= 80) (aAR : 60 <= Int32.toInt oF /\ Int32.toInt oF <= 60) (aA1 : 0 <= Int32.toInt rP /\ Int32.toInt rP <= 0) (aAA : -1 <= Int32.toInt dQ /\ Int32.toInt dQ <= -1) (zT : 0 <= Int32.toInt bZ /\ Int32.toInt bZ <= 0) (yL : 0 <= Int32.toInt aR /\ Int32.toInt aR <= 15) (xQ : 0 <= Int32.toInt aE /\ Int32.toInt aE <= 7) (yY : 0 <= Int32.toInt bI /\ Int32.toInt bI <= 1) (yK : 0 <= Int32.toInt aW /\ Int32.toInt aW <= 63) (aAZ : 0 <= Int32.toInt bU /\ Int32.toInt bU <= 12) (xU : ∀ k : Nat, k = 17 -> -1 <= Int32.toInt (qG k) /\ Int32.toInt (qG k) <= SB) (xV : ∀ k : Nat, k = 19 -> 0 <= Int32.toInt (qG k) /\ Int32.toInt (qG k) <= 9) (aAo : ∀ k : Nat, k % 21 = 17 -> -1 <= Int32.toInt (uL k) /\ Int32.toInt (uL k) <= SB) (aAp : ∀ k : Nat, k % 21 = 19 -> 0 <= Int32.toInt (uL k) /\ Int32.toInt (uL k) <= 9) (aBP : ∀ k : Nat, k = 17 -> -1 <= Int32.toInt (vF k) /\ Int32.toInt (vF k) <= SB) (aBQ : ∀ k : Nat, k = 19 -> 0 <= Int32.toInt (vF k) /\ Int32.toInt (vF k) <= 9) (aB1 : ∀ k : Nat, -1 <= Int32.toInt (wJ k) /\ Int32.toInt (wJ k) <= 255) : ws_X10_day_38 post bT aG bW m_x gR pW qR nG oO pJ qO qQ x1 k0 jC bL bY jD mLn oF rP dQ bZ aR aE bI aW bU fJ qG sW uL vF wJ := by
  have f74 := aAT fJ
  exact ⟨83, tb_X10_day_39 bT aG bW m_x gR pW qR nG oO pJ qO qQ xJ vZ zQ aAW xK yR zM xT yF yD xZ zG zI hc0 hc1 hpost _ x1 k0 jC bL bY jD mLn oF rP dQ bZ aR aE bI aW bU fJ qG sW uL vF wJ (by omega) h_k0 aA4 yJ yG yM zE aAR (by omega) (by omega) zT yL xQ yY yK aAZ xU xV aAo aAp aBP aBQ aB1 (by omega) (by omega) (by omega)⟩
set_option maxHeartbeats 8000000 in
set_option maxRecDepth 200000 in
theorem t_X10_day {post : Int32 -> Int32 -> Int32 -> Int32 -> Nat -> Int32 -> Int32 -> Int32 -> Int32 -> Int32 -> Int32 -> Int32 -> Int32 -> Int32 -> Int32 -> Int32 -> (Nat -> Int32) -> (Nat -> Int32) -> (Nat -> Int32) -> (Nat -> Int32) -> (Nat -> Int32) -> Prop} {SB : Int} {bT aG jC bL bY : Int32} {jD : Nat} {mLn oF rP dQ bW bZ aR aE bI aW bU fJ : Int32} {qG m_x gR pW qR nG oO pJ qO sW qQ uL vF wJ : Nat -> Int32} (xJ : 0 <= Int32.toInt bT /\ Int32.toInt bT <= 16) (vZ : 0 <= Int32.toInt aG /\ Int32.toInt aG <= 8) (aA4 : 0 <= Int32.toInt jC /\ Int32.toInt jC <= 80) (yJ : 0 <= Int32.toInt bL /\ Int32.toInt bL <= 16) (yG : 0 <= Int32.toInt bY /\ Int32.toInt bY <= 1) (yM : jD = 0 \/ jD = 1 \/ jD = 2) (zE : 0 <= Int32.toInt mLn /\ Int32.toInt mLn <= 80) (aAR : 0 <= Int32.toInt oF /\ Int32.toInt oF <= 80) (aA1 : 0 <= Int32.toInt rP /\ Int32.toInt rP <= 80) (aAA : -1 <= Int32.toInt dQ /\ Int32.toInt dQ <= 80) (zQ : 0 <= Int32.toInt bW /\ Int32.toInt bW <= 40) (zT : 0 <= Int32.toInt bZ /\ Int32.toInt bZ <= 0) (yL : 0 <= Int32.toInt aR /\ Int32.toInt aR <= 15) (xQ : 0 <= Int32.toInt aE /\ Int32.toInt aE <= 7) (yY : 0 <= Int32.toInt bI /\ Int32.toInt bI <= 1) (yK : 0 <= Int32.toInt aW /\ Int32.toInt aW <= 63) (aAZ : 0 <= Int32.toInt bU /\ Int32.toInt bU <= 12) (xU : ∀ k : Nat, k = 17 -> -1 <= Int32.toInt (qG k) /\ Int32.toInt (qG k) <= SB) (xV : ∀ k : Nat, k = 19 -> 0 <= Int32.toInt (qG k) /\ Int32.toInt (qG k) <= 9) (aAW : ∀ k : Nat, 0 <= Int32.toInt (m_x k) /\ Int32.toInt (m_x k) <= 99) (xK : ∀ k : Nat, 0 <= Int32.toInt (gR k) /\ Int32.toInt (gR k) <= 99) (yR : ∀ k : Nat, 0 <= Int32.toInt (pW k) /\ Int32.toInt (pW k) <= 9) (zM : ∀ k : Nat, 0 <= Int32.toInt (qR k) /\ Int32.toInt (qR k) <= 9) (xT : ∀ k : Nat, 0 <= Int32.toInt (nG k) /\ Int32.toInt (nG k) <= 99) (yF : ∀ k : Nat, 0 <= Int32.toInt (oO k) /\ Int32.toInt (oO k) <= 99) (yD : ∀ k : Nat, k = 4 -> 1 <= Int32.toInt (pJ k) /\ Int32.toInt (pJ k) <= 30) (xZ : ∀ k : Nat, k = 3 -> 0 <= Int32.toInt (pJ k) /\ Int32.toInt (pJ k) <= 9) (zG : ∀ k : Nat, -128 <= Int32.toInt (qO k) /\ Int32.toInt (qO k) <= 127) (zI : ∀ k : Nat, -128 <= Int32.toInt (qQ k) /\ Int32.toInt (qQ k) <= 127) (aAo : ∀ k : Nat, k % 21 = 17 -> -1 <= Int32.toInt (uL k) /\ Int32.toInt (uL k) <= SB) (aAp : ∀ k : Nat, k % 21 = 19 -> 0 <= Int32.toInt (uL k) /\ Int32.toInt (uL k) <= 9) (aBP : ∀ k : Nat, k = 17 -> -1 <= Int32.toInt (vF k) /\ Int32.toInt (vF k) <= SB) (aBQ : ∀ k : Nat, k = 19 -> 0 <= Int32.toInt (vF k) /\ Int32.toInt (vF k) <= 9) (aB1 : ∀ k : Nat, -1 <= Int32.toInt (wJ k) /\ Int32.toInt (wJ k) <= 255) (hc0 : -1 <= SB /\ SB <= 7) (hc1 : (Int32.toInt aG <= 0 /\ SB = 0) \/ (1 <= Int32.toInt aG /\ SB = Int32.toInt aG - 1)) (hpost : ∀ (r : Int32) (aBT : Int32) (xM : Int32) (xG : Int32) (aAP : Nat) (zS : Int32) (aAz : Int32) (aAm : Int32) (zH : Int32) (aAM : Int32) (zP : Int32) (yO : Int32) (zZ : Int32) (zO : Int32) (aBI : Int32) (aMk : Int32) (aBf : Nat -> Int32) (aBX : Nat -> Int32) (aBl : Nat -> Int32) (aDy : Nat -> Int32) (aIY : Nat -> Int32), (-100 <= Int32.toInt r /\ Int32.toInt r <= 62) -> (0 <= Int32.toInt aBT /\ Int32.toInt aBT <= 0) -> (0 <= Int32.toInt xM /\ Int32.toInt xM <= 16) -> (0 <= Int32.toInt xG /\ Int32.toInt xG <= 0) -> (aAP = 0 \/ aAP = 1 \/ aAP = 2) -> (0 <= Int32.toInt zS /\ Int32.toInt zS <= 80) -> (0 <= Int32.toInt aAz /\ Int32.toInt aAz <= 80) -> (0 <= Int32.toInt aAm /\ Int32.toInt aAm <= 80) -> (-1 <= Int32.toInt zH /\ Int32.toInt zH <= 80) -> (0 <= Int32.toInt aAM /\ Int32.toInt aAM <= 0) -> (0 <= Int32.toInt zP /\ Int32.toInt zP <= 15) -> (0 <= Int32.toInt yO /\ Int32.toInt yO <= 7) -> (0 <= Int32.toInt zZ /\ Int32.toInt zZ <= 1) -> (0 <= Int32.toInt zO /\ Int32.toInt zO <= 63) -> (0 <= Int32.toInt aBI /\ Int32.toInt aBI <= 12) -> (∀ k : Nat, k = 17 -> -1 <= Int32.toInt (aBf k) /\ Int32.toInt (aBf k) <= SB) -> (∀ k : Nat, k = 19 -> 0 <= Int32.toInt (aBf k) /\ Int32.toInt (aBf k) <= 9) -> (∀ k : Nat, k % 21 = 17 -> -1 <= Int32.toInt (aBl k) /\ Int32.toInt (aBl k) <= SB) -> (∀ k : Nat, k % 21 = 19 -> 0 <= Int32.toInt (aBl k) /\ Int32.toInt (aBl k) <= 9) -> (∀ k : Nat, k = 17 -> -1 <= Int32.toInt (aDy k) /\ Int32.toInt (aDy k) <= SB) -> (∀ k : Nat, k = 19 -> 0 <= Int32.toInt (aDy k) /\ Int32.toInt (aDy k) <= 9) -> (∀ k : Nat, -1 <= Int32.toInt (aIY k) /\ Int32.toInt (aIY k) <= 255) -> post r aBT xM xG aAP zS aAz aAm zH aAM zP yO zZ zO aBI aMk aBf aBX aBl aDy aIY) : wp_X10_day post bT aG jC bL bY jD mLn oF rP dQ bW bZ aR aE bI aW bU fJ qG m_x gR pW qR nG oO pJ qO sW qQ uL vF wJ := by
  have l0 := aI2
  have l1 := aE0
  have l2 := aEc
  have l3 := li_60
  refine And.intro (fun c75 => ?_) (fun c75 => ?_)
  · skip
    have c75 := (aAO _ _).mp c75
    have f76 := aAT fJ
    exact ts_X10_day_38 bT aG bW m_x gR pW qR nG oO pJ qO qQ xJ vZ zQ aAW xK yR zM xT yF yD xZ zG zI hc0 hc1 hpost 0 0 0 bL 0 1 jC 60 0 (-1) bZ aR aE bI aW bU fJ qG sW uL vF wJ (by omega) (by omega) (by omega) yJ (by omega) (by first | exact yM | exact Or.inl rfl | exact Or.inr rfl | omega) aA4 (by omega) (by omega) (by omega) zT yL xQ yY yK aAZ xU xV aAo aAp aBP aBQ aB1
  · skip
    have c75 := mt (aAO _ _).mpr c75
    have f77 := aAT fJ
    exact ts_X10_day_38 bT aG bW m_x gR pW qR nG oO pJ qO qQ xJ vZ zQ aAW xK yR zM xT yF yD xZ zG zI hc0 hc1 hpost 0 1 0 bL 0 1 jC 60 0 (-1) bZ aR aE bI aW bU fJ qG sW uL vF wJ (by omega) (by omega) (by omega) yJ (by omega) (by first | exact yM | exact Or.inl rfl | exact Or.inr rfl | omega) aA4 (by omega) (by omega) (by omega) zT yL xQ yY yK aAZ xU xV aAo aAp aBP aBQ aB1
set_option maxHeartbeats 8000000 in
set_option maxRecDepth 200000 in
theorem ts_X10_undo_26 {post : Int32 -> Int32 -> Int32 -> (Nat -> Int32) -> Prop} {SB : Int} {next : Int32 -> Int32 -> Int32 -> (Nat -> Int32) -> Prop} {n26 : Int} (uL : Nat -> Int32) (aAo : ∀ k : Nat, k % 21 = 17 -> -1 <= Int32.toInt (uL k) /\ Int32.toInt (uL k) <= SB) (aAp : ∀ k : Nat, k % 21 = 19 -> 0 <= Int32.toInt (uL k) /\ Int32.toInt (uL k) <= 9) (hc0 : -1 <= SB /\ SB <= 7) (hpost : ∀ (r : Int32) (xG : Int32) (aBI : Int32) (aBf : Nat -> Int32), (-1 <= Int32.toInt r /\ Int32.toInt r <= 11) -> (0 <= Int32.toInt xG /\ Int32.toInt xG <= 0) -> (0 <= Int32.toInt aBI /\ Int32.toInt aBI <= 11) -> (∀ k : Nat, k = 17 -> -1 <= Int32.toInt (aBf k) /\ Int32.toInt (aBf k) <= SB) -> (∀ k : Nat, k = 19 -> 0 <= Int32.toInt (aBf k) /\ Int32.toInt (aBf k) <= 9) -> post r xG aBI aBf) (hKn : ∀ (x1 : Int32) (bY : Int32) (bU : Int32) (qG : Nat -> Int32), (0 <= Int32.toInt x1 /\ Int32.toInt x1 <= 21) -> (0 <= Int32.toInt bY /\ Int32.toInt bY <= 0) -> (0 <= Int32.toInt bU /\ Int32.toInt bU <= 11) -> (∀ k : Nat, k = 17 -> -1 <= Int32.toInt (qG k) /\ Int32.toInt (qG k) <= SB) -> (∀ k : Nat, k = 19 -> 0 <= Int32.toInt (qG k) /\ Int32.toInt (qG k) <= 9) -> (21 - Int32.toInt x1 < n26) -> next x1 bY bU qG) (x1 bY bU : Int32) (qG : Nat -> Int32) (aBK : 0 <= Int32.toInt x1 /\ Int32.toInt x1 <= 21) (yG : 0 <= Int32.toInt bY /\ Int32.toInt bY <= 0) (aAZ : 0 <= Int32.toInt bU /\ Int32.toInt bU <= 11) (xU : ∀ k : Nat, k = 17 -> -1 <= Int32.toInt (qG k) /\ Int32.toInt (qG k) <= SB) (xV : ∀ k : Nat, k = 19 -> 0 <= Int32.toInt (qG k) /\ Int32.toInt (qG k) <= 9) (hn26 : 21 - Int32.toInt x1 <= n26) : ws_X10_undo_26 post next uL x1 bY bU qG := by
  have l0 := aEc
  have l1 := li_21
  refine And.intro (fun c1 => ?_) (fun c1 => ?_)
  · skip
    have c1 := (aAO _ _).mp c1
    exact hpost _ _ _ _ (by omega) yG aAZ xU xV
  · skip
    have c1 := mt (aAO _ _).mpr c1
    intro v2 ev2
    have f3 : Int32.toInt (21 * bU) = Int32.toInt bU * 21 := ta_cmul _ _ (by decide) (by omega)
    rw [<- ev2] at f3
    intro v4 ev4
    have f5 : Int32.toInt (v2 + x1) = Int32.toInt v2 + Int32.toInt x1 := aAD _ _ (by omega)
    rw [<- ev4] at f5
    refine And.intro (aBZ (by omega)) ?_
    have q6 := aAo v4.toNatClampNeg
    have q7 := aAp v4.toNatClampNeg
    have q8 : v4.toNatClampNeg = (Int32.toInt v4).toNat := rfl
    intro v9 ev9
    have hv9 := congrArg Int32.toInt ev9
    refine And.intro (aBZ (by omega)) ?_
    have f12 := aAT v9
    have e11 : ∀ k : Nat, k = 17 -> -1 <= Int32.toInt ((upd qG x1.toNatClampNeg v9) k) /\ Int32.toInt ((upd qG x1.toNatClampNeg v9) k) <= SB := aCJ (C := fun k => k = 17) xU (fun hk => by have e9 : x1.toNatClampNeg = (Int32.toInt x1).toNat := rfl; have hk : x1.toNatClampNeg = 17 := hk; omega)
    have e13 : ∀ k : Nat, k = 19 -> 0 <= Int32.toInt ((upd qG x1.toNatClampNeg v9) k) /\ Int32.toInt ((upd qG x1.toNatClampNeg v9) k) <= 9 := aCJ (C := fun k => k = 19) xV (fun hk => by have e9 : x1.toNatClampNeg = (Int32.toInt x1).toNat := rfl; have hk : x1.toNatClampNeg = 19 := hk; omega)
    intro v14 ev14
    have f15 : Int32.toInt (x1 + 1) = Int32.toInt x1 + Int32.toInt (1 : Int32) := aAD _ _ (by omega)
    rw [<- ev14] at f15
    exact hKn v14 bY bU (upd qG x1.toNatClampNeg v9) (by omega) yG aAZ e11 e13 (by omega)
set_option maxHeartbeats 8000000 in
set_option maxRecDepth 200000 in
theorem tb_X10_undo_26 {post : Int32 -> Int32 -> Int32 -> (Nat -> Int32) -> Prop} {SB : Int} (uL : Nat -> Int32) (aAo : ∀ k : Nat, k % 21 = 17 -> -1 <= Int32.toInt (uL k) /\ Int32.toInt (uL k) <= SB) (aAp : ∀ k : Nat, k % 21 = 19 -> 0 <= Int32.toInt (uL k) /\ Int32.toInt (uL k) <= 9) (hc0 : -1 <= SB /\ SB <= 7) (hpost : ∀ (r : Int32) (xG : Int32) (aBI : Int32) (aBf : Nat -> Int32), (-1 <= Int32.toInt r /\ Int32.toInt r <= 11) -> (0 <= Int32.toInt xG /\ Int32.toInt xG <= 0) -> (0 <= Int32.toInt aBI /\ Int32.toInt aBI <= 11) -> (∀ k : Nat, k = 17 -> -1 <= Int32.toInt (aBf k) /\ Int32.toInt (aBf k) <= SB) -> (∀ k : Nat, k = 19 -> 0 <= Int32.toInt (aBf k) /\ Int32.toInt (aBf k) <= 9) -> post r xG aBI aBf) : ∀ (n : Nat) (x1 bY bU : Int32) (qG : Nat -> Int32), (0 <= Int32.toInt x1 /\ Int32.toInt x1 <= 21) -> (0 <= Int32.toInt bY /\ Int32.toInt bY <= 0) -> (0 <= Int32.toInt bU /\ Int32.toInt bU <= 11) -> (∀ k : Nat, k = 17 -> -1 <= Int32.toInt (qG k) /\ Int32.toInt (qG k) <= SB) -> (∀ k : Nat, k = 19 -> 0 <= Int32.toInt (qG k) /\ Int32.toInt (qG k) <= 9) -> (21 - Int32.toInt x1 < (n : Int)) -> wb_X10_undo_26 post uL n x1 bY bU qG := by
  intro n
  induction n with
  | zero =>
    intro x1 bY bU qG aBK yG aAZ xU xV hm
    exfalso; omega
  | succ n ih =>
    intro x1 bY bU qG aBK yG aAZ xU xV hm
    exact ts_X10_undo_26 uL aAo aAp hc0 hpost ih x1 bY bU qG aBK yG aAZ xU xV (by omega)
set_option maxHeartbeats 8000000 in
set_option maxRecDepth 200000 in
theorem t_X10_undo {post : Int32 -> Int32 -> Int32 -> (Nat -> Int32) -> Prop} {SB : Int} {bY bU : Int32} {qG uL : Nat -> Int32} (yG : 0 <= Int32.toInt bY /\ Int32.toInt bY <= 1) (aAZ : 0 <= Int32.toInt bU /\ Int32.toInt bU <= 12) (xU : ∀ k : Nat, k = 17 -> -1 <= Int32.toInt (qG k) /\ Int32.toInt (qG k) <= SB) (xV : ∀ k : Nat, k = 19 -> 0 <= Int32.toInt (qG k) /\ Int32.toInt (qG k) <= 9) (aAo : ∀ k : Nat, k % 21 = 17 -> -1 <= Int32.toInt (uL k) /\ Int32.toInt (uL k) <= SB) (aAp : ∀ k : Nat, k % 21 = 19 -> 0 <= Int32.toInt (uL k) /\ Int32.toInt (uL k) <= 9) (hc0 : -1 <= SB /\ SB <= 7) (hpost : ∀ (r : Int32) (xG : Int32) (aBI : Int32) (aBf : Nat -> Int32), (-1 <= Int32.toInt r /\ Int32.toInt r <= 11) -> (0 <= Int32.toInt xG /\ Int32.toInt xG <= 0) -> (0 <= Int32.toInt aBI /\ Int32.toInt aBI <= 11) -> (∀ k : Nat, k = 17 -> -1 <= Int32.toInt (aBf k) /\ Int32.toInt (aBf k) <= SB) -> (∀ k : Nat, k = 19 -> 0 <= Int32.toInt (aBf k) /\ Int32.toInt (aBf k) <= 9) -> post r xG aBI aBf) : wp_X10_undo post bY bU qG uL := by
  have l0 := aI2
  have l1 := aE0
  have l2 := aEc
  refine And.intro (fun c16 => ?_) (fun c16 => ?_)
  · skip
    have c16 := mt (zJ _ _).mpr c16
    intro v17 ev17
    have f18 : Int32.toInt (bU - 1) = Int32.toInt bU - Int32.toInt (1 : Int32) := aCA _ _ (by omega)
    rw [<- ev17] at f18
    exact ⟨23, tb_X10_undo_26 uL aAo aAp hc0 hpost _ 0 0 v17 qG (by omega) (by omega) (by omega) xU xV (by omega)⟩
  · skip
    have c16 := (zJ _ _).mp c16
    exact hpost _ _ _ _ (by omega) (by omega) (by omega) xU xV
set_option maxHeartbeats 8000000 in
set_option maxRecDepth 200000 in
theorem t_X10_reached {post : Int32 -> Int32 -> Int32 -> (Nat -> Int32) -> Prop} {p0 bT aG bL bY : Int32} {m_x gR nG oO pJ sW : Nat -> Int32} (xJ : 0 <= Int32.toInt bT /\ Int32.toInt bT <= 16) (vZ : 0 <= Int32.toInt aG /\ Int32.toInt aG <= 8) (yJ : 0 <= Int32.toInt bL /\ Int32.toInt bL <= 16) (yG : 0 <= Int32.toInt bY /\ Int32.toInt bY <= 1) (aAW : ∀ k : Nat, 0 <= Int32.toInt (m_x k) /\ Int32.toInt (m_x k) <= 99) (xK : ∀ k : Nat, 0 <= Int32.toInt (gR k) /\ Int32.toInt (gR k) <= 99) (xT : ∀ k : Nat, 0 <= Int32.toInt (nG k) /\ Int32.toInt (nG k) <= 99) (yF : ∀ k : Nat, 0 <= Int32.toInt (oO k) /\ Int32.toInt (oO k) <= 99) (yD : ∀ k : Nat, k = 4 -> 1 <= Int32.toInt (pJ k) /\ Int32.toInt (pJ k) <= 30) (xZ : ∀ k : Nat, k = 3 -> 0 <= Int32.toInt (pJ k) /\ Int32.toInt (pJ k) <= 9) (hpost : ∀ (r : Int32) (xM : Int32) (xG : Int32) (aBX : Nat -> Int32), (-1 <= Int32.toInt r /\ Int32.toInt r <= 65535) -> (0 <= Int32.toInt xM /\ Int32.toInt xM <= 16) -> (0 <= Int32.toInt xG /\ Int32.toInt xG <= 0) -> post r xM xG aBX) : wp_X10_reached post p0 bT aG bL bY m_x gR nG oO pJ sW := by
  have l0 := aI2
  have l1 := aE0
  have l2 := aEc
  intro v1 ev1
  have f2 : Int32.toInt (aG - 1) = Int32.toInt aG - Int32.toInt (1 : Int32) := aCA _ _ (by omega)
  rw [<- ev1] at f2
  have f4 := aAT p0
  refine And.intro (fun c3 => ?_) (fun c3 => ?_)
  · skip
    have c3 := (aAd _ _).mp c3
    refine And.intro (aHE (by omega)) ?_
    refine And.intro (fun h9 => absurd h9 (by decide)) (fun _ => ?_)
    exact hpost _ _ _ _ (by omega) yJ (by omega)
  · skip
    have c3 := mt (aAd _ _).mpr c3
    refine And.intro (fun c5 => ?_) (fun c5 => ?_)
    · skip
      have c5 := (aAd _ _).mp c5
      refine And.intro (aHE (by omega)) ?_
      refine And.intro (fun h9 => absurd h9 (by decide)) (fun _ => ?_)
      exact hpost _ _ _ _ (by omega) yJ (by omega)
    · skip
      have c5 := mt (aAd _ _).mpr c5
      refine And.intro (aHE (by omega)) ?_
      refine And.intro (fun _ => ?_) (fun h9 => absurd h9 (by decide))
      refine aX7 (by omega) (by omega) xJ aAW xK xT yF yD xZ (fun r6 h_r6 => ?_)
      refine And.intro (aBZ (by omega)) ?_
      intro v7 ev7
      have f8 : Int32.toInt (0 + 1) = Int32.toInt (0 : Int32) + Int32.toInt (1 : Int32) := aAD _ _ (by omega)
      rw [<- ev7] at f8
      refine aX7 (by omega) (by omega) xJ aAW xK xT yF yD xZ (fun r9 h_r9 => ?_)
      refine And.intro (aBZ (by omega)) ?_
      intro v10 ev10
      have f11 : Int32.toInt (v7 + 1) = Int32.toInt v7 + Int32.toInt (1 : Int32) := aAD _ _ (by omega)
      rw [<- ev10] at f11
      refine aX7 (by omega) (by omega) xJ aAW xK xT yF yD xZ (fun r12 h_r12 => ?_)
      exact hpost _ _ _ _ (by omega) (by omega) (by omega)
set_option maxHeartbeats 8000000 in
set_option maxRecDepth 200000 in
theorem ts_X10_from_69 {post : Int32 -> Int32 -> Prop} {SB : Int} {K29 : Int32 -> Int32 -> Int32 -> Int32 -> Int32 -> Prop} {n29 : Int} (bT aG : Int32) (qG m_x gR nG oO pJ : Nat -> Int32) (xJ : 0 <= Int32.toInt bT /\ Int32.toInt bT <= 16) (vZ : 0 <= Int32.toInt aG /\ Int32.toInt aG <= 8) (xU : ∀ k : Nat, k = 17 -> -1 <= Int32.toInt (qG k) /\ Int32.toInt (qG k) <= SB) (xV : ∀ k : Nat, k = 19 -> 0 <= Int32.toInt (qG k) /\ Int32.toInt (qG k) <= 9) (aAW : ∀ k : Nat, 0 <= Int32.toInt (m_x k) /\ Int32.toInt (m_x k) <= 99) (xK : ∀ k : Nat, 0 <= Int32.toInt (gR k) /\ Int32.toInt (gR k) <= 99) (xT : ∀ k : Nat, 0 <= Int32.toInt (nG k) /\ Int32.toInt (nG k) <= 99) (yF : ∀ k : Nat, 0 <= Int32.toInt (oO k) /\ Int32.toInt (oO k) <= 99) (yD : ∀ k : Nat, k = 4 -> 1 <= Int32.toInt (pJ k) /\ Int32.toInt (pJ k) <= 30) (xZ : ∀ k : Nat, k = 3 -> 0 <= Int32.toInt (pJ k) /\ Int32.toInt (pJ k) <= 9) (hc0 : -1 <= SB /\ SB <= 7) (hc1 : (Int32.toInt aG <= 0 /\ SB = 0) \/ (1 <= Int32.toInt aG /\ SB = Int32.toInt aG - 1)) (hpost : ∀ (r : Int32) (xG : Int32), (-1 <= Int32.toInt r /\ Int32.toInt r <= 255) -> (0 <= Int32.toInt xG /\ Int32.toInt xG <= 0) -> post r xG) (hK29 : ∀ (x1 : Int32) (x2 : Int32) (x3 : Int32) (x4 : Int32) (bY : Int32), (0 <= Int32.toInt x1 /\ Int32.toInt x1 <= 15) -> (0 <= Int32.toInt x2 /\ Int32.toInt x2 <= 1) -> (0 <= Int32.toInt x3 /\ Int32.toInt x3 <= 255) -> (0 <= Int32.toInt x4 /\ Int32.toInt x4 <= 8) -> (0 <= Int32.toInt bY /\ Int32.toInt bY <= 0) -> (8 - Int32.toInt x4 < n29) -> K29 x1 x2 x3 x4 bY) (x1 x2 x4 k0 k1 bY : Int32) (aBK : 0 <= Int32.toInt x1 /\ Int32.toInt x1 <= 15) (aBN : 0 <= Int32.toInt x2 /\ Int32.toInt x2 <= 1) (aDO : 0 <= Int32.toInt x4 /\ Int32.toInt x4 <= 7) (h_k0 : 0 <= Int32.toInt k0 /\ Int32.toInt k0 <= 255) (h_k1 : 0 <= Int32.toInt k1 /\ Int32.toInt k1 <= 128) (yG : 0 <= Int32.toInt bY /\ Int32.toInt bY <= 0) (hn29 : 8 - Int32.toInt x4 <= n29) : ws_X10_from_69 post K29 bT aG qG m_x gR nG oO pJ x1 x2 x4 k0 k1 bY := by
  have l0 := aEc
  intro v1 ev1
  have f2 := ti_or 8 256 k0 k1 (by decide) (by omega) (by omega)
  have hv1 := congrArg Int32.toInt ev1
  intro v3 ev3
  have f4 : Int32.toInt (x4 + 1) = Int32.toInt x4 + Int32.toInt (1 : Int32) := aAD _ _ (by omega)
  rw [<- ev3] at f4
  exact hK29 x1 x2 v1 v3 bY aBK aBN (by omega) (by omega) yG (by omega)
set_option maxHeartbeats 8000000 in
set_option maxRecDepth 200000 in
theorem ts_X10_from_29 {post : Int32 -> Int32 -> Prop} {SB : Int} {next : Int32 -> Int32 -> Int32 -> Int32 -> Int32 -> Prop} {n29 : Int} (bT aG : Int32) (qG m_x gR nG oO pJ : Nat -> Int32) (xJ : 0 <= Int32.toInt bT /\ Int32.toInt bT <= 16) (vZ : 0 <= Int32.toInt aG /\ Int32.toInt aG <= 8) (xU : ∀ k : Nat, k = 17 -> -1 <= Int32.toInt (qG k) /\ Int32.toInt (qG k) <= SB) (xV : ∀ k : Nat, k = 19 -> 0 <= Int32.toInt (qG k) /\ Int32.toInt (qG k) <= 9) (aAW : ∀ k : Nat, 0 <= Int32.toInt (m_x k) /\ Int32.toInt (m_x k) <= 99) (xK : ∀ k : Nat, 0 <= Int32.toInt (gR k) /\ Int32.toInt (gR k) <= 99) (xT : ∀ k : Nat, 0 <= Int32.toInt (nG k) /\ Int32.toInt (nG k) <= 99) (yF : ∀ k : Nat, 0 <= Int32.toInt (oO k) /\ Int32.toInt (oO k) <= 99) (yD : ∀ k : Nat, k = 4 -> 1 <= Int32.toInt (pJ k) /\ Int32.toInt (pJ k) <= 30) (xZ : ∀ k : Nat, k = 3 -> 0 <= Int32.toInt (pJ k) /\ Int32.toInt (pJ k) <= 9) (hc0 : -1 <= SB /\ SB <= 7) (hc1 : (Int32.toInt aG <= 0 /\ SB = 0) \/ (1 <= Int32.toInt aG /\ SB = Int32.toInt aG - 1)) (hpost : ∀ (r : Int32) (xG : Int32), (-1 <= Int32.toInt r /\ Int32.toInt r <= 255) -> (0 <= Int32.toInt xG /\ Int32.toInt xG <= 0) -> post r xG) (hKn : ∀ (x1 : Int32) (x2 : Int32) (x3 : Int32) (x4 : Int32) (bY : Int32), (0 <= Int32.toInt x1 /\ Int32.toInt x1 <= 15) -> (0 <= Int32.toInt x2 /\ Int32.toInt x2 <= 1) -> (0 <= Int32.toInt x3 /\ Int32.toInt x3 <= 255) -> (0 <= Int32.toInt x4 /\ Int32.toInt x4 <= 8) -> (0 <= Int32.toInt bY /\ Int32.toInt bY <= 0) -> (8 - Int32.toInt x4 < n29) -> next x1 x2 x3 x4 bY) (x1 x2 x3 x4 bY : Int32) (aBK : 0 <= Int32.toInt x1 /\ Int32.toInt x1 <= 15) (aBN : 0 <= Int32.toInt x2 /\ Int32.toInt x2 <= 1) (aCH : 0 <= Int32.toInt x3 /\ Int32.toInt x3 <= 255) (aDO : 0 <= Int32.toInt x4 /\ Int32.toInt x4 <= 8) (yG : 0 <= Int32.toInt bY /\ Int32.toInt bY <= 0) (hn29 : 8 - Int32.toInt x4 <= n29) : ws_X10_from_29 post next bT aG qG m_x gR nG oO pJ x1 x2 x3 x4 bY := by
  have l0 := aE0
  have l1 := aEc
  have l2 := li_18
  have l3 := li_2
  refine And.intro (fun c5 => ?_) (fun c5 => ?_)
  · skip
    have c5 := (aAO _ _).mp c5
    exact hpost _ _ (by omega) yG
  · skip
    have c5 := mt (aAO _ _).mpr c5
    intro v6 ev6
    have hv6 := congrArg Int32.toInt ev6
    intro v8 ev8
    have hv8 := congrArg Int32.toInt ev8
    intro v10 ev10
    have hv10 := congrArg Int32.toInt ev10
    refine And.intro (aBZ (by omega)) ?_
    intro v12 ev12
    have f13 := aAW x1.toNatClampNeg
    have hv12 := congrArg Int32.toInt ev12
    refine And.intro (aBZ (by omega)) ?_
    intro v14 ev14
    have f16 := xT x4.toNatClampNeg
    have f15 : Int32.toInt (v12 - (nG x4.toNatClampNeg)) = Int32.toInt v12 - Int32.toInt (nG x4.toNatClampNeg) := aCA _ _ (by omega)
    rw [<- ev14] at f15
    intro v17 ev17
    have f18 := ti_abs v14 (by omega)
    have hv17 := congrArg Int32.toInt ev17
    refine And.intro (aBZ (by omega)) ?_
    intro v19 ev19
    have hv19 := congrArg Int32.toInt ev19
    refine And.intro (aBZ (by omega)) ?_
    intro v20 ev20
    have f21 : Int32.toInt (v19 - (nG x4.toNatClampNeg)) = Int32.toInt v19 - Int32.toInt (nG x4.toNatClampNeg) := aCA _ _ (by omega)
    rw [<- ev20] at f21
    intro v22 ev22
    have f23 := ti_abs v20 (by omega)
    have hv22 := congrArg Int32.toInt ev22
    intro v24 ev24
    have hv24 := congrArg Int32.toInt ev24
    refine And.intro (aBZ (by omega)) ?_
    intro v26 ev26
    have f27 := xK x1.toNatClampNeg
    have hv26 := congrArg Int32.toInt ev26
    refine And.intro (aBZ (by omega)) ?_
    intro v28 ev28
    have f30 := yF x4.toNatClampNeg
    have f29 : Int32.toInt (v26 - (oO x4.toNatClampNeg)) = Int32.toInt v26 - Int32.toInt (oO x4.toNatClampNeg) := aCA _ _ (by omega)
    rw [<- ev28] at f29
    intro v31 ev31
    have f32 := ti_max (0 : Int32) v28
    have hv31 := congrArg Int32.toInt ev31
    refine And.intro (aBZ (by omega)) ?_
    intro v33 ev33
    have hv33 := congrArg Int32.toInt ev33
    refine And.intro (aBZ (by omega)) ?_
    intro v34 ev34
    have f35 : Int32.toInt (v33 - (oO x4.toNatClampNeg)) = Int32.toInt v33 - Int32.toInt (oO x4.toNatClampNeg) := aCA _ _ (by omega)
    rw [<- ev34] at f35
    intro v36 ev36
    have f37 := ti_max (0 : Int32) v34
    have hv36 := congrArg Int32.toInt ev36
    intro v38 ev38
    have hv38 := congrArg Int32.toInt ev38
    have f41 := aAT v38
    refine And.intro (fun c40 => ?_) (fun c40 => ?_)
    · skip
      have c40 := (aAd _ _).mp c40
      refine And.intro (fun _ => ?_) (fun h9 => absurd h9 (by decide))
      exact ts_X10_from_69 bT aG qG m_x gR nG oO pJ xJ vZ xU xV aAW xK xT yF yD xZ hc0 hc1 hpost hKn x1 x2 x4 x3 0 bY aBK aBN (by omega) aCH (by omega) yG hn29
    · skip
      have c40 := mt (aAd _ _).mpr c40
      refine And.intro (fun h9 => absurd h9 (by decide)) (fun _ => ?_)
      intro v43 ev43
      have f44 := aDv 7 128 x4 (by decide) (by omega)
      have hv43 := congrArg Int32.toInt ev43
      exact ts_X10_from_69 bT aG qG m_x gR nG oO pJ xJ vZ xU xV aAW xK xT yF yD xZ hc0 hc1 hpost hKn x1 x2 x4 x3 v43 bY aBK aBN (by omega) aCH (by omega) yG hn29
set_option maxHeartbeats 8000000 in
set_option maxRecDepth 200000 in
theorem tb_X10_from_29 {post : Int32 -> Int32 -> Prop} {SB : Int} (bT aG : Int32) (qG m_x gR nG oO pJ : Nat -> Int32) (xJ : 0 <= Int32.toInt bT /\ Int32.toInt bT <= 16) (vZ : 0 <= Int32.toInt aG /\ Int32.toInt aG <= 8) (xU : ∀ k : Nat, k = 17 -> -1 <= Int32.toInt (qG k) /\ Int32.toInt (qG k) <= SB) (xV : ∀ k : Nat, k = 19 -> 0 <= Int32.toInt (qG k) /\ Int32.toInt (qG k) <= 9) (aAW : ∀ k : Nat, 0 <= Int32.toInt (m_x k) /\ Int32.toInt (m_x k) <= 99) (xK : ∀ k : Nat, 0 <= Int32.toInt (gR k) /\ Int32.toInt (gR k) <= 99) (xT : ∀ k : Nat, 0 <= Int32.toInt (nG k) /\ Int32.toInt (nG k) <= 99) (yF : ∀ k : Nat, 0 <= Int32.toInt (oO k) /\ Int32.toInt (oO k) <= 99) (yD : ∀ k : Nat, k = 4 -> 1 <= Int32.toInt (pJ k) /\ Int32.toInt (pJ k) <= 30) (xZ : ∀ k : Nat, k = 3 -> 0 <= Int32.toInt (pJ k) /\ Int32.toInt (pJ k) <= 9) (hc0 : -1 <= SB /\ SB <= 7) (hc1 : (Int32.toInt aG <= 0 /\ SB = 0) \/ (1 <= Int32.toInt aG /\ SB = Int32.toInt aG - 1)) (hpost : ∀ (r : Int32) (xG : Int32), (-1 <= Int32.toInt r /\ Int32.toInt r <= 255) -> (0 <= Int32.toInt xG /\ Int32.toInt xG <= 0) -> post r xG) : ∀ (n : Nat) (x1 x2 x3 x4 bY : Int32), (0 <= Int32.toInt x1 /\ Int32.toInt x1 <= 15) -> (0 <= Int32.toInt x2 /\ Int32.toInt x2 <= 1) -> (0 <= Int32.toInt x3 /\ Int32.toInt x3 <= 255) -> (0 <= Int32.toInt x4 /\ Int32.toInt x4 <= 8) -> (0 <= Int32.toInt bY /\ Int32.toInt bY <= 0) -> (8 - Int32.toInt x4 < (n : Int)) -> wb_X10_from_29 post bT aG qG m_x gR nG oO pJ n x1 x2 x3 x4 bY := by
  intro n
  induction n with
  | zero =>
    intro x1 x2 x3 x4 bY aBK aBN aCH aDO yG hm
    exfalso; omega
  | succ n ih =>
    intro x1 x2 x3 x4 bY aBK aBN aCH aDO yG hm
    exact ts_X10_from_29 bT aG qG m_x gR nG oO pJ xJ vZ xU xV aAW xK xT yF yD xZ hc0 hc1 hpost ih x1 x2 x3 x4 bY aBK aBN aCH aDO yG (by omega)
set_option maxHeartbeats 8000000 in
set_option maxRecDepth 200000 in
theorem t_X10_from {post : Int32 -> Int32 -> Prop} {SB : Int} {p0 p1 bT aG bY : Int32} {qG m_x gR nG oO pJ : Nat -> Int32} (xJ : 0 <= Int32.toInt bT /\ Int32.toInt bT <= 16) (vZ : 0 <= Int32.toInt aG /\ Int32.toInt aG <= 8) (yG : 0 <= Int32.toInt bY /\ Int32.toInt bY <= 1) (xU : ∀ k : Nat, k = 17 -> -1 <= Int32.toInt (qG k) /\ Int32.toInt (qG k) <= SB) (xV : ∀ k : Nat, k = 19 -> 0 <= Int32.toInt (qG k) /\ Int32.toInt (qG k) <= 9) (aAW : ∀ k : Nat, 0 <= Int32.toInt (m_x k) /\ Int32.toInt (m_x k) <= 99) (xK : ∀ k : Nat, 0 <= Int32.toInt (gR k) /\ Int32.toInt (gR k) <= 99) (xT : ∀ k : Nat, 0 <= Int32.toInt (nG k) /\ Int32.toInt (nG k) <= 99) (yF : ∀ k : Nat, 0 <= Int32.toInt (oO k) /\ Int32.toInt (oO k) <= 99) (yD : ∀ k : Nat, k = 4 -> 1 <= Int32.toInt (pJ k) /\ Int32.toInt (pJ k) <= 30) (xZ : ∀ k : Nat, k = 3 -> 0 <= Int32.toInt (pJ k) /\ Int32.toInt (pJ k) <= 9) (hc0 : -1 <= SB /\ SB <= 7) (hc1 : (Int32.toInt aG <= 0 /\ SB = 0) \/ (1 <= Int32.toInt aG /\ SB = Int32.toInt aG - 1)) (hpost : ∀ (r : Int32) (xG : Int32), (-1 <= Int32.toInt r /\ Int32.toInt r <= 255) -> (0 <= Int32.toInt xG /\ Int32.toInt xG <= 0) -> post r xG) : wp_X10_from post p0 p1 bT aG bY qG m_x gR nG oO pJ := by
  have l0 := aI2
  have l1 := aE0
  have l2 := aEc
  intro v45 ev45
  have f46 : Int32.toInt (bT - 1) = Int32.toInt bT - Int32.toInt (1 : Int32) := aCA _ _ (by omega)
  rw [<- ev45] at f46
  have f48 := aAT p0
  refine And.intro (fun c47 => ?_) (fun c47 => ?_)
  · skip
    have c47 := (aAd _ _).mp c47
    refine And.intro (aHE (by omega)) ?_
    refine And.intro (fun _ => ?_) (fun h9 => absurd h9 (by decide))
    exact hpost _ _ (by omega) (by omega)
  · skip
    have c47 := mt (aAd _ _).mpr c47
    refine And.intro (fun c49 => ?_) (fun c49 => ?_)
    · skip
      have c49 := (aAd _ _).mp c49
      refine And.intro (aHE (by omega)) ?_
      refine And.intro (fun _ => ?_) (fun h9 => absurd h9 (by decide))
      exact hpost _ _ (by omega) (by omega)
    · skip
      have c49 := mt (aAd _ _).mpr c49
      refine And.intro (aHE (by omega)) ?_
      refine And.intro (fun h9 => absurd h9 (by decide)) (fun _ => ?_)
      have f51 := aAT p1
      refine And.intro (fun c50 => ?_) (fun c50 => ?_)
      · skip
        have c50 := (aAd _ _).mp c50
        refine And.intro (fun h9 => absurd h9 (by decide)) (fun _ => ?_)
        exact hpost _ _ (by omega) (by omega)
      · skip
        have c50 := mt (aAd _ _).mpr c50
        refine And.intro (fun c52 => ?_) (fun c52 => ?_)
        · skip
          have c52 := (aAd _ _).mp c52
          refine And.intro (fun h9 => absurd h9 (by decide)) (fun _ => ?_)
          exact hpost _ _ (by omega) (by omega)
        · skip
          have c52 := mt (aAd _ _).mpr c52
          refine And.intro (fun _ => ?_) (fun h9 => absurd h9 (by decide))
          exact ⟨10, tb_X10_from_29 bT aG qG m_x gR nG oO pJ xJ vZ xU xV aAW xK xT yF yD xZ hc0 hc1 hpost _ p0 p1 0 0 0 (by omega) (by omega) (by omega) (by omega) (by omega) (by omega)⟩
set_option maxHeartbeats 8000000 in
set_option maxRecDepth 200000 in
theorem ts_X10_worthOfAll_35 {post : Int32 -> Prop} {K5 : Int32 -> Int32 -> Int32 -> Int32 -> Prop} {n5 : Int} (bT : Int32) (pW : Nat -> Int32) (xJ : 0 <= Int32.toInt bT /\ Int32.toInt bT <= 16) (yR : ∀ k : Nat, 0 <= Int32.toInt (pW k) /\ Int32.toInt (pW k) <= 9) (hpost : ∀ (r : Int32) , post r) (hK5 : ∀ (x1 : Int32) (x2 : Int32) (x3 : Int32) (x4 : Int32), (0 <= Int32.toInt x1 /\ Int32.toInt x1 <= 65535) -> (0 <= Int32.toInt x4 /\ Int32.toInt x4 <= 16) -> (16 - Int32.toInt x4 < n5) -> K5 x1 x2 x3 x4) (x1 x2 x4 k0 k1 : Int32) (aBK : 0 <= Int32.toInt x1 /\ Int32.toInt x1 <= 65535) (aDO : 0 <= Int32.toInt x4 /\ Int32.toInt x4 <= 15) (h_k1 : 0 <= Int32.toInt k1 /\ Int32.toInt k1 <= 9) (hn5 : 16 - Int32.toInt x4 <= n5) : ws_X10_worthOfAll_35 post K5 bT pW x1 x2 x4 k0 k1 := by
  have l0 := aEc
  intro v1 ev1
  have hv1 := congrArg Int32.toInt ev1
  intro v3 ev3
  have f4 : Int32.toInt (x4 + 1) = Int32.toInt x4 + Int32.toInt (1 : Int32) := aAD _ _ (by omega)
  rw [<- ev3] at f4
  have f5 := aAT x2
  have f6 := aAT v1
  exact hK5 x1 x2 v1 v3 aBK (by omega) (by omega)
set_option maxHeartbeats 8000000 in
set_option maxRecDepth 200000 in
theorem ts_X10_worthOfAll_5 {post : Int32 -> Prop} {next : Int32 -> Int32 -> Int32 -> Int32 -> Prop} {n5 : Int} (bT : Int32) (pW : Nat -> Int32) (xJ : 0 <= Int32.toInt bT /\ Int32.toInt bT <= 16) (yR : ∀ k : Nat, 0 <= Int32.toInt (pW k) /\ Int32.toInt (pW k) <= 9) (hpost : ∀ (r : Int32) , post r) (hKn : ∀ (x1 : Int32) (x2 : Int32) (x3 : Int32) (x4 : Int32), (0 <= Int32.toInt x1 /\ Int32.toInt x1 <= 65535) -> (0 <= Int32.toInt x4 /\ Int32.toInt x4 <= 16) -> (16 - Int32.toInt x4 < n5) -> next x1 x2 x3 x4) (x1 x2 x3 x4 : Int32) (aBK : 0 <= Int32.toInt x1 /\ Int32.toInt x1 <= 65535) (aDO : 0 <= Int32.toInt x4 /\ Int32.toInt x4 <= 16) (hn5 : 16 - Int32.toInt x4 <= n5) : ws_X10_worthOfAll_5 post next bT pW x1 x2 x3 x4 := by
  have l0 := aE0
  have l1 := aEc
  have l2 := li_2
  refine And.intro (fun c7 => ?_) (fun c7 => ?_)
  · skip
    have c7 := (aAO _ _).mp c7
    exact hpost _ 
  · skip
    have c7 := mt (aAO _ _).mpr c7
    intro v8 ev8
    have f9 := aRJ x1 x4 (by omega)
    have hv8 := congrArg Int32.toInt ev8
    intro v10 ev10
    have f11 := aAQ v8 1 (by omega)
    have f12 := aBx v8 1 (by omega)
    have hv10 := congrArg Int32.toInt ev10
    refine And.intro (fun c13 => ?_) (fun c13 => ?_)
    · skip
      have c13 := mt (zJ _ _).mpr c13
      refine And.intro (fun _ => ?_) (fun h9 => absurd h9 (by decide))
      have f14 := aAT x2
      have f15 := aAT x3
      exact ts_X10_worthOfAll_35 bT pW xJ yR hpost hKn x1 x2 x4 x3 0 aBK (by omega) (by omega) hn5
    · skip
      have c13 := (zJ _ _).mp c13
      refine And.intro (fun h9 => absurd h9 (by decide)) (fun _ => ?_)
      intro v16 ev16
      intro v17 ev17
      have f18 := aAQ v16 1 (by omega)
      have hv17 := congrArg Int32.toInt ev17
      refine And.intro (fun c19 => ?_) (fun c19 => ?_)
      · skip
        have c19 := mt (zJ _ _).mpr c19
        refine And.intro (fun _ => ?_) (fun h9 => absurd h9 (by decide))
        refine And.intro (aBZ (by omega)) ?_
        have f20 := yR x4.toNatClampNeg
        have f21 := aAT x2
        have f22 := aAT x3
        exact ts_X10_worthOfAll_35 bT pW xJ yR hpost hKn x1 x2 x4 x3 (pW x4.toNatClampNeg) aBK (by omega) (by omega) hn5
      · skip
        have c19 := (zJ _ _).mp c19
        refine And.intro (fun h9 => absurd h9 (by decide)) (fun _ => ?_)
        refine And.intro (aBZ (by omega)) ?_
        intro v23 ev23
        have f24 := yR x4.toNatClampNeg
        have hv23 := congrArg Int32.toInt ev23
        intro v25 ev25
        have f26 : Int32.toInt (v23 / 2) = Int32.toInt v23 / 2 := ti_div _ _ (by decide) (by omega) (by decide)
        rw [<- ev25] at f26
        have f27 := aAT x2
        have f28 := aAT x3
        exact ts_X10_worthOfAll_35 bT pW xJ yR hpost hKn x1 x2 x4 x3 v25 aBK (by omega) (by omega) hn5
set_option maxHeartbeats 8000000 in
set_option maxRecDepth 200000 in
theorem tb_X10_worthOfAll_5 {post : Int32 -> Prop} (bT : Int32) (pW : Nat -> Int32) (xJ : 0 <= Int32.toInt bT /\ Int32.toInt bT <= 16) (yR : ∀ k : Nat, 0 <= Int32.toInt (pW k) /\ Int32.toInt (pW k) <= 9) (hpost : ∀ (r : Int32) , post r) : ∀ (n : Nat) (x1 x2 x3 x4 : Int32), (0 <= Int32.toInt x1 /\ Int32.toInt x1 <= 65535) -> (0 <= Int32.toInt x4 /\ Int32.toInt x4 <= 16) -> (16 - Int32.toInt x4 < (n : Int)) -> wb_X10_worthOfAll_5 post bT pW n x1 x2 x3 x4 := by
  intro n
  induction n with
  | zero =>
    intro x1 x2 x3 x4 aBK aDO hm
    exfalso; omega
  | succ n ih =>
    intro x1 x2 x3 x4 aBK aDO hm
    exact ts_X10_worthOfAll_5 bT pW xJ yR hpost ih x1 x2 x3 x4 aBK aDO (by omega)
set_option maxHeartbeats 8000000 in
set_option maxRecDepth 200000 in
theorem aNU {post : Int32 -> Prop} {p0 p1 bT : Int32} {pW : Nat -> Int32} (h_p0 : 0 <= Int32.toInt p0 /\ Int32.toInt p0 <= 65535) (xJ : 0 <= Int32.toInt bT /\ Int32.toInt bT <= 16) (yR : ∀ k : Nat, 0 <= Int32.toInt (pW k) /\ Int32.toInt (pW k) <= 9) (hpost : ∀ (r : Int32) , post r) : aMp post p0 p1 bT pW := by
  have l0 := aE0
  have f29 := aAT p1
  exact ⟨18, tb_X10_worthOfAll_5 bT pW xJ yR hpost _ p0 p1 0 0 h_p0 (by omega) (by omega)⟩
set_option maxHeartbeats 8000000 in
set_option maxRecDepth 200000 in
theorem ts_X10_never_17 {post : Int32 -> Int32 -> Int32 -> (Nat -> Int32) -> Prop} {SB : Int} {next : Int32 -> Int32 -> Int32 -> Int32 -> (Nat -> Int32) -> Prop} {n17 : Int} (bT aG : Int32) (qG m_x gR pW nG oO pJ : Nat -> Int32) (xJ : 0 <= Int32.toInt bT /\ Int32.toInt bT <= 16) (vZ : 0 <= Int32.toInt aG /\ Int32.toInt aG <= 8) (xU : ∀ k : Nat, k = 17 -> -1 <= Int32.toInt (qG k) /\ Int32.toInt (qG k) <= SB) (xV : ∀ k : Nat, k = 19 -> 0 <= Int32.toInt (qG k) /\ Int32.toInt (qG k) <= 9) (aAW : ∀ k : Nat, 0 <= Int32.toInt (m_x k) /\ Int32.toInt (m_x k) <= 99) (xK : ∀ k : Nat, 0 <= Int32.toInt (gR k) /\ Int32.toInt (gR k) <= 99) (yR : ∀ k : Nat, 0 <= Int32.toInt (pW k) /\ Int32.toInt (pW k) <= 9) (xT : ∀ k : Nat, 0 <= Int32.toInt (nG k) /\ Int32.toInt (nG k) <= 99) (yF : ∀ k : Nat, 0 <= Int32.toInt (oO k) /\ Int32.toInt (oO k) <= 99) (yD : ∀ k : Nat, k = 4 -> 1 <= Int32.toInt (pJ k) /\ Int32.toInt (pJ k) <= 30) (xZ : ∀ k : Nat, k = 3 -> 0 <= Int32.toInt (pJ k) /\ Int32.toInt (pJ k) <= 9) (hc0 : -1 <= SB /\ SB <= 7) (hc1 : (Int32.toInt aG <= 0 /\ SB = 0) \/ (1 <= Int32.toInt aG /\ SB = Int32.toInt aG - 1)) (hpost : ∀ (r : Int32) (xM : Int32) (xG : Int32) (aBX : Nat -> Int32), (0 <= Int32.toInt r /\ Int32.toInt r <= 65535) -> (1 <= Int32.toInt xM /\ Int32.toInt xM <= 1) -> (0 <= Int32.toInt xG /\ Int32.toInt xG <= 0) -> post r xM xG aBX) (hKn : ∀ (x1 : Int32) (x2 : Int32) (bL : Int32) (bY : Int32) (sW : Nat -> Int32), (0 <= Int32.toInt x1 /\ Int32.toInt x1 <= 65535) -> (0 <= Int32.toInt x2 /\ Int32.toInt x2 <= 8) -> (0 <= Int32.toInt bL /\ Int32.toInt bL <= 16) -> (0 <= Int32.toInt bY /\ Int32.toInt bY <= 0) -> (8 - Int32.toInt x2 < n17) -> next x1 x2 bL bY sW) (x1 x2 bL bY : Int32) (sW : Nat -> Int32) (aBK : 0 <= Int32.toInt x1 /\ Int32.toInt x1 <= 65535) (aBN : 0 <= Int32.toInt x2 /\ Int32.toInt x2 <= 8) (yJ : 0 <= Int32.toInt bL /\ Int32.toInt bL <= 16) (yG : 0 <= Int32.toInt bY /\ Int32.toInt bY <= 0) (hn17 : 8 - Int32.toInt x2 <= n17) : ws_X10_never_17 post next bT aG qG m_x gR pW nG oO pJ x1 x2 bL bY sW := by
  have l0 := aE0
  have l1 := aEc
  have l2 := li_16
  refine And.intro (fun c1 => ?_) (fun c1 => ?_)
  · skip
    have c1 := (aAO _ _).mp c1
    intro v2 ev2
    have hv2 := congrArg Int32.toInt ev2
    refine aNU aBK xJ yR (fun r4 => ?_)
    refine And.intro (aBZ (by omega)) ?_
    intro v5 ev5
    have f6 : Int32.toInt (0 + 1) = Int32.toInt (0 : Int32) + Int32.toInt (1 : Int32) := aAD _ _ (by omega)
    rw [<- ev5] at f6
    exact hpost _ _ _ _ aBK (by omega) yG
  · skip
    have c1 := mt (aAO _ _).mpr c1
    refine aX7 (by omega) (by omega) xJ aAW xK xT yF yD xZ (fun r7 h_r7 => ?_)
    intro v8 ev8
    have f10 := aBx x1 (r7 ^^^ (-1)) (by omega)
    have hv8 := congrArg Int32.toInt ev8
    intro v11 ev11
    have f12 : Int32.toInt (x2 + 1) = Int32.toInt x2 + Int32.toInt (1 : Int32) := aAD _ _ (by omega)
    rw [<- ev11] at f12
    exact hKn v8 v11 bL bY sW (by omega) (by omega) yJ yG (by omega)
set_option maxHeartbeats 8000000 in
set_option maxRecDepth 200000 in
theorem tb_X10_never_17 {post : Int32 -> Int32 -> Int32 -> (Nat -> Int32) -> Prop} {SB : Int} (bT aG : Int32) (qG m_x gR pW nG oO pJ : Nat -> Int32) (xJ : 0 <= Int32.toInt bT /\ Int32.toInt bT <= 16) (vZ : 0 <= Int32.toInt aG /\ Int32.toInt aG <= 8) (xU : ∀ k : Nat, k = 17 -> -1 <= Int32.toInt (qG k) /\ Int32.toInt (qG k) <= SB) (xV : ∀ k : Nat, k = 19 -> 0 <= Int32.toInt (qG k) /\ Int32.toInt (qG k) <= 9) (aAW : ∀ k : Nat, 0 <= Int32.toInt (m_x k) /\ Int32.toInt (m_x k) <= 99) (xK : ∀ k : Nat, 0 <= Int32.toInt (gR k) /\ Int32.toInt (gR k) <= 99) (yR : ∀ k : Nat, 0 <= Int32.toInt (pW k) /\ Int32.toInt (pW k) <= 9) (xT : ∀ k : Nat, 0 <= Int32.toInt (nG k) /\ Int32.toInt (nG k) <= 99) (yF : ∀ k : Nat, 0 <= Int32.toInt (oO k) /\ Int32.toInt (oO k) <= 99) (yD : ∀ k : Nat, k = 4 -> 1 <= Int32.toInt (pJ k) /\ Int32.toInt (pJ k) <= 30) (xZ : ∀ k : Nat, k = 3 -> 0 <= Int32.toInt (pJ k) /\ Int32.toInt (pJ k) <= 9) (hc0 : -1 <= SB /\ SB <= 7) (hc1 : (Int32.toInt aG <= 0 /\ SB = 0) \/ (1 <= Int32.toInt aG /\ SB = Int32.toInt aG - 1)) (hpost : ∀ (r : Int32) (xM : Int32) (xG : Int32) (aBX : Nat -> Int32), (0 <= Int32.toInt r /\ Int32.toInt r <= 65535) -> (1 <= Int32.toInt xM /\ Int32.toInt xM <= 1) -> (0 <= Int32.toInt xG /\ Int32.toInt xG <= 0) -> post r xM xG aBX) : ∀ (n : Nat) (x1 x2 bL bY : Int32) (sW : Nat -> Int32), (0 <= Int32.toInt x1 /\ Int32.toInt x1 <= 65535) -> (0 <= Int32.toInt x2 /\ Int32.toInt x2 <= 8) -> (0 <= Int32.toInt bL /\ Int32.toInt bL <= 16) -> (0 <= Int32.toInt bY /\ Int32.toInt bY <= 0) -> (8 - Int32.toInt x2 < (n : Int)) -> wb_X10_never_17 post bT aG qG m_x gR pW nG oO pJ n x1 x2 bL bY sW := by
  intro n
  induction n with
  | zero =>
    intro x1 x2 bL bY sW aBK aBN yJ yG hm
    exfalso; omega
  | succ n ih =>
    intro x1 x2 bL bY sW aBK aBN yJ yG hm
    exact ts_X10_never_17 bT aG qG m_x gR pW nG oO pJ xJ vZ xU xV aAW xK yR xT yF yD xZ hc0 hc1 hpost ih x1 x2 bL bY sW aBK aBN yJ yG (by omega)
set_option maxHeartbeats 8000000 in
set_option maxRecDepth 200000 in
theorem t_X10_never {post : Int32 -> Int32 -> Int32 -> (Nat -> Int32) -> Prop} {SB : Int} {bT aG bL bY : Int32} {qG m_x gR pW nG oO pJ sW : Nat -> Int32} (xJ : 0 <= Int32.toInt bT /\ Int32.toInt bT <= 16) (vZ : 0 <= Int32.toInt aG /\ Int32.toInt aG <= 8) (yJ : 0 <= Int32.toInt bL /\ Int32.toInt bL <= 16) (yG : 0 <= Int32.toInt bY /\ Int32.toInt bY <= 1) (xU : ∀ k : Nat, k = 17 -> -1 <= Int32.toInt (qG k) /\ Int32.toInt (qG k) <= SB) (xV : ∀ k : Nat, k = 19 -> 0 <= Int32.toInt (qG k) /\ Int32.toInt (qG k) <= 9) (aAW : ∀ k : Nat, 0 <= Int32.toInt (m_x k) /\ Int32.toInt (m_x k) <= 99) (xK : ∀ k : Nat, 0 <= Int32.toInt (gR k) /\ Int32.toInt (gR k) <= 99) (yR : ∀ k : Nat, 0 <= Int32.toInt (pW k) /\ Int32.toInt (pW k) <= 9) (xT : ∀ k : Nat, 0 <= Int32.toInt (nG k) /\ Int32.toInt (nG k) <= 99) (yF : ∀ k : Nat, 0 <= Int32.toInt (oO k) /\ Int32.toInt (oO k) <= 99) (yD : ∀ k : Nat, k = 4 -> 1 <= Int32.toInt (pJ k) /\ Int32.toInt (pJ k) <= 30) (xZ : ∀ k : Nat, k = 3 -> 0 <= Int32.toInt (pJ k) /\ Int32.toInt (pJ k) <= 9) (hc0 : -1 <= SB /\ SB <= 7) (hc1 : (Int32.toInt aG <= 0 /\ SB = 0) \/ (1 <= Int32.toInt aG /\ SB = Int32.toInt aG - 1)) (hpost : ∀ (r : Int32) (xM : Int32) (xG : Int32) (aBX : Nat -> Int32), (0 <= Int32.toInt r /\ Int32.toInt r <= 65535) -> (1 <= Int32.toInt xM /\ Int32.toInt xM <= 1) -> (0 <= Int32.toInt xG /\ Int32.toInt xG <= 0) -> post r xM xG aBX) : wp_X10_never post bT aG bL bY qG m_x gR pW nG oO pJ sW := by
  have l0 := aE0
  refine aKO (by omega) xJ xU xV (by omega) (fun r13 h_r13 ox14 => ?_)
  exact ⟨10, tb_X10_never_17 bT aG qG m_x gR pW nG oO pJ xJ vZ xU xV aAW xK yR xT yF yD xZ hc0 hc1 hpost _ r13 0 bL 0 sW h_r13 (by omega) yJ (by omega) (by omega)⟩
set_option maxHeartbeats 8000000 in
set_option maxRecDepth 200000 in
theorem t_X10_seconds {post : Int32 -> Int32 -> Nat -> Int32 -> Int32 -> Int32 -> Int32 -> Int32 -> Int32 -> Int32 -> Int32 -> Int32 -> Prop} {SB : Int} {p0 p1 p2 bT aG bY : Int32} {jD : Nat} {mLn oF rP dQ bW bZ aR aE bI aW : Int32} {qG m_x gR pW nG oO pJ qO qQ : Nat -> Int32} (xJ : 0 <= Int32.toInt bT /\ Int32.toInt bT <= 16) (vZ : 0 <= Int32.toInt aG /\ Int32.toInt aG <= 8) (yG : 0 <= Int32.toInt bY /\ Int32.toInt bY <= 1) (yM : jD = 0 \/ jD = 1 \/ jD = 2) (zE : 0 <= Int32.toInt mLn /\ Int32.toInt mLn <= 80) (aAR : 0 <= Int32.toInt oF /\ Int32.toInt oF <= 80) (aA1 : 0 <= Int32.toInt rP /\ Int32.toInt rP <= 80) (aAA : -1 <= Int32.toInt dQ /\ Int32.toInt dQ <= 80) (zQ : 0 <= Int32.toInt bW /\ Int32.toInt bW <= 40) (zT : 0 <= Int32.toInt bZ /\ Int32.toInt bZ <= 0) (yL : 0 <= Int32.toInt aR /\ Int32.toInt aR <= 15) (xQ : 0 <= Int32.toInt aE /\ Int32.toInt aE <= 7) (yY : 0 <= Int32.toInt bI /\ Int32.toInt bI <= 1) (yK : 0 <= Int32.toInt aW /\ Int32.toInt aW <= 63) (xU : ∀ k : Nat, k = 17 -> -1 <= Int32.toInt (qG k) /\ Int32.toInt (qG k) <= SB) (xV : ∀ k : Nat, k = 19 -> 0 <= Int32.toInt (qG k) /\ Int32.toInt (qG k) <= 9) (aAW : ∀ k : Nat, 0 <= Int32.toInt (m_x k) /\ Int32.toInt (m_x k) <= 99) (xK : ∀ k : Nat, 0 <= Int32.toInt (gR k) /\ Int32.toInt (gR k) <= 99) (yR : ∀ k : Nat, 0 <= Int32.toInt (pW k) /\ Int32.toInt (pW k) <= 9) (xT : ∀ k : Nat, 0 <= Int32.toInt (nG k) /\ Int32.toInt (nG k) <= 99) (yF : ∀ k : Nat, 0 <= Int32.toInt (oO k) /\ Int32.toInt (oO k) <= 99) (yD : ∀ k : Nat, k = 4 -> 1 <= Int32.toInt (pJ k) /\ Int32.toInt (pJ k) <= 30) (xZ : ∀ k : Nat, k = 3 -> 0 <= Int32.toInt (pJ k) /\ Int32.toInt (pJ k) <= 9) (zG : ∀ k : Nat, -128 <= Int32.toInt (qO k) /\ Int32.toInt (qO k) <= 127) (zI : ∀ k : Nat, -128 <= Int32.toInt (qQ k) /\ Int32.toInt (qQ k) <= 127) (hc0 : -1 <= SB /\ SB <= 7) (hc1 : (Int32.toInt aG <= 0 /\ SB = 0) \/ (1 <= Int32.toInt aG /\ SB = Int32.toInt aG - 1)) (hpost : ∀ (r : Int32) (xG : Int32) (aAP : Nat) (zS : Int32) (aAz : Int32) (aAm : Int32) (zH : Int32) (aAM : Int32) (zP : Int32) (yO : Int32) (zZ : Int32) (zO : Int32), (-2 <= Int32.toInt r /\ Int32.toInt r <= 99) -> (0 <= Int32.toInt xG /\ Int32.toInt xG <= 0) -> (aAP = 0 \/ aAP = 1 \/ aAP = 2) -> (0 <= Int32.toInt zS /\ Int32.toInt zS <= 80) -> (0 <= Int32.toInt aAz /\ Int32.toInt aAz <= 80) -> (0 <= Int32.toInt aAm /\ Int32.toInt aAm <= 80) -> (-1 <= Int32.toInt zH /\ Int32.toInt zH <= 80) -> (0 <= Int32.toInt aAM /\ Int32.toInt aAM <= 0) -> (0 <= Int32.toInt zP /\ Int32.toInt zP <= 15) -> (0 <= Int32.toInt yO /\ Int32.toInt yO <= 7) -> (0 <= Int32.toInt zZ /\ Int32.toInt zZ <= 1) -> (0 <= Int32.toInt zO /\ Int32.toInt zO <= 63) -> post r xG aAP zS aAz aAm zH aAM zP yO zZ zO) : wp_X10_seconds post p0 p1 p2 bT aG bY jD mLn oF rP dQ bW bZ aR aE bI aW qG m_x gR pW nG oO pJ qO qQ := by
  have l0 := aI2
  have l1 := li_m2
  have l2 := aE0
  have l3 := aEc
  have l4 := li_18
  have l5 := li_2
  intro v1 ev1
  have f2 : Int32.toInt (bT - 1) = Int32.toInt bT - Int32.toInt (1 : Int32) := aCA _ _ (by omega)
  rw [<- ev1] at f2
  have f4 := aAT p0
  refine And.intro (fun c3 => ?_) (fun c3 => ?_)
  · skip
    have c3 := (aAd _ _).mp c3
    refine And.intro (aHE (by omega)) ?_
    refine And.intro (fun _ => ?_) (fun h9 => absurd h9 (by decide))
    exact hpost _ _ _ _ _ _ _ _ _ _ _ _ (by omega) (by omega) yM zE aAR aA1 aAA zT yL xQ yY yK
  · skip
    have c3 := mt (aAd _ _).mpr c3
    refine And.intro (fun c5 => ?_) (fun c5 => ?_)
    · skip
      have c5 := (aAd _ _).mp c5
      refine And.intro (aHE (by omega)) ?_
      refine And.intro (fun _ => ?_) (fun h9 => absurd h9 (by decide))
      exact hpost _ _ _ _ _ _ _ _ _ _ _ _ (by omega) (by omega) yM zE aAR aA1 aAA zT yL xQ yY yK
    · skip
      have c5 := mt (aAd _ _).mpr c5
      refine And.intro (aHE (by omega)) ?_
      refine And.intro (fun h9 => absurd h9 (by decide)) (fun _ => ?_)
      intro v6 ev6
      have f7 : Int32.toInt (aG - 1) = Int32.toInt aG - Int32.toInt (1 : Int32) := aCA _ _ (by omega)
      rw [<- ev6] at f7
      have f9 := aAT p1
      refine And.intro (fun c8 => ?_) (fun c8 => ?_)
      · skip
        have c8 := (aAd _ _).mp c8
        refine And.intro (aHE (by omega)) ?_
        refine And.intro (fun _ => ?_) (fun h9 => absurd h9 (by decide))
        exact hpost _ _ _ _ _ _ _ _ _ _ _ _ (by omega) (by omega) yM zE aAR aA1 aAA zT yL xQ yY yK
      · skip
        have c8 := mt (aAd _ _).mpr c8
        refine And.intro (fun c10 => ?_) (fun c10 => ?_)
        · skip
          have c10 := (aAd _ _).mp c10
          refine And.intro (aHE (by omega)) ?_
          refine And.intro (fun _ => ?_) (fun h9 => absurd h9 (by decide))
          exact hpost _ _ _ _ _ _ _ _ _ _ _ _ (by omega) (by omega) yM zE aAR aA1 aAA zT yL xQ yY yK
        · skip
          have c10 := mt (aAd _ _).mpr c10
          refine And.intro (aHE (by omega)) ?_
          refine And.intro (fun h9 => absurd h9 (by decide)) (fun _ => ?_)
          have f12 := aAT p2
          refine And.intro (fun c11 => ?_) (fun c11 => ?_)
          · skip
            have c11 := (aAd _ _).mp c11
            refine And.intro (fun h9 => absurd h9 (by decide)) (fun _ => ?_)
            exact hpost _ _ _ _ _ _ _ _ _ _ _ _ (by omega) (by omega) yM zE aAR aA1 aAA zT yL xQ yY yK
          · skip
            have c11 := mt (aAd _ _).mpr c11
            refine And.intro (fun c13 => ?_) (fun c13 => ?_)
            · skip
              have c13 := (aAd _ _).mp c13
              refine And.intro (fun h9 => absurd h9 (by decide)) (fun _ => ?_)
              exact hpost _ _ _ _ _ _ _ _ _ _ _ _ (by omega) (by omega) yM zE aAR aA1 aAA zT yL xQ yY yK
            · skip
              have c13 := mt (aAd _ _).mpr c13
              refine And.intro (fun _ => ?_) (fun h9 => absurd h9 (by decide))
              intro v14 ev14
              have hv14 := congrArg Int32.toInt ev14
              intro v16 ev16
              have hv16 := congrArg Int32.toInt ev16
              intro v18 ev18
              have hv18 := congrArg Int32.toInt ev18
              refine And.intro (aBZ (by omega)) ?_
              intro v20 ev20
              have f21 := aAW p0.toNatClampNeg
              have hv20 := congrArg Int32.toInt ev20
              refine And.intro (aBZ (by omega)) ?_
              intro v22 ev22
              have f24 := xT p1.toNatClampNeg
              have f23 : Int32.toInt (v20 - (nG p1.toNatClampNeg)) = Int32.toInt v20 - Int32.toInt (nG p1.toNatClampNeg) := aCA _ _ (by omega)
              rw [<- ev22] at f23
              intro v25 ev25
              have f26 := ti_abs v22 (by omega)
              have hv25 := congrArg Int32.toInt ev25
              refine And.intro (aBZ (by omega)) ?_
              intro v27 ev27
              have hv27 := congrArg Int32.toInt ev27
              refine And.intro (aBZ (by omega)) ?_
              intro v28 ev28
              have f29 : Int32.toInt (v27 - (nG p1.toNatClampNeg)) = Int32.toInt v27 - Int32.toInt (nG p1.toNatClampNeg) := aCA _ _ (by omega)
              rw [<- ev28] at f29
              intro v30 ev30
              have f31 := ti_abs v28 (by omega)
              have hv30 := congrArg Int32.toInt ev30
              intro v32 ev32
              have hv32 := congrArg Int32.toInt ev32
              refine And.intro (aBZ (by omega)) ?_
              intro v34 ev34
              have f35 := xK p0.toNatClampNeg
              have hv34 := congrArg Int32.toInt ev34
              refine And.intro (aBZ (by omega)) ?_
              intro v36 ev36
              have f38 := yF p1.toNatClampNeg
              have f37 : Int32.toInt (v34 - (oO p1.toNatClampNeg)) = Int32.toInt v34 - Int32.toInt (oO p1.toNatClampNeg) := aCA _ _ (by omega)
              rw [<- ev36] at f37
              intro v39 ev39
              have f40 := ti_max (0 : Int32) v36
              have hv39 := congrArg Int32.toInt ev39
              refine And.intro (aBZ (by omega)) ?_
              intro v41 ev41
              have hv41 := congrArg Int32.toInt ev41
              refine And.intro (aBZ (by omega)) ?_
              intro v42 ev42
              have f43 : Int32.toInt (v41 - (oO p1.toNatClampNeg)) = Int32.toInt v41 - Int32.toInt (oO p1.toNatClampNeg) := aCA _ _ (by omega)
              rw [<- ev42] at f43
              intro v44 ev44
              have f45 := ti_max (0 : Int32) v42
              have hv44 := congrArg Int32.toInt ev44
              intro v46 ev46
              have hv46 := congrArg Int32.toInt ev46
              have f49 := aAT v46
              refine And.intro (fun c48 => ?_) (fun c48 => ?_)
              · skip
                have c48 := (aAd _ _).mp c48
                refine And.intro (fun _ => ?_) (fun h9 => absurd h9 (by decide))
                exact hpost _ _ _ _ _ _ _ _ _ _ _ _ (by omega) (by omega) yM zE aAR aA1 aAA zT yL xQ yY yK
              · skip
                have c48 := mt (aAd _ _).mpr c48
                refine And.intro (fun h9 => absurd h9 (by decide)) (fun _ => ?_)
                refine t_X10_secondsOf (by omega) (by omega) (by omega) (by omega) yM zE aAR aA1 aAA zQ zT yL xQ yY yK aAW xK yR xT yF zG zI (fun r61 m_read_51 m_length_52 m_top_53 m_at_54 m_wrong_55 m_isAsked_56 m_askedFruit_57 m_askedStanding_58 m_askedHook_59 m_askedApron_60 h_r61 h_m_read_51 h_m_length_52 h_m_top_53 h_m_at_54 h_m_wrong_55 h_m_isAsked_56 h_m_askedFruit_57 h_m_askedStanding_58 h_m_askedHook_59 h_m_askedApron_60 => ?_)
                exact hpost _ _ _ _ _ _ _ _ _ _ _ _ (by omega) (by omega) h_m_read_51 h_m_length_52 h_m_top_53 h_m_at_54 h_m_wrong_55 h_m_isAsked_56 h_m_askedFruit_57 h_m_askedStanding_58 h_m_askedHook_59 h_m_askedApron_60
set_option maxHeartbeats 8000000 in
set_option maxRecDepth 200000 in
theorem ts_X10_handOf_31 {post : Int32 -> Prop} {K4 : Int32 -> Int32 -> Int32 -> Prop} {n4 : Int} (aG : Int32) (sH : Nat -> Int32) (vZ : 0 <= Int32.toInt aG /\ Int32.toInt aG <= 8) (zY : ∀ k : Nat, 0 <= Int32.toInt (sH k) /\ Int32.toInt (sH k) <= 65535) (hpost : ∀ (r : Int32) , (0 <= Int32.toInt r /\ Int32.toInt r <= 65535) -> post r) (hK4 : ∀ (x1 : Int32) (x2 : Int32) (x3 : Int32), (0 <= Int32.toInt x1 /\ Int32.toInt x1 <= 255) -> (0 <= Int32.toInt x2 /\ Int32.toInt x2 <= 65535) -> (0 <= Int32.toInt x3 /\ Int32.toInt x3 <= 8) -> (8 - Int32.toInt x3 < n4) -> K4 x1 x2 x3) (x1 x3 k0 k1 : Int32) (aBK : 0 <= Int32.toInt x1 /\ Int32.toInt x1 <= 255) (aCH : 0 <= Int32.toInt x3 /\ Int32.toInt x3 <= 7) (h_k0 : 0 <= Int32.toInt k0 /\ Int32.toInt k0 <= 65535) (h_k1 : 0 <= Int32.toInt k1 /\ Int32.toInt k1 <= 65535) (hn4 : 8 - Int32.toInt x3 <= n4) : ws_X10_handOf_31 post K4 aG sH x1 x3 k0 k1 := by
  have l0 := aEc
  intro v1 ev1
  have f2 := ti_or 16 65536 k0 k1 (by decide) (by omega) (by omega)
  have hv1 := congrArg Int32.toInt ev1
  intro v3 ev3
  have f4 : Int32.toInt (x3 + 1) = Int32.toInt x3 + Int32.toInt (1 : Int32) := aAD _ _ (by omega)
  rw [<- ev3] at f4
  exact hK4 x1 v1 v3 aBK (by omega) (by omega) (by omega)
set_option maxHeartbeats 8000000 in
set_option maxRecDepth 200000 in
theorem ts_X10_handOf_4 {post : Int32 -> Prop} {next : Int32 -> Int32 -> Int32 -> Prop} {n4 : Int} (aG : Int32) (sH : Nat -> Int32) (vZ : 0 <= Int32.toInt aG /\ Int32.toInt aG <= 8) (zY : ∀ k : Nat, 0 <= Int32.toInt (sH k) /\ Int32.toInt (sH k) <= 65535) (hpost : ∀ (r : Int32) , (0 <= Int32.toInt r /\ Int32.toInt r <= 65535) -> post r) (hKn : ∀ (x1 : Int32) (x2 : Int32) (x3 : Int32), (0 <= Int32.toInt x1 /\ Int32.toInt x1 <= 255) -> (0 <= Int32.toInt x2 /\ Int32.toInt x2 <= 65535) -> (0 <= Int32.toInt x3 /\ Int32.toInt x3 <= 8) -> (8 - Int32.toInt x3 < n4) -> next x1 x2 x3) (x1 x2 x3 : Int32) (aBK : 0 <= Int32.toInt x1 /\ Int32.toInt x1 <= 255) (aBN : 0 <= Int32.toInt x2 /\ Int32.toInt x2 <= 65535) (aCH : 0 <= Int32.toInt x3 /\ Int32.toInt x3 <= 8) (hn4 : 8 - Int32.toInt x3 <= n4) : ws_X10_handOf_4 post next aG sH x1 x2 x3 := by
  have l0 := aE0
  have l1 := aEc
  refine And.intro (fun c5 => ?_) (fun c5 => ?_)
  · skip
    have c5 := (aAO _ _).mp c5
    exact hpost _ aBN
  · skip
    have c5 := mt (aAO _ _).mpr c5
    intro v6 ev6
    have f7 := aRJ x1 x3 (by omega)
    have hv6 := congrArg Int32.toInt ev6
    intro v8 ev8
    have f9 := aAQ v6 1 (by omega)
    have f10 := aBx v6 1 (by omega)
    have hv8 := congrArg Int32.toInt ev8
    refine And.intro (fun c11 => ?_) (fun c11 => ?_)
    · skip
      have c11 := mt (zJ _ _).mpr c11
      refine And.intro (fun _ => ?_) (fun h9 => absurd h9 (by decide))
      exact ts_X10_handOf_31 aG sH vZ zY hpost hKn x1 x3 x2 0 aBK (by omega) aBN (by omega) hn4
    · skip
      have c11 := (zJ _ _).mp c11
      refine And.intro (fun h9 => absurd h9 (by decide)) (fun _ => ?_)
      refine And.intro (aBZ (by omega)) ?_
      intro v12 ev12
      have f13 := zY x3.toNatClampNeg
      have hv12 := congrArg Int32.toInt ev12
      exact ts_X10_handOf_31 aG sH vZ zY hpost hKn x1 x3 x2 v12 aBK (by omega) aBN (by omega) hn4
set_option maxHeartbeats 8000000 in
set_option maxRecDepth 200000 in
theorem tb_X10_handOf_4 {post : Int32 -> Prop} (aG : Int32) (sH : Nat -> Int32) (vZ : 0 <= Int32.toInt aG /\ Int32.toInt aG <= 8) (zY : ∀ k : Nat, 0 <= Int32.toInt (sH k) /\ Int32.toInt (sH k) <= 65535) (hpost : ∀ (r : Int32) , (0 <= Int32.toInt r /\ Int32.toInt r <= 65535) -> post r) : ∀ (n : Nat) (x1 x2 x3 : Int32), (0 <= Int32.toInt x1 /\ Int32.toInt x1 <= 255) -> (0 <= Int32.toInt x2 /\ Int32.toInt x2 <= 65535) -> (0 <= Int32.toInt x3 /\ Int32.toInt x3 <= 8) -> (8 - Int32.toInt x3 < (n : Int)) -> wb_X10_handOf_4 post aG sH n x1 x2 x3 := by
  intro n
  induction n with
  | zero =>
    intro x1 x2 x3 aBK aBN aCH hm
    exfalso; omega
  | succ n ih =>
    intro x1 x2 x3 aBK aBN aCH hm
    exact ts_X10_handOf_4 aG sH vZ zY hpost ih x1 x2 x3 aBK aBN aCH (by omega)
set_option maxHeartbeats 8000000 in
set_option maxRecDepth 200000 in
theorem aSL {post : Int32 -> Prop} {p0 aG : Int32} {sH : Nat -> Int32} (h_p0 : 0 <= Int32.toInt p0 /\ Int32.toInt p0 <= 255) (vZ : 0 <= Int32.toInt aG /\ Int32.toInt aG <= 8) (zY : ∀ k : Nat, 0 <= Int32.toInt (sH k) /\ Int32.toInt (sH k) <= 65535) (hpost : ∀ (r : Int32) , (0 <= Int32.toInt r /\ Int32.toInt r <= 65535) -> post r) : aRt post p0 aG sH := by
  have l0 := aE0
  exact ⟨10, tb_X10_handOf_4 aG sH vZ zY hpost _ p0 0 0 h_p0 (by omega) (by omega) (by omega)⟩
set_option maxHeartbeats 8000000 in
set_option maxRecDepth 200000 in
theorem ts_X10_layHands__2 {post : Int32 -> (Nat -> Int32) -> Prop} {SB : Int} {next : Int32 -> Int32 -> Int32 -> (Nat -> Int32) -> Prop} {n2 : Int} (bT aG : Int32) (qG m_x gR qR nG oO pJ : Nat -> Int32) (xJ : 0 <= Int32.toInt bT /\ Int32.toInt bT <= 16) (vZ : 0 <= Int32.toInt aG /\ Int32.toInt aG <= 8) (xU : ∀ k : Nat, k = 17 -> -1 <= Int32.toInt (qG k) /\ Int32.toInt (qG k) <= SB) (xV : ∀ k : Nat, k = 19 -> 0 <= Int32.toInt (qG k) /\ Int32.toInt (qG k) <= 9) (aAW : ∀ k : Nat, 0 <= Int32.toInt (m_x k) /\ Int32.toInt (m_x k) <= 99) (xK : ∀ k : Nat, 0 <= Int32.toInt (gR k) /\ Int32.toInt (gR k) <= 99) (zM : ∀ k : Nat, 0 <= Int32.toInt (qR k) /\ Int32.toInt (qR k) <= 9) (xT : ∀ k : Nat, 0 <= Int32.toInt (nG k) /\ Int32.toInt (nG k) <= 99) (yF : ∀ k : Nat, 0 <= Int32.toInt (oO k) /\ Int32.toInt (oO k) <= 99) (yD : ∀ k : Nat, k = 4 -> 1 <= Int32.toInt (pJ k) /\ Int32.toInt (pJ k) <= 30) (xZ : ∀ k : Nat, k = 3 -> 0 <= Int32.toInt (pJ k) /\ Int32.toInt (pJ k) <= 9) (hc0 : -1 <= SB /\ SB <= 7) (hc1 : (Int32.toInt aG <= 0 /\ SB = 0) \/ (1 <= Int32.toInt aG /\ SB = Int32.toInt aG - 1)) (hpost : ∀ (aAS : Int32) (aA5 : Nat -> Int32), (0 <= Int32.toInt aAS /\ Int32.toInt aAS <= 65535) -> (∀ k : Nat, 0 <= Int32.toInt (aA5 k) /\ Int32.toInt (aA5 k) <= 65535) -> post aAS aA5) (hKn : ∀ (x1 : Int32) (x2 : Int32) (dO : Int32) (sH : Nat -> Int32), (0 <= Int32.toInt x2 /\ Int32.toInt x2 <= 8) -> (0 <= Int32.toInt dO /\ Int32.toInt dO <= 65535) -> (∀ k : Nat, 0 <= Int32.toInt (sH k) /\ Int32.toInt (sH k) <= 65535) -> (8 - Int32.toInt x2 < n2) -> next x1 x2 dO sH) (x1 x2 dO : Int32) (sH : Nat -> Int32) (aBN : 0 <= Int32.toInt x2 /\ Int32.toInt x2 <= 8) (aAH : 0 <= Int32.toInt dO /\ Int32.toInt dO <= 65535) (zY : ∀ k : Nat, 0 <= Int32.toInt (sH k) /\ Int32.toInt (sH k) <= 65535) (hn2 : 8 - Int32.toInt x2 <= n2) : ws_X10_layHands__2 post next bT aG qG m_x gR qR nG oO pJ x1 x2 dO sH := by
  have l0 := aE0
  have l1 := aEc
  have l2 := li_19
  refine And.intro (fun c1 => ?_) (fun c1 => ?_)
  · skip
    have c1 := (aAO _ _).mp c1
    refine aKO (by omega) xJ xU xV (by omega) (fun r2 h_r2 ox3 => ?_)
    have q4 := xV (19 : Int32).toNatClampNeg (by have e9 : (19 : Int32).toNatClampNeg = (Int32.toInt (19 : Int32)).toNat := rfl; omega)
    intro v5 ev5
    have hv5 := congrArg Int32.toInt ev5
    refine aXh (by omega) xJ zM (fun r7 h_r7 ox8 => ?_)
    intro v9 ev9
    have f10 := aAQ r2 r7 (by omega)
    have f11 := aBx r2 r7 (by omega)
    have hv9 := congrArg Int32.toInt ev9
    intro v12 ev12
    have f13 := aDv 8 256 aG (by decide) (by omega)
    have hv12 := congrArg Int32.toInt ev12
    have f15 : Int32.toInt (v12 - 1) = Int32.toInt v12 - Int32.toInt (1 : Int32) := aCA _ _ (by omega)
    refine aSL (by omega) vZ zY (fun r14 h_r14 => ?_)
    intro v16 ev16
    have f17 := aAQ v9 r14 (by omega)
    have f18 := aBx v9 r14 (by omega)
    have hv16 := congrArg Int32.toInt ev16
    exact hpost _ _ (by omega) zY
  · skip
    have c1 := mt (aAO _ _).mpr c1
    refine aX7 (by omega) (by omega) xJ aAW xK xT yF yD xZ (fun r19 h_r19 => ?_)
    refine And.intro (aBZ (by omega)) ?_
    have a20 : ∀ k : Nat, 0 <= Int32.toInt ((upd sH x2.toNatClampNeg r19) k) /\ Int32.toInt ((upd sH x2.toNatClampNeg r19) k) <= 65535 := t_upd (fun k => by have q9 := zY k; omega) (by omega)
    intro v21 ev21
    have f22 : Int32.toInt (x2 + 1) = Int32.toInt x2 + Int32.toInt (1 : Int32) := aAD _ _ (by omega)
    rw [<- ev21] at f22
    have f23 := aAT x1
    exact hKn x1 v21 dO (upd sH x2.toNatClampNeg r19) (by omega) aAH (fun k => by have q9 := a20 k; omega) (by omega)
set_option maxHeartbeats 8000000 in
set_option maxRecDepth 200000 in
theorem tb_X10_layHands__2 {post : Int32 -> (Nat -> Int32) -> Prop} {SB : Int} (bT aG : Int32) (qG m_x gR qR nG oO pJ : Nat -> Int32) (xJ : 0 <= Int32.toInt bT /\ Int32.toInt bT <= 16) (vZ : 0 <= Int32.toInt aG /\ Int32.toInt aG <= 8) (xU : ∀ k : Nat, k = 17 -> -1 <= Int32.toInt (qG k) /\ Int32.toInt (qG k) <= SB) (xV : ∀ k : Nat, k = 19 -> 0 <= Int32.toInt (qG k) /\ Int32.toInt (qG k) <= 9) (aAW : ∀ k : Nat, 0 <= Int32.toInt (m_x k) /\ Int32.toInt (m_x k) <= 99) (xK : ∀ k : Nat, 0 <= Int32.toInt (gR k) /\ Int32.toInt (gR k) <= 99) (zM : ∀ k : Nat, 0 <= Int32.toInt (qR k) /\ Int32.toInt (qR k) <= 9) (xT : ∀ k : Nat, 0 <= Int32.toInt (nG k) /\ Int32.toInt (nG k) <= 99) (yF : ∀ k : Nat, 0 <= Int32.toInt (oO k) /\ Int32.toInt (oO k) <= 99) (yD : ∀ k : Nat, k = 4 -> 1 <= Int32.toInt (pJ k) /\ Int32.toInt (pJ k) <= 30) (xZ : ∀ k : Nat, k = 3 -> 0 <= Int32.toInt (pJ k) /\ Int32.toInt (pJ k) <= 9) (hc0 : -1 <= SB /\ SB <= 7) (hc1 : (Int32.toInt aG <= 0 /\ SB = 0) \/ (1 <= Int32.toInt aG /\ SB = Int32.toInt aG - 1)) (hpost : ∀ (aAS : Int32) (aA5 : Nat -> Int32), (0 <= Int32.toInt aAS /\ Int32.toInt aAS <= 65535) -> (∀ k : Nat, 0 <= Int32.toInt (aA5 k) /\ Int32.toInt (aA5 k) <= 65535) -> post aAS aA5) : ∀ (n : Nat) (x1 x2 dO : Int32) (sH : Nat -> Int32), (0 <= Int32.toInt x2 /\ Int32.toInt x2 <= 8) -> (0 <= Int32.toInt dO /\ Int32.toInt dO <= 65535) -> (∀ k : Nat, 0 <= Int32.toInt (sH k) /\ Int32.toInt (sH k) <= 65535) -> (8 - Int32.toInt x2 < (n : Int)) -> wb_X10_layHands__2 post bT aG qG m_x gR qR nG oO pJ n x1 x2 dO sH := by
  intro n
  induction n with
  | zero =>
    intro x1 x2 dO sH aBN aAH zY hm
    exfalso; omega
  | succ n ih =>
    intro x1 x2 dO sH aBN aAH zY hm
    exact ts_X10_layHands__2 bT aG qG m_x gR qR nG oO pJ xJ vZ xU xV aAW xK zM xT yF yD xZ hc0 hc1 hpost ih x1 x2 dO sH aBN aAH zY (by omega)
set_option maxHeartbeats 8000000 in
set_option maxRecDepth 200000 in
theorem aLb {post : Int32 -> (Nat -> Int32) -> Prop} {SB : Int} {p0 bT aG dO : Int32} {qG m_x gR qR nG oO pJ sH : Nat -> Int32} (xJ : 0 <= Int32.toInt bT /\ Int32.toInt bT <= 16) (vZ : 0 <= Int32.toInt aG /\ Int32.toInt aG <= 8) (aAH : 0 <= Int32.toInt dO /\ Int32.toInt dO <= 65535) (xU : ∀ k : Nat, k = 17 -> -1 <= Int32.toInt (qG k) /\ Int32.toInt (qG k) <= SB) (xV : ∀ k : Nat, k = 19 -> 0 <= Int32.toInt (qG k) /\ Int32.toInt (qG k) <= 9) (aAW : ∀ k : Nat, 0 <= Int32.toInt (m_x k) /\ Int32.toInt (m_x k) <= 99) (xK : ∀ k : Nat, 0 <= Int32.toInt (gR k) /\ Int32.toInt (gR k) <= 99) (zM : ∀ k : Nat, 0 <= Int32.toInt (qR k) /\ Int32.toInt (qR k) <= 9) (xT : ∀ k : Nat, 0 <= Int32.toInt (nG k) /\ Int32.toInt (nG k) <= 99) (yF : ∀ k : Nat, 0 <= Int32.toInt (oO k) /\ Int32.toInt (oO k) <= 99) (yD : ∀ k : Nat, k = 4 -> 1 <= Int32.toInt (pJ k) /\ Int32.toInt (pJ k) <= 30) (xZ : ∀ k : Nat, k = 3 -> 0 <= Int32.toInt (pJ k) /\ Int32.toInt (pJ k) <= 9) (zY : ∀ k : Nat, 0 <= Int32.toInt (sH k) /\ Int32.toInt (sH k) <= 65535) (hc0 : -1 <= SB /\ SB <= 7) (hc1 : (Int32.toInt aG <= 0 /\ SB = 0) \/ (1 <= Int32.toInt aG /\ SB = Int32.toInt aG - 1)) (hpost : ∀ (aAS : Int32) (aA5 : Nat -> Int32), (0 <= Int32.toInt aAS /\ Int32.toInt aAS <= 65535) -> (∀ k : Nat, 0 <= Int32.toInt (aA5 k) /\ Int32.toInt (aA5 k) <= 65535) -> post aAS aA5) : wp_X10_layHands_ post p0 bT aG dO qG m_x gR qR nG oO pJ sH := by
  have l0 := aE0
  have f24 := aAT p0
  exact ⟨10, tb_X10_layHands__2 bT aG qG m_x gR qR nG oO pJ xJ vZ xU xV aAW xK zM xT yF yD xZ hc0 hc1 hpost _ p0 0 dO sH (by omega) aAH zY (by omega)⟩
set_option maxHeartbeats 8000000 in
set_option maxRecDepth 200000 in
theorem t_X10_both {post : Int32 -> Int32 -> Int32 -> Int32 -> (Nat -> Int32) -> (Nat -> Int32) -> Prop} {SB : Int} {p0 p1 bT aG bL bY dO : Int32} {qG m_x gR qR nG oO pJ sW sH : Nat -> Int32} (xJ : 0 <= Int32.toInt bT /\ Int32.toInt bT <= 16) (vZ : 0 <= Int32.toInt aG /\ Int32.toInt aG <= 8) (yJ : 0 <= Int32.toInt bL /\ Int32.toInt bL <= 16) (yG : 0 <= Int32.toInt bY /\ Int32.toInt bY <= 1) (aAH : 0 <= Int32.toInt dO /\ Int32.toInt dO <= 65535) (xU : ∀ k : Nat, k = 17 -> -1 <= Int32.toInt (qG k) /\ Int32.toInt (qG k) <= SB) (xV : ∀ k : Nat, k = 19 -> 0 <= Int32.toInt (qG k) /\ Int32.toInt (qG k) <= 9) (aAW : ∀ k : Nat, 0 <= Int32.toInt (m_x k) /\ Int32.toInt (m_x k) <= 99) (xK : ∀ k : Nat, 0 <= Int32.toInt (gR k) /\ Int32.toInt (gR k) <= 99) (zM : ∀ k : Nat, 0 <= Int32.toInt (qR k) /\ Int32.toInt (qR k) <= 9) (xT : ∀ k : Nat, 0 <= Int32.toInt (nG k) /\ Int32.toInt (nG k) <= 99) (yF : ∀ k : Nat, 0 <= Int32.toInt (oO k) /\ Int32.toInt (oO k) <= 99) (yD : ∀ k : Nat, k = 4 -> 1 <= Int32.toInt (pJ k) /\ Int32.toInt (pJ k) <= 30) (xZ : ∀ k : Nat, k = 3 -> 0 <= Int32.toInt (pJ k) /\ Int32.toInt (pJ k) <= 9) (zY : ∀ k : Nat, 0 <= Int32.toInt (sH k) /\ Int32.toInt (sH k) <= 65535) (hc0 : -1 <= SB /\ SB <= 7) (hc1 : (Int32.toInt aG <= 0 /\ SB = 0) \/ (1 <= Int32.toInt aG /\ SB = Int32.toInt aG - 1)) (hpost : ∀ (r : Int32) (xM : Int32) (xG : Int32) (aAS : Int32) (aBX : Nat -> Int32) (aA5 : Nat -> Int32), (-1 <= Int32.toInt r /\ Int32.toInt r <= 65535) -> (0 <= Int32.toInt xM /\ Int32.toInt xM <= 16) -> (0 <= Int32.toInt xG /\ Int32.toInt xG <= 0) -> (0 <= Int32.toInt aAS /\ Int32.toInt aAS <= 65535) -> (∀ k : Nat, 0 <= Int32.toInt (aA5 k) /\ Int32.toInt (aA5 k) <= 65535) -> post r xM xG aAS aBX aA5) : wp_X10_both post p0 p1 bT aG bL bY dO qG m_x gR qR nG oO pJ sW sH := by
  have l0 := aI2
  have l1 := aE0
  have l2 := aEc
  have l3 := li_18
  intro v1 ev1
  have f2 : Int32.toInt (aG - 1) = Int32.toInt aG - Int32.toInt (1 : Int32) := aCA _ _ (by omega)
  rw [<- ev1] at f2
  have f4 := aAT p0
  refine And.intro (fun c3 => ?_) (fun c3 => ?_)
  · skip
    have c3 := (aAd _ _).mp c3
    refine And.intro (aHE (by omega)) ?_
    refine And.intro (fun _ => ?_) (fun h9 => absurd h9 (by decide))
    exact hpost _ _ _ _ _ _ (by omega) yJ (by omega) aAH zY
  · skip
    have c3 := mt (aAd _ _).mpr c3
    refine And.intro (fun c5 => ?_) (fun c5 => ?_)
    · skip
      have c5 := (aAd _ _).mp c5
      refine And.intro (aHE (by omega)) ?_
      refine And.intro (fun _ => ?_) (fun h9 => absurd h9 (by decide))
      exact hpost _ _ _ _ _ _ (by omega) yJ (by omega) aAH zY
    · skip
      have c5 := mt (aAd _ _).mpr c5
      refine And.intro (aHE (by omega)) ?_
      refine And.intro (fun h9 => absurd h9 (by decide)) (fun _ => ?_)
      intro v6 ev6
      have hv6 := congrArg Int32.toInt (ev6.trans ev1.symm)
      have f8 := aAT p1
      refine And.intro (fun c7 => ?_) (fun c7 => ?_)
      · skip
        have c7 := (aAd _ _).mp c7
        refine And.intro (aHE (by omega)) ?_
        refine And.intro (fun _ => ?_) (fun h9 => absurd h9 (by decide))
        exact hpost _ _ _ _ _ _ (by omega) yJ (by omega) aAH zY
      · skip
        have c7 := mt (aAd _ _).mpr c7
        refine And.intro (fun c9 => ?_) (fun c9 => ?_)
        · skip
          have c9 := (aAd _ _).mp c9
          refine And.intro (aHE (by omega)) ?_
          refine And.intro (fun _ => ?_) (fun h9 => absurd h9 (by decide))
          exact hpost _ _ _ _ _ _ (by omega) yJ (by omega) aAH zY
        · skip
          have c9 := mt (aAd _ _).mpr c9
          refine And.intro (aHE (by omega)) ?_
          refine And.intro (fun h9 => absurd h9 (by decide)) (fun _ => ?_)
          refine And.intro (fun c10 => ?_) (fun c10 => ?_)
          · skip
            have c10 := mt (zJ _ _).mpr c10
            intro v11 ev11
            have hv11 := congrArg Int32.toInt ev11
            refine aLb xJ vZ aAH xU xV aAW xK zM xT yF yD xZ zY (by omega) (by omega) (fun m_wanted_13 m_hand_14 h_m_wanted_13 h_m_hand_14 => ?_)
            refine And.intro (aBZ (by omega)) ?_
            intro v15 ev15
            have f17 := h_m_hand_14 p0.toNatClampNeg
            have f16 := aAQ m_wanted_13 (m_hand_14 p0.toNatClampNeg) (by omega)
            have f18 := aBx m_wanted_13 (m_hand_14 p0.toNatClampNeg) (by omega)
            have hv15 := congrArg Int32.toInt ev15
            refine And.intro (aBZ (by omega)) ?_
            intro v19 ev19
            have f20 := h_m_hand_14 p1.toNatClampNeg
            have hv19 := congrArg Int32.toInt ev19
            intro v21 ev21
            have f23 := aBx v15 (v19 ^^^ (-1)) (by omega)
            have hv21 := congrArg Int32.toInt ev21
            refine And.intro (aBZ (by omega)) ?_
            intro v24 ev24
            have f25 : Int32.toInt (0 + 1) = Int32.toInt (0 : Int32) + Int32.toInt (1 : Int32) := aAD _ _ (by omega)
            rw [<- ev24] at f25
            refine And.intro (aBZ (by omega)) ?_
            intro v26 ev26
            have f27 := aAQ m_wanted_13 (m_hand_14 p1.toNatClampNeg) (by omega)
            have f28 := aBx m_wanted_13 (m_hand_14 p1.toNatClampNeg) (by omega)
            have hv26 := congrArg Int32.toInt ev26
            refine And.intro (aBZ (by omega)) ?_
            intro v29 ev29
            have hv29 := congrArg Int32.toInt ev29
            intro v30 ev30
            have f32 := aBx v26 (v29 ^^^ (-1)) (by omega)
            have hv30 := congrArg Int32.toInt ev30
            refine And.intro (aBZ (by omega)) ?_
            intro v33 ev33
            have f34 : Int32.toInt (v24 + 1) = Int32.toInt v24 + Int32.toInt (1 : Int32) := aAD _ _ (by omega)
            rw [<- ev33] at f34
            refine And.intro (aBZ (by omega)) ?_
            intro v35 ev35
            have hv35 := congrArg Int32.toInt ev35
            refine And.intro (aBZ (by omega)) ?_
            have f36 := aAQ v35 (m_hand_14 p1.toNatClampNeg) (by omega)
            have f37 := aBx v35 (m_hand_14 p1.toNatClampNeg) (by omega)
            exact hpost _ _ _ _ _ _ (by omega) (by omega) (by omega) h_m_wanted_13 h_m_hand_14
          · skip
            have c10 := (zJ _ _).mp c10
            exact hpost _ _ _ _ _ _ (by omega) yJ (by omega) aAH zY
set_option maxHeartbeats 8000000 in
set_option maxRecDepth 200000 in
theorem ts_X10_leanOf_2 {post : Int32 -> Prop} {next : Int32 -> Int32 -> Int32 -> Prop} {n2 : Int} (m_x gR nG oO pJ : Nat -> Int32) (aAW : ∀ k : Nat, 0 <= Int32.toInt (m_x k) /\ Int32.toInt (m_x k) <= 99) (xK : ∀ k : Nat, 0 <= Int32.toInt (gR k) /\ Int32.toInt (gR k) <= 99) (xT : ∀ k : Nat, 0 <= Int32.toInt (nG k) /\ Int32.toInt (nG k) <= 99) (yF : ∀ k : Nat, 0 <= Int32.toInt (oO k) /\ Int32.toInt (oO k) <= 99) (yD : ∀ k : Nat, k = 4 -> 1 <= Int32.toInt (pJ k) /\ Int32.toInt (pJ k) <= 30) (xZ : ∀ k : Nat, k = 3 -> 0 <= Int32.toInt (pJ k) /\ Int32.toInt (pJ k) <= 9) (hpost : ∀ (r : Int32) , (0 <= Int32.toInt r /\ Int32.toInt r <= 31) -> post r) (hKn : ∀ (x1 : Int32) (x2 : Int32) (x3 : Int32), (0 <= Int32.toInt x1 /\ Int32.toInt x1 <= 15) -> (0 <= Int32.toInt x2 /\ Int32.toInt x2 <= 7) -> (0 <= Int32.toInt x3 /\ Int32.toInt x3 <= 31) -> (31 - Int32.toInt x3 < n2) -> next x1 x2 x3) (x1 x2 x3 : Int32) (aBK : 0 <= Int32.toInt x1 /\ Int32.toInt x1 <= 15) (aBN : 0 <= Int32.toInt x2 /\ Int32.toInt x2 <= 7) (aCH : 0 <= Int32.toInt x3 /\ Int32.toInt x3 <= 31) (hn2 : 31 - Int32.toInt x3 <= n2) : ws_X10_leanOf_2 post next m_x gR nG oO pJ x1 x2 x3 := by
  have l0 := aE0
  have l1 := aEc
  have l2 := li_30
  refine And.intro (fun c1 => ?_) (fun c1 => ?_)
  · skip
    have c1 := (aAd _ _).mp c1
    exact hpost _ aCH
  · skip
    have c1 := mt (aAd _ _).mpr c1
    intro v2 ev2
    have hv2 := congrArg Int32.toInt ev2
    intro v4 ev4
    have hv4 := congrArg Int32.toInt ev4
    refine And.intro (aBZ (by omega)) ?_
    intro v6 ev6
    have f7 := aAW x1.toNatClampNeg
    have hv6 := congrArg Int32.toInt ev6
    refine And.intro (aBZ (by omega)) ?_
    intro v8 ev8
    have f10 := xT x2.toNatClampNeg
    have f9 : Int32.toInt (v6 - (nG x2.toNatClampNeg)) = Int32.toInt v6 - Int32.toInt (nG x2.toNatClampNeg) := aCA _ _ (by omega)
    rw [<- ev8] at f9
    intro v11 ev11
    have f12 := ti_abs v8 (by omega)
    have hv11 := congrArg Int32.toInt ev11
    refine And.intro (aBZ (by omega)) ?_
    intro v13 ev13
    have hv13 := congrArg Int32.toInt ev13
    refine And.intro (aBZ (by omega)) ?_
    intro v14 ev14
    have f15 : Int32.toInt (v13 - (nG x2.toNatClampNeg)) = Int32.toInt v13 - Int32.toInt (nG x2.toNatClampNeg) := aCA _ _ (by omega)
    rw [<- ev14] at f15
    intro v16 ev16
    have f17 := ti_abs v14 (by omega)
    have hv16 := congrArg Int32.toInt ev16
    intro v18 ev18
    have hv18 := congrArg Int32.toInt ev18
    refine And.intro (aBZ (by omega)) ?_
    intro v20 ev20
    have f21 := xK x1.toNatClampNeg
    have hv20 := congrArg Int32.toInt ev20
    refine And.intro (aBZ (by omega)) ?_
    intro v22 ev22
    have f24 := yF x2.toNatClampNeg
    have f23 : Int32.toInt (v20 - (oO x2.toNatClampNeg)) = Int32.toInt v20 - Int32.toInt (oO x2.toNatClampNeg) := aCA _ _ (by omega)
    rw [<- ev22] at f23
    intro v25 ev25
    have f26 := ti_max (0 : Int32) v22
    have hv25 := congrArg Int32.toInt ev25
    refine And.intro (aBZ (by omega)) ?_
    intro v27 ev27
    have hv27 := congrArg Int32.toInt ev27
    refine And.intro (aBZ (by omega)) ?_
    intro v28 ev28
    have f29 : Int32.toInt (v27 - (oO x2.toNatClampNeg)) = Int32.toInt v27 - Int32.toInt (oO x2.toNatClampNeg) := aCA _ _ (by omega)
    rw [<- ev28] at f29
    intro v30 ev30
    have f31 := ti_max (0 : Int32) v28
    have hv30 := congrArg Int32.toInt ev30
    intro v32 ev32
    have hv32 := congrArg Int32.toInt ev32
    have f35 := aAT v32
    refine And.intro (fun c34 => ?_) (fun c34 => ?_)
    · skip
      have c34 := (aAd _ _).mp c34
      refine And.intro (fun h9 => absurd h9 (by decide)) (fun _ => ?_)
      intro v37 ev37
      have f38 : Int32.toInt (x3 + 1) = Int32.toInt x3 + Int32.toInt (1 : Int32) := aAD _ _ (by omega)
      rw [<- ev37] at f38
      exact hKn x1 x2 v37 aBK aBN (by omega) (by omega)
    · skip
      have c34 := mt (aAd _ _).mpr c34
      refine And.intro (fun _ => ?_) (fun h9 => absurd h9 (by decide))
      exact hpost _ aCH
set_option maxHeartbeats 8000000 in
set_option maxRecDepth 200000 in
theorem tb_X10_leanOf_2 {post : Int32 -> Prop} (m_x gR nG oO pJ : Nat -> Int32) (aAW : ∀ k : Nat, 0 <= Int32.toInt (m_x k) /\ Int32.toInt (m_x k) <= 99) (xK : ∀ k : Nat, 0 <= Int32.toInt (gR k) /\ Int32.toInt (gR k) <= 99) (xT : ∀ k : Nat, 0 <= Int32.toInt (nG k) /\ Int32.toInt (nG k) <= 99) (yF : ∀ k : Nat, 0 <= Int32.toInt (oO k) /\ Int32.toInt (oO k) <= 99) (yD : ∀ k : Nat, k = 4 -> 1 <= Int32.toInt (pJ k) /\ Int32.toInt (pJ k) <= 30) (xZ : ∀ k : Nat, k = 3 -> 0 <= Int32.toInt (pJ k) /\ Int32.toInt (pJ k) <= 9) (hpost : ∀ (r : Int32) , (0 <= Int32.toInt r /\ Int32.toInt r <= 31) -> post r) : ∀ (n : Nat) (x1 x2 x3 : Int32), (0 <= Int32.toInt x1 /\ Int32.toInt x1 <= 15) -> (0 <= Int32.toInt x2 /\ Int32.toInt x2 <= 7) -> (0 <= Int32.toInt x3 /\ Int32.toInt x3 <= 31) -> (31 - Int32.toInt x3 < (n : Int)) -> wb_X10_leanOf_2 post m_x gR nG oO pJ n x1 x2 x3 := by
  intro n
  induction n with
  | zero =>
    intro x1 x2 x3 aBK aBN aCH hm
    exfalso; omega
  | succ n ih =>
    intro x1 x2 x3 aBK aBN aCH hm
    exact ts_X10_leanOf_2 m_x gR nG oO pJ aAW xK xT yF yD xZ hpost ih x1 x2 x3 aBK aBN aCH (by omega)
set_option maxHeartbeats 8000000 in
set_option maxRecDepth 200000 in
theorem t_X10_leanOf {post : Int32 -> Prop} {p0 p1 : Int32} {m_x gR nG oO pJ : Nat -> Int32} (h_p0 : 0 <= Int32.toInt p0 /\ Int32.toInt p0 <= 15) (h_p1 : 0 <= Int32.toInt p1 /\ Int32.toInt p1 <= 7) (aAW : ∀ k : Nat, 0 <= Int32.toInt (m_x k) /\ Int32.toInt (m_x k) <= 99) (xK : ∀ k : Nat, 0 <= Int32.toInt (gR k) /\ Int32.toInt (gR k) <= 99) (xT : ∀ k : Nat, 0 <= Int32.toInt (nG k) /\ Int32.toInt (nG k) <= 99) (yF : ∀ k : Nat, 0 <= Int32.toInt (oO k) /\ Int32.toInt (oO k) <= 99) (yD : ∀ k : Nat, k = 4 -> 1 <= Int32.toInt (pJ k) /\ Int32.toInt (pJ k) <= 30) (xZ : ∀ k : Nat, k = 3 -> 0 <= Int32.toInt (pJ k) /\ Int32.toInt (pJ k) <= 9) (hpost : ∀ (r : Int32) , (0 <= Int32.toInt r /\ Int32.toInt r <= 31) -> post r) : aUA post p0 p1 m_x gR nG oO pJ := by
  have l0 := aE0
  exact ⟨33, tb_X10_leanOf_2 m_x gR nG oO pJ aAW xK xT yF yD xZ hpost _ p0 p1 0 h_p0 h_p1 (by omega) (by omega)⟩
set_option maxHeartbeats 8000000 in
set_option maxRecDepth 200000 in
theorem ts_X10_nearest_60 {post : Int32 -> Int32 -> Int32 -> (Nat -> Int32) -> Prop} {K20 : Int32 -> Int32 -> Int32 -> Int32 -> Int32 -> (Nat -> Int32) -> Prop} {n20 : Int} (bT aG : Int32) (m_x gR nG oO pJ : Nat -> Int32) (xJ : 0 <= Int32.toInt bT /\ Int32.toInt bT <= 16) (vZ : 0 <= Int32.toInt aG /\ Int32.toInt aG <= 8) (aAW : ∀ k : Nat, 0 <= Int32.toInt (m_x k) /\ Int32.toInt (m_x k) <= 99) (xK : ∀ k : Nat, 0 <= Int32.toInt (gR k) /\ Int32.toInt (gR k) <= 99) (xT : ∀ k : Nat, 0 <= Int32.toInt (nG k) /\ Int32.toInt (nG k) <= 99) (yF : ∀ k : Nat, 0 <= Int32.toInt (oO k) /\ Int32.toInt (oO k) <= 99) (yD : ∀ k : Nat, k = 4 -> 1 <= Int32.toInt (pJ k) /\ Int32.toInt (pJ k) <= 30) (xZ : ∀ k : Nat, k = 3 -> 0 <= Int32.toInt (pJ k) /\ Int32.toInt (pJ k) <= 9) (hpost : ∀ (r : Int32) (xM : Int32) (xG : Int32) (aBX : Nat -> Int32), (-2 <= Int32.toInt r /\ Int32.toInt r <= 7) -> (0 <= Int32.toInt xM /\ Int32.toInt xM <= 16) -> (0 <= Int32.toInt xG /\ Int32.toInt xG <= 0) -> post r xM xG aBX) (hK20 : ∀ (x1 : Int32) (x2 : Int32) (x3 : Int32) (bL : Int32) (bY : Int32) (sW : Nat -> Int32), (0 <= Int32.toInt x1 /\ Int32.toInt x1 <= 15) -> (-2 <= Int32.toInt x2 /\ Int32.toInt x2 <= 7) -> (0 <= Int32.toInt x3 /\ Int32.toInt x3 <= 8) -> (0 <= Int32.toInt bL /\ Int32.toInt bL <= 16) -> (0 <= Int32.toInt bY /\ Int32.toInt bY <= 0) -> (8 - Int32.toInt x3 < n20) -> K20 x1 x2 x3 bL bY sW) (x1 x2 x3 bL bY : Int32) (sW : Nat -> Int32) (aBK : 0 <= Int32.toInt x1 /\ Int32.toInt x1 <= 15) (aBN : -2 <= Int32.toInt x2 /\ Int32.toInt x2 <= 7) (aCH : 0 <= Int32.toInt x3 /\ Int32.toInt x3 <= 7) (yJ : 0 <= Int32.toInt bL /\ Int32.toInt bL <= 16) (yG : 0 <= Int32.toInt bY /\ Int32.toInt bY <= 0) (hn20 : 8 - Int32.toInt x3 <= n20) : aYH post K20 bT aG m_x gR nG oO pJ x1 x2 x3 bL bY sW := by
  have l0 := aEc
  intro v1 ev1
  have f2 : Int32.toInt (x3 + 1) = Int32.toInt x3 + Int32.toInt (1 : Int32) := aAD _ _ (by omega)
  rw [<- ev1] at f2
  exact hK20 x1 x2 v1 bL bY sW aBK aBN (by omega) yJ yG (by omega)
set_option maxHeartbeats 8000000 in
set_option maxRecDepth 200000 in
theorem ts_X10_nearest_58 {post : Int32 -> Int32 -> Int32 -> (Nat -> Int32) -> Prop} {K20 : Int32 -> Int32 -> Int32 -> Int32 -> Int32 -> (Nat -> Int32) -> Prop} {n20 : Int} (bT aG : Int32) (m_x gR nG oO pJ : Nat -> Int32) (xJ : 0 <= Int32.toInt bT /\ Int32.toInt bT <= 16) (vZ : 0 <= Int32.toInt aG /\ Int32.toInt aG <= 8) (aAW : ∀ k : Nat, 0 <= Int32.toInt (m_x k) /\ Int32.toInt (m_x k) <= 99) (xK : ∀ k : Nat, 0 <= Int32.toInt (gR k) /\ Int32.toInt (gR k) <= 99) (xT : ∀ k : Nat, 0 <= Int32.toInt (nG k) /\ Int32.toInt (nG k) <= 99) (yF : ∀ k : Nat, 0 <= Int32.toInt (oO k) /\ Int32.toInt (oO k) <= 99) (yD : ∀ k : Nat, k = 4 -> 1 <= Int32.toInt (pJ k) /\ Int32.toInt (pJ k) <= 30) (xZ : ∀ k : Nat, k = 3 -> 0 <= Int32.toInt (pJ k) /\ Int32.toInt (pJ k) <= 9) (hpost : ∀ (r : Int32) (xM : Int32) (xG : Int32) (aBX : Nat -> Int32), (-2 <= Int32.toInt r /\ Int32.toInt r <= 7) -> (0 <= Int32.toInt xM /\ Int32.toInt xM <= 16) -> (0 <= Int32.toInt xG /\ Int32.toInt xG <= 0) -> post r xM xG aBX) (hK20 : ∀ (x1 : Int32) (x2 : Int32) (x3 : Int32) (bL : Int32) (bY : Int32) (sW : Nat -> Int32), (0 <= Int32.toInt x1 /\ Int32.toInt x1 <= 15) -> (-2 <= Int32.toInt x2 /\ Int32.toInt x2 <= 7) -> (0 <= Int32.toInt x3 /\ Int32.toInt x3 <= 8) -> (0 <= Int32.toInt bL /\ Int32.toInt bL <= 16) -> (0 <= Int32.toInt bY /\ Int32.toInt bY <= 0) -> (8 - Int32.toInt x3 < n20) -> K20 x1 x2 x3 bL bY sW) (x1 x3 bL bY : Int32) (sW : Nat -> Int32) (aBK : 0 <= Int32.toInt x1 /\ Int32.toInt x1 <= 15) (aCH : 0 <= Int32.toInt x3 /\ Int32.toInt x3 <= 7) (yJ : 0 <= Int32.toInt bL /\ Int32.toInt bL <= 16) (yG : 0 <= Int32.toInt bY /\ Int32.toInt bY <= 0) (hn20 : 8 - Int32.toInt x3 <= n20) : ws_X10_nearest_58 post K20 bT aG m_x gR nG oO pJ x1 x3 bL bY sW := by
  exact ts_X10_nearest_60 bT aG m_x gR nG oO pJ xJ vZ aAW xK xT yF yD xZ hpost hK20 x1 x3 x3 bL bY sW aBK (by omega) aCH yJ yG hn20
set_option maxHeartbeats 8000000 in
set_option maxRecDepth 200000 in
theorem ts_X10_nearest_20 {post : Int32 -> Int32 -> Int32 -> (Nat -> Int32) -> Prop} {next : Int32 -> Int32 -> Int32 -> Int32 -> Int32 -> (Nat -> Int32) -> Prop} {n20 : Int} (bT aG : Int32) (m_x gR nG oO pJ : Nat -> Int32) (xJ : 0 <= Int32.toInt bT /\ Int32.toInt bT <= 16) (vZ : 0 <= Int32.toInt aG /\ Int32.toInt aG <= 8) (aAW : ∀ k : Nat, 0 <= Int32.toInt (m_x k) /\ Int32.toInt (m_x k) <= 99) (xK : ∀ k : Nat, 0 <= Int32.toInt (gR k) /\ Int32.toInt (gR k) <= 99) (xT : ∀ k : Nat, 0 <= Int32.toInt (nG k) /\ Int32.toInt (nG k) <= 99) (yF : ∀ k : Nat, 0 <= Int32.toInt (oO k) /\ Int32.toInt (oO k) <= 99) (yD : ∀ k : Nat, k = 4 -> 1 <= Int32.toInt (pJ k) /\ Int32.toInt (pJ k) <= 30) (xZ : ∀ k : Nat, k = 3 -> 0 <= Int32.toInt (pJ k) /\ Int32.toInt (pJ k) <= 9) (hpost : ∀ (r : Int32) (xM : Int32) (xG : Int32) (aBX : Nat -> Int32), (-2 <= Int32.toInt r /\ Int32.toInt r <= 7) -> (0 <= Int32.toInt xM /\ Int32.toInt xM <= 16) -> (0 <= Int32.toInt xG /\ Int32.toInt xG <= 0) -> post r xM xG aBX) (hKn : ∀ (x1 : Int32) (x2 : Int32) (x3 : Int32) (bL : Int32) (bY : Int32) (sW : Nat -> Int32), (0 <= Int32.toInt x1 /\ Int32.toInt x1 <= 15) -> (-2 <= Int32.toInt x2 /\ Int32.toInt x2 <= 7) -> (0 <= Int32.toInt x3 /\ Int32.toInt x3 <= 8) -> (0 <= Int32.toInt bL /\ Int32.toInt bL <= 16) -> (0 <= Int32.toInt bY /\ Int32.toInt bY <= 0) -> (8 - Int32.toInt x3 < n20) -> next x1 x2 x3 bL bY sW) (x1 x2 x3 bL bY : Int32) (sW : Nat -> Int32) (aBK : 0 <= Int32.toInt x1 /\ Int32.toInt x1 <= 15) (aBN : -2 <= Int32.toInt x2 /\ Int32.toInt x2 <= 7) (aCH : 0 <= Int32.toInt x3 /\ Int32.toInt x3 <= 8) (yJ : 0 <= Int32.toInt bL /\ Int32.toInt bL <= 16) (yG : 0 <= Int32.toInt bY /\ Int32.toInt bY <= 0) (hn20 : 8 - Int32.toInt x3 <= n20) : ws_X10_nearest_20 post next bT aG m_x gR nG oO pJ x1 x2 x3 bL bY sW := by
  have l0 := li_m2
  have l1 := aE0
  have l2 := aEc
  have l3 := li_30
  refine And.intro (fun c3 => ?_) (fun c3 => ?_)
  · skip
    have c3 := (aAO _ _).mp c3
    refine And.intro (fun c4 => ?_) (fun c4 => ?_)
    · skip
      have c4 := (aAO _ _).mp c4
      refine t_X10_leanOf aBK (by omega) aAW xK xT yF yD xZ (fun r5 h_r5 => ?_)
      refine And.intro (aBZ (by omega)) ?_
      intro v6 ev6
      have f7 : Int32.toInt (0 + 1) = Int32.toInt (0 : Int32) + Int32.toInt (1 : Int32) := aAD _ _ (by omega)
      rw [<- ev6] at f7
      exact hpost _ _ _ _ aBN (by omega) yG
    · skip
      have c4 := mt (aAO _ _).mpr c4
      exact hpost _ _ _ _ (by omega) yJ yG
  · skip
    have c3 := mt (aAO _ _).mpr c3
    refine t_X10_leanOf aBK (by omega) aAW xK xT yF yD xZ (fun r8 h_r8 => ?_)
    refine And.intro (fun c9 => ?_) (fun c9 => ?_)
    · skip
      have c9 := (aAd _ _).mp c9
      exact ts_X10_nearest_60 bT aG m_x gR nG oO pJ xJ vZ aAW xK xT yF yD xZ hpost hKn x1 x2 x3 bL bY sW aBK aBN (by omega) yJ yG hn20
    · skip
      have c9 := mt (aAd _ _).mpr c9
      refine And.intro (fun c10 => ?_) (fun c10 => ?_)
      · skip
        have c10 := (aAd _ _).mp c10
        exact ts_X10_nearest_58 bT aG m_x gR nG oO pJ xJ vZ aAW xK xT yF yD xZ hpost hKn x1 x3 bL bY sW aBK (by omega) yJ yG hn20
      · skip
        have c10 := mt (aAd _ _).mpr c10
        refine t_X10_leanOf aBK (by omega) aAW xK xT yF yD xZ (fun r11 h_r11 => ?_)
        refine t_X10_leanOf aBK (by omega) aAW xK xT yF yD xZ (fun r12 h_r12 => ?_)
        refine And.intro (fun c13 => ?_) (fun c13 => ?_)
        · skip
          have c13 := (aAO _ _).mp c13
          exact ts_X10_nearest_60 bT aG m_x gR nG oO pJ xJ vZ aAW xK xT yF yD xZ hpost hKn x1 x2 x3 bL bY sW aBK aBN (by omega) yJ yG hn20
        · skip
          have c13 := mt (aAO _ _).mpr c13
          exact ts_X10_nearest_58 bT aG m_x gR nG oO pJ xJ vZ aAW xK xT yF yD xZ hpost hKn x1 x3 bL bY sW aBK (by omega) yJ yG hn20
set_option maxHeartbeats 8000000 in
set_option maxRecDepth 200000 in
theorem tb_X10_nearest_20 {post : Int32 -> Int32 -> Int32 -> (Nat -> Int32) -> Prop} (bT aG : Int32) (m_x gR nG oO pJ : Nat -> Int32) (xJ : 0 <= Int32.toInt bT /\ Int32.toInt bT <= 16) (vZ : 0 <= Int32.toInt aG /\ Int32.toInt aG <= 8) (aAW : ∀ k : Nat, 0 <= Int32.toInt (m_x k) /\ Int32.toInt (m_x k) <= 99) (xK : ∀ k : Nat, 0 <= Int32.toInt (gR k) /\ Int32.toInt (gR k) <= 99) (xT : ∀ k : Nat, 0 <= Int32.toInt (nG k) /\ Int32.toInt (nG k) <= 99) (yF : ∀ k : Nat, 0 <= Int32.toInt (oO k) /\ Int32.toInt (oO k) <= 99) (yD : ∀ k : Nat, k = 4 -> 1 <= Int32.toInt (pJ k) /\ Int32.toInt (pJ k) <= 30) (xZ : ∀ k : Nat, k = 3 -> 0 <= Int32.toInt (pJ k) /\ Int32.toInt (pJ k) <= 9) (hpost : ∀ (r : Int32) (xM : Int32) (xG : Int32) (aBX : Nat -> Int32), (-2 <= Int32.toInt r /\ Int32.toInt r <= 7) -> (0 <= Int32.toInt xM /\ Int32.toInt xM <= 16) -> (0 <= Int32.toInt xG /\ Int32.toInt xG <= 0) -> post r xM xG aBX) : ∀ (n : Nat) (x1 x2 x3 bL bY : Int32) (sW : Nat -> Int32), (0 <= Int32.toInt x1 /\ Int32.toInt x1 <= 15) -> (-2 <= Int32.toInt x2 /\ Int32.toInt x2 <= 7) -> (0 <= Int32.toInt x3 /\ Int32.toInt x3 <= 8) -> (0 <= Int32.toInt bL /\ Int32.toInt bL <= 16) -> (0 <= Int32.toInt bY /\ Int32.toInt bY <= 0) -> (8 - Int32.toInt x3 < (n : Int)) -> wb_X10_nearest_20 post bT aG m_x gR nG oO pJ n x1 x2 x3 bL bY sW := by
  intro n
  induction n with
  | zero =>
    intro x1 x2 x3 bL bY sW aBK aBN aCH yJ yG hm
    exfalso; omega
  | succ n ih =>
    intro x1 x2 x3 bL bY sW aBK aBN aCH yJ yG hm
    exact ts_X10_nearest_20 bT aG m_x gR nG oO pJ xJ vZ aAW xK xT yF yD xZ hpost ih x1 x2 x3 bL bY sW aBK aBN aCH yJ yG (by omega)
set_option maxHeartbeats 8000000 in
set_option maxRecDepth 200000 in
theorem t_X10_nearest {post : Int32 -> Int32 -> Int32 -> (Nat -> Int32) -> Prop} {p0 bT aG bL bY : Int32} {m_x gR nG oO pJ sW : Nat -> Int32} (xJ : 0 <= Int32.toInt bT /\ Int32.toInt bT <= 16) (vZ : 0 <= Int32.toInt aG /\ Int32.toInt aG <= 8) (yJ : 0 <= Int32.toInt bL /\ Int32.toInt bL <= 16) (yG : 0 <= Int32.toInt bY /\ Int32.toInt bY <= 1) (aAW : ∀ k : Nat, 0 <= Int32.toInt (m_x k) /\ Int32.toInt (m_x k) <= 99) (xK : ∀ k : Nat, 0 <= Int32.toInt (gR k) /\ Int32.toInt (gR k) <= 99) (xT : ∀ k : Nat, 0 <= Int32.toInt (nG k) /\ Int32.toInt (nG k) <= 99) (yF : ∀ k : Nat, 0 <= Int32.toInt (oO k) /\ Int32.toInt (oO k) <= 99) (yD : ∀ k : Nat, k = 4 -> 1 <= Int32.toInt (pJ k) /\ Int32.toInt (pJ k) <= 30) (xZ : ∀ k : Nat, k = 3 -> 0 <= Int32.toInt (pJ k) /\ Int32.toInt (pJ k) <= 9) (hpost : ∀ (r : Int32) (xM : Int32) (xG : Int32) (aBX : Nat -> Int32), (-2 <= Int32.toInt r /\ Int32.toInt r <= 7) -> (0 <= Int32.toInt xM /\ Int32.toInt xM <= 16) -> (0 <= Int32.toInt xG /\ Int32.toInt xG <= 0) -> post r xM xG aBX) : wp_X10_nearest post p0 bT aG bL bY m_x gR nG oO pJ sW := by
  have l0 := aI2
  have l1 := li_m2
  have l2 := aE0
  have l3 := aEc
  intro v14 ev14
  have f15 : Int32.toInt (bT - 1) = Int32.toInt bT - Int32.toInt (1 : Int32) := aCA _ _ (by omega)
  rw [<- ev14] at f15
  have f17 := aAT p0
  refine And.intro (fun c16 => ?_) (fun c16 => ?_)
  · skip
    have c16 := (aAd _ _).mp c16
    refine And.intro (aHE (by omega)) ?_
    refine And.intro (fun h9 => absurd h9 (by decide)) (fun _ => ?_)
    exact hpost _ _ _ _ (by omega) yJ (by omega)
  · skip
    have c16 := mt (aAd _ _).mpr c16
    refine And.intro (fun c18 => ?_) (fun c18 => ?_)
    · skip
      have c18 := (aAd _ _).mp c18
      refine And.intro (aHE (by omega)) ?_
      refine And.intro (fun h9 => absurd h9 (by decide)) (fun _ => ?_)
      exact hpost _ _ _ _ (by omega) yJ (by omega)
    · skip
      have c18 := mt (aAd _ _).mpr c18
      refine And.intro (aHE (by omega)) ?_
      refine And.intro (fun _ => ?_) (fun h9 => absurd h9 (by decide))
      exact ⟨10, tb_X10_nearest_20 bT aG m_x gR nG oO pJ xJ vZ aAW xK xT yF yD xZ hpost _ p0 (-2) 0 bL 0 sW (by omega) (by omega) (by omega) yJ (by omega) (by omega)⟩
theorem t_J6_numberOfTrailingZeros_0f7a4 {post : Int32 -> Prop} {p0 : Int32} (hpost : ∀ (r : Int32) , ((1 <= Int32.toInt p0 /\ Int32.toInt p0 <= 65535) -> (0 <= Int32.toInt r /\ Int32.toInt r <= 15)) -> post r) : aOk post p0 := by
  exact f_ntz hpost
set_option maxHeartbeats 8000000 in
set_option maxRecDepth 200000 in
theorem ts_X10_cover_67 {post : Int32 -> Prop} {K4 : Int32 -> Int32 -> Int32 -> Prop} {n4 : Int} (aG : Int32) (sH : Nat -> Int32) (vZ : 0 <= Int32.toInt aG /\ Int32.toInt aG <= 8) (zY : ∀ k : Nat, 0 <= Int32.toInt (sH k) /\ Int32.toInt (sH k) <= 65535) (hpost : ∀ (r : Int32) , (-1 <= Int32.toInt r /\ Int32.toInt r <= 255) -> post r) (hK4 : ∀ (x1 : Int32) (x2 : Int32) (x3 : Int32), (0 <= Int32.toInt x1 /\ Int32.toInt x1 <= 65535) -> (-1 <= Int32.toInt x2 /\ Int32.toInt x2 <= 255) -> (0 <= Int32.toInt x3 /\ Int32.toInt x3 <= 256) -> (256 - Int32.toInt x3 < n4) -> K4 x1 x2 x3) (x1 x2 x3 : Int32) (aBK : 0 <= Int32.toInt x1 /\ Int32.toInt x1 <= 65535) (aBN : -1 <= Int32.toInt x2 /\ Int32.toInt x2 <= 255) (aCH : 0 <= Int32.toInt x3 /\ Int32.toInt x3 <= 255) (hn4 : 256 - Int32.toInt x3 <= n4) : ws_X10_cover_67 post K4 aG sH x1 x2 x3 := by
  have l0 := aEc
  intro v1 ev1
  have f2 : Int32.toInt (x3 + 1) = Int32.toInt x3 + Int32.toInt (1 : Int32) := aAD _ _ (by omega)
  rw [<- ev1] at f2
  exact hK4 x1 x2 v1 aBK aBN (by omega) (by omega)
set_option maxHeartbeats 8000000 in
set_option maxRecDepth 200000 in
theorem ts_X10_cover_65 {post : Int32 -> Prop} {K4 : Int32 -> Int32 -> Int32 -> Prop} {n4 : Int} (aG : Int32) (sH : Nat -> Int32) (vZ : 0 <= Int32.toInt aG /\ Int32.toInt aG <= 8) (zY : ∀ k : Nat, 0 <= Int32.toInt (sH k) /\ Int32.toInt (sH k) <= 65535) (hpost : ∀ (r : Int32) , (-1 <= Int32.toInt r /\ Int32.toInt r <= 255) -> post r) (hK4 : ∀ (x1 : Int32) (x2 : Int32) (x3 : Int32), (0 <= Int32.toInt x1 /\ Int32.toInt x1 <= 65535) -> (-1 <= Int32.toInt x2 /\ Int32.toInt x2 <= 255) -> (0 <= Int32.toInt x3 /\ Int32.toInt x3 <= 256) -> (256 - Int32.toInt x3 < n4) -> K4 x1 x2 x3) (x1 x3 : Int32) (aBK : 0 <= Int32.toInt x1 /\ Int32.toInt x1 <= 65535) (aCH : 0 <= Int32.toInt x3 /\ Int32.toInt x3 <= 255) (hn4 : 256 - Int32.toInt x3 <= n4) : ws_X10_cover_65 post K4 aG sH x1 x3 := by
  exact ts_X10_cover_67 aG sH vZ zY hpost hK4 x1 x3 x3 aBK (by omega) aCH hn4
set_option maxHeartbeats 8000000 in
set_option maxRecDepth 200000 in
theorem ts_X10_cover_45 {post : Int32 -> Prop} {K4 : Int32 -> Int32 -> Int32 -> Prop} {n4 : Int} (aG : Int32) (sH : Nat -> Int32) (vZ : 0 <= Int32.toInt aG /\ Int32.toInt aG <= 8) (zY : ∀ k : Nat, 0 <= Int32.toInt (sH k) /\ Int32.toInt (sH k) <= 65535) (hpost : ∀ (r : Int32) , (-1 <= Int32.toInt r /\ Int32.toInt r <= 255) -> post r) (hK4 : ∀ (x1 : Int32) (x2 : Int32) (x3 : Int32), (0 <= Int32.toInt x1 /\ Int32.toInt x1 <= 65535) -> (-1 <= Int32.toInt x2 /\ Int32.toInt x2 <= 255) -> (0 <= Int32.toInt x3 /\ Int32.toInt x3 <= 256) -> (256 - Int32.toInt x3 < n4) -> K4 x1 x2 x3) (x1 x2 x3 k0 : Int32) (aBK : 0 <= Int32.toInt x1 /\ Int32.toInt x1 <= 65535) (aBN : -1 <= Int32.toInt x2 /\ Int32.toInt x2 <= 255) (aCH : 0 <= Int32.toInt x3 /\ Int32.toInt x3 <= 255) (h_k0 : -63 <= Int32.toInt k0 /\ Int32.toInt k0 <= 63) (hn4 : 256 - Int32.toInt x3 <= n4) : ws_X10_cover_45 post K4 aG sH x1 x2 x3 k0 := by
  have l0 := aE0
  have l1 := aEc
  refine And.intro (fun c3 => ?_) (fun c3 => ?_)
  · skip
    have c3 := (aAd _ _).mp c3
    exact ts_X10_cover_65 aG sH vZ zY hpost hK4 x1 x3 aBK aCH hn4
  · skip
    have c3 := mt (aAd _ _).mpr c3
    refine And.intro (fun c4 => ?_) (fun c4 => ?_)
    · skip
      have c4 := mt (zJ _ _).mpr c4
      exact ts_X10_cover_67 aG sH vZ zY hpost hK4 x1 x2 x3 aBK aBN aCH hn4
    · skip
      have c4 := (zJ _ _).mp c4
      intro v5 ev5
      refine t_J6_numberOfTrailingZeros_0f7a4  (fun r6 ox7 => ?_)
      intro v8 ev8
      have f9 := aRJ x3 r6 (by omega)
      have hv8 := congrArg Int32.toInt ev8
      intro v10 ev10
      have f11 := aAQ v8 1 (by omega)
      have f12 := aBx v8 1 (by omega)
      have hv10 := congrArg Int32.toInt ev10
      refine And.intro (fun c13 => ?_) (fun c13 => ?_)
      · skip
        have c13 := mt (zJ _ _).mpr c13
        refine And.intro (aHE (by omega)) ?_
        refine And.intro (fun _ => ?_) (fun h9 => absurd h9 (by decide))
        exact ts_X10_cover_67 aG sH vZ zY hpost hK4 x1 x2 x3 aBK aBN aCH hn4
      · skip
        have c13 := (zJ _ _).mp c13
        refine And.intro (aHE (by omega)) ?_
        refine And.intro (fun h9 => absurd h9 (by decide)) (fun _ => ?_)
        exact ts_X10_cover_65 aG sH vZ zY hpost hK4 x1 x3 aBK aCH hn4
set_option maxHeartbeats 8000000 in
set_option maxRecDepth 200000 in
theorem ts_X10_cover_4 {post : Int32 -> Prop} {next : Int32 -> Int32 -> Int32 -> Prop} {n4 : Int} (aG : Int32) (sH : Nat -> Int32) (vZ : 0 <= Int32.toInt aG /\ Int32.toInt aG <= 8) (zY : ∀ k : Nat, 0 <= Int32.toInt (sH k) /\ Int32.toInt (sH k) <= 65535) (hpost : ∀ (r : Int32) , (-1 <= Int32.toInt r /\ Int32.toInt r <= 255) -> post r) (hKn : ∀ (x1 : Int32) (x2 : Int32) (x3 : Int32), (0 <= Int32.toInt x1 /\ Int32.toInt x1 <= 65535) -> (-1 <= Int32.toInt x2 /\ Int32.toInt x2 <= 255) -> (0 <= Int32.toInt x3 /\ Int32.toInt x3 <= 256) -> (256 - Int32.toInt x3 < n4) -> next x1 x2 x3) (x1 x2 x3 : Int32) (aBK : 0 <= Int32.toInt x1 /\ Int32.toInt x1 <= 65535) (aBN : -1 <= Int32.toInt x2 /\ Int32.toInt x2 <= 255) (aCH : 0 <= Int32.toInt x3 /\ Int32.toInt x3 <= 256) (hn4 : 256 - Int32.toInt x3 <= n4) : ws_X10_cover_4 post next aG sH x1 x2 x3 := by
  have l0 := aI2
  have l1 := aE0
  have l2 := aEc
  have l3 := aKH
  have l4 := aJ8
  have l5 := li_63
  have l6 := aJ9
  intro v14 ev14
  have f15 := aDv 8 256 aG (by decide) (by omega)
  have hv14 := congrArg Int32.toInt ev14
  have f17 : Int32.toInt (v14 - 1) = Int32.toInt v14 - Int32.toInt (1 : Int32) := aCA _ _ (by omega)
  refine And.intro (fun c16 => ?_) (fun c16 => ?_)
  · skip
    have c16 := (aAd _ _).mp c16
    exact hpost _ aBN
  · skip
    have c16 := mt (aAd _ _).mpr c16
    refine aSL (by omega) vZ zY (fun r18 h_r18 => ?_)
    have f21 := aBx x1 (r18 ^^^ (-1)) (by omega)
    refine And.intro (fun c19 => ?_) (fun c19 => ?_)
    · skip
      have c19Z := c19
      have c19 := (zJ _ _).mp c19
      have s22 := ti_subset x1 r18 (c19Z) (by omega)
      refine And.intro (fun c23 => ?_) (fun c23 => ?_)
      · skip
        have c23 := mt (zJ _ _).mpr c23
        intro v24 ev24
        intro v25 ev25
        have f27 := aAQ v24 1431655765 (by omega)
        have f26 : Int32.toInt (x3 - (v24 &&& 1431655765)) = Int32.toInt x3 - Int32.toInt (v24 &&& 1431655765) := aCA _ _ (by omega)
        rw [<- ev25] at f26
        intro v28 ev28
        have f29 := aAQ v25 858993459 (by omega)
        have hv28 := congrArg Int32.toInt ev28
        intro v30 ev30
        intro v31 ev31
        have f33 := aAQ v30 858993459 (by omega)
        have f32 : Int32.toInt (v28 + (v30 &&& 858993459)) = Int32.toInt v28 + Int32.toInt (v30 &&& 858993459) := aAD _ _ (by omega)
        rw [<- ev31] at f32
        intro v34 ev34
        have hv34 := congrArg Int32.toInt ev34
        intro v36 ev36
        have f37 := aAQ v34 252645135 (by omega)
        have hv36 := congrArg Int32.toInt ev36
        intro v38 ev38
        have hv38 := congrArg Int32.toInt ev38
        intro v40 ev40
        have hv40 := congrArg Int32.toInt ev40
        intro v42 ev42
        intro v43 ev43
        have f45 := aAQ v42 1431655765 (by omega)
        have f44 : Int32.toInt (x2 - (v42 &&& 1431655765)) = Int32.toInt x2 - Int32.toInt (v42 &&& 1431655765) := aCA _ _ (by omega)
        rw [<- ev43] at f44
        intro v46 ev46
        have f47 := aAQ v43 858993459 (by omega)
        have hv46 := congrArg Int32.toInt ev46
        intro v48 ev48
        intro v49 ev49
        have f51 := aAQ v48 858993459 (by omega)
        have f50 : Int32.toInt (v46 + (v48 &&& 858993459)) = Int32.toInt v46 + Int32.toInt (v48 &&& 858993459) := aAD _ _ (by omega)
        rw [<- ev49] at f50
        intro v52 ev52
        have hv52 := congrArg Int32.toInt ev52
        intro v54 ev54
        have f55 := aAQ v52 252645135 (by omega)
        have hv54 := congrArg Int32.toInt ev54
        intro v56 ev56
        have hv56 := congrArg Int32.toInt ev56
        intro v58 ev58
        have hv58 := congrArg Int32.toInt ev58
        intro v60 ev60
        have f62 := aAQ v40 63 (by omega)
        have f63 := aAQ v58 63 (by omega)
        have f61 : Int32.toInt ((v40 &&& 63) - (v58 &&& 63)) = Int32.toInt (v40 &&& 63) - Int32.toInt (v58 &&& 63) := aCA _ _ (by omega)
        rw [<- ev60] at f61
        exact ts_X10_cover_45 aG sH vZ zY hpost hKn x1 x2 x3 v60 aBK aBN (by omega) (by omega) hn4
      · skip
        have c23 := (zJ _ _).mp c23
        exact ts_X10_cover_45 aG sH vZ zY hpost hKn x1 x2 x3 (-1) aBK aBN (by omega) (by omega) hn4
    · skip
      have c19 := mt (zJ _ _).mpr c19
      exact ts_X10_cover_67 aG sH vZ zY hpost hKn x1 x2 x3 aBK aBN (by omega) hn4
set_option maxHeartbeats 8000000 in
set_option maxRecDepth 200000 in
theorem tb_X10_cover_4 {post : Int32 -> Prop} (aG : Int32) (sH : Nat -> Int32) (vZ : 0 <= Int32.toInt aG /\ Int32.toInt aG <= 8) (zY : ∀ k : Nat, 0 <= Int32.toInt (sH k) /\ Int32.toInt (sH k) <= 65535) (hpost : ∀ (r : Int32) , (-1 <= Int32.toInt r /\ Int32.toInt r <= 255) -> post r) : ∀ (n : Nat) (x1 x2 x3 : Int32), (0 <= Int32.toInt x1 /\ Int32.toInt x1 <= 65535) -> (-1 <= Int32.toInt x2 /\ Int32.toInt x2 <= 255) -> (0 <= Int32.toInt x3 /\ Int32.toInt x3 <= 256) -> (256 - Int32.toInt x3 < (n : Int)) -> wb_X10_cover_4 post aG sH n x1 x2 x3 := by
  intro n
  induction n with
  | zero =>
    intro x1 x2 x3 aBK aBN aCH hm
    exfalso; omega
  | succ n ih =>
    intro x1 x2 x3 aBK aBN aCH hm
    exact ts_X10_cover_4 aG sH vZ zY hpost ih x1 x2 x3 aBK aBN aCH (by omega)
set_option maxHeartbeats 8000000 in
set_option maxRecDepth 200000 in
theorem t_X10_cover {post : Int32 -> Prop} {p0 aG : Int32} {sH : Nat -> Int32} (h_p0 : 0 <= Int32.toInt p0 /\ Int32.toInt p0 <= 65535) (vZ : 0 <= Int32.toInt aG /\ Int32.toInt aG <= 8) (zY : ∀ k : Nat, 0 <= Int32.toInt (sH k) /\ Int32.toInt (sH k) <= 65535) (hpost : ∀ (r : Int32) , (-1 <= Int32.toInt r /\ Int32.toInt r <= 255) -> post r) : wp_X10_cover post p0 aG sH := by
  have l0 := aI2
  have l1 := aE0
  exact ⟨258, tb_X10_cover_4 aG sH vZ zY hpost _ p0 (-1) 0 h_p0 (by omega) (by omega) (by omega)⟩
set_option maxHeartbeats 8000000 in
set_option maxRecDepth 200000 in
theorem ts_X10_tellCover_34 {post : Int32 -> Int32 -> (Nat -> Int32) -> Prop} {K13 : Int32 -> Int32 -> Int32 -> (Nat -> Int32) -> Prop} {n13 : Int} (aG : Int32) (sH : Nat -> Int32) (vZ : 0 <= Int32.toInt aG /\ Int32.toInt aG <= 8) (zY : ∀ k : Nat, 0 <= Int32.toInt (sH k) /\ Int32.toInt (sH k) <= 65535) (hpost : ∀ (r : Int32) (xM : Int32) (aBX : Nat -> Int32), (0 <= Int32.toInt r /\ Int32.toInt r <= 63) -> (0 <= Int32.toInt xM /\ Int32.toInt xM <= 16) -> post r xM aBX) (hK13 : ∀ (x2 : Int32) (x3 : Int32) (bL : Int32) (sW : Nat -> Int32), (-1 <= Int32.toInt x2 /\ Int32.toInt x2 <= 255) -> (0 <= Int32.toInt x3 /\ Int32.toInt x3 <= 8) -> (0 <= Int32.toInt bL /\ Int32.toInt bL <= 16) -> (Int32.toInt bL <= Int32.toInt x3) -> (8 - Int32.toInt x3 < n13) -> K13 x2 x3 bL sW) (x2 x3 bL : Int32) (sW : Nat -> Int32) (aBN : -1 <= Int32.toInt x2 /\ Int32.toInt x2 <= 255) (aCH : 0 <= Int32.toInt x3 /\ Int32.toInt x3 <= 7) (yJ : 0 <= Int32.toInt bL /\ Int32.toInt bL <= 16) (hx0 : Int32.toInt bL <= Int32.toInt x3 + 1) (hn13 : 8 - Int32.toInt x3 <= n13) : ws_X10_tellCover_34 post K13 aG sH x2 x3 bL sW := by
  have l0 := aEc
  intro v1 ev1
  have f2 : Int32.toInt (x3 + 1) = Int32.toInt x3 + Int32.toInt (1 : Int32) := aAD _ _ (by omega)
  rw [<- ev1] at f2
  exact hK13 x2 v1 bL sW aBN (by omega) yJ (by omega) (by omega)
set_option maxHeartbeats 8000000 in
set_option maxRecDepth 200000 in
theorem ts_X10_tellCover_13 {post : Int32 -> Int32 -> (Nat -> Int32) -> Prop} {next : Int32 -> Int32 -> Int32 -> (Nat -> Int32) -> Prop} {n13 : Int} (aG : Int32) (sH : Nat -> Int32) (vZ : 0 <= Int32.toInt aG /\ Int32.toInt aG <= 8) (zY : ∀ k : Nat, 0 <= Int32.toInt (sH k) /\ Int32.toInt (sH k) <= 65535) (hpost : ∀ (r : Int32) (xM : Int32) (aBX : Nat -> Int32), (0 <= Int32.toInt r /\ Int32.toInt r <= 63) -> (0 <= Int32.toInt xM /\ Int32.toInt xM <= 16) -> post r xM aBX) (hKn : ∀ (x2 : Int32) (x3 : Int32) (bL : Int32) (sW : Nat -> Int32), (-1 <= Int32.toInt x2 /\ Int32.toInt x2 <= 255) -> (0 <= Int32.toInt x3 /\ Int32.toInt x3 <= 8) -> (0 <= Int32.toInt bL /\ Int32.toInt bL <= 16) -> (Int32.toInt bL <= Int32.toInt x3) -> (8 - Int32.toInt x3 < n13) -> next x2 x3 bL sW) (x2 x3 bL : Int32) (sW : Nat -> Int32) (aBN : -1 <= Int32.toInt x2 /\ Int32.toInt x2 <= 255) (aCH : 0 <= Int32.toInt x3 /\ Int32.toInt x3 <= 8) (yJ : 0 <= Int32.toInt bL /\ Int32.toInt bL <= 16) (hx0 : Int32.toInt bL <= Int32.toInt x3) (hn13 : 8 - Int32.toInt x3 <= n13) : ws_X10_tellCover_13 post next aG sH x2 x3 bL sW := by
  have l0 := aEc
  have l1 := aKH
  have l2 := aJ8
  have l3 := li_63
  have l4 := aJ9
  refine And.intro (fun c3 => ?_) (fun c3 => ?_)
  · skip
    have c3 := (aAO _ _).mp c3
    intro v4 ev4
    intro v5 ev5
    have f7 := aAQ v4 1431655765 (by omega)
    have f6 : Int32.toInt (x2 - (v4 &&& 1431655765)) = Int32.toInt x2 - Int32.toInt (v4 &&& 1431655765) := aCA _ _ (by omega)
    rw [<- ev5] at f6
    intro v8 ev8
    have f9 := aAQ v5 858993459 (by omega)
    have hv8 := congrArg Int32.toInt ev8
    intro v10 ev10
    intro v11 ev11
    have f13 := aAQ v10 858993459 (by omega)
    have f12 : Int32.toInt (v8 + (v10 &&& 858993459)) = Int32.toInt v8 + Int32.toInt (v10 &&& 858993459) := aAD _ _ (by omega)
    rw [<- ev11] at f12
    intro v14 ev14
    have hv14 := congrArg Int32.toInt ev14
    intro v16 ev16
    have f17 := aAQ v14 252645135 (by omega)
    have hv16 := congrArg Int32.toInt ev16
    intro v18 ev18
    have hv18 := congrArg Int32.toInt ev18
    intro v20 ev20
    have hv20 := congrArg Int32.toInt ev20
    have f22 := aAQ v20 63 (by omega)
    exact hpost _ _ _ (by omega) yJ
  · skip
    have c3 := mt (aAO _ _).mpr c3
    intro v23 ev23
    intro v24 ev24
    have f25 := aAQ v23 1 (by omega)
    have hv24 := congrArg Int32.toInt ev24
    refine And.intro (fun c26 => ?_) (fun c26 => ?_)
    · skip
      have c26 := mt (zJ _ _).mpr c26
      refine And.intro (fun _ => ?_) (fun h9 => absurd h9 (by decide))
      exact ts_X10_tellCover_34 aG sH vZ zY hpost hKn x2 x3 bL sW aBN (by omega) yJ (by omega) hn13
    · skip
      have c26 := (zJ _ _).mp c26
      refine And.intro (fun h9 => absurd h9 (by decide)) (fun _ => ?_)
      refine And.intro (aBZ (by omega)) ?_
      intro v27 ev27
      have f28 : Int32.toInt (bL + 1) = Int32.toInt bL + Int32.toInt (1 : Int32) := aAD _ _ (by omega)
      rw [<- ev27] at f28
      exact ts_X10_tellCover_34 aG sH vZ zY hpost hKn x2 x3 v27 (upd sW bL.toNatClampNeg x3) aBN (by omega) (by omega) (by omega) hn13
set_option maxHeartbeats 8000000 in
set_option maxRecDepth 200000 in
theorem tb_X10_tellCover_13 {post : Int32 -> Int32 -> (Nat -> Int32) -> Prop} (aG : Int32) (sH : Nat -> Int32) (vZ : 0 <= Int32.toInt aG /\ Int32.toInt aG <= 8) (zY : ∀ k : Nat, 0 <= Int32.toInt (sH k) /\ Int32.toInt (sH k) <= 65535) (hpost : ∀ (r : Int32) (xM : Int32) (aBX : Nat -> Int32), (0 <= Int32.toInt r /\ Int32.toInt r <= 63) -> (0 <= Int32.toInt xM /\ Int32.toInt xM <= 16) -> post r xM aBX) : ∀ (n : Nat) (x2 x3 bL : Int32) (sW : Nat -> Int32), (-1 <= Int32.toInt x2 /\ Int32.toInt x2 <= 255) -> (0 <= Int32.toInt x3 /\ Int32.toInt x3 <= 8) -> (0 <= Int32.toInt bL /\ Int32.toInt bL <= 16) -> (Int32.toInt bL <= Int32.toInt x3) -> (8 - Int32.toInt x3 < (n : Int)) -> wb_X10_tellCover_13 post aG sH n x2 x3 bL sW := by
  intro n
  induction n with
  | zero =>
    intro x2 x3 bL sW aBN aCH yJ hx0 hm
    exfalso; omega
  | succ n ih =>
    intro x2 x3 bL sW aBN aCH yJ hx0 hm
    exact ts_X10_tellCover_13 aG sH vZ zY hpost ih x2 x3 bL sW aBN aCH yJ hx0 (by omega)
set_option maxHeartbeats 8000000 in
set_option maxRecDepth 200000 in
theorem t_X10_tellCover {post : Int32 -> Int32 -> (Nat -> Int32) -> Prop} {p0 aG bL : Int32} {sW sH : Nat -> Int32} (h_p0 : 0 <= Int32.toInt p0 /\ Int32.toInt p0 <= 65535) (vZ : 0 <= Int32.toInt aG /\ Int32.toInt aG <= 8) (yJ : 0 <= Int32.toInt bL /\ Int32.toInt bL <= 16) (zY : ∀ k : Nat, 0 <= Int32.toInt (sH k) /\ Int32.toInt (sH k) <= 65535) (hpost : ∀ (r : Int32) (xM : Int32) (aBX : Nat -> Int32), (0 <= Int32.toInt r /\ Int32.toInt r <= 63) -> (0 <= Int32.toInt xM /\ Int32.toInt xM <= 16) -> post r xM aBX) : wp_X10_tellCover post p0 aG bL sW sH := by
  have l0 := aE0
  refine t_X10_cover h_p0 vZ zY (fun r29 h_r29 => ?_)
  exact ⟨10, tb_X10_tellCover_13 aG sH vZ zY hpost _ r29 0 0 sW h_r29 (by omega) (by omega) (by omega) (by omega)⟩
set_option maxHeartbeats 8000000 in
set_option maxRecDepth 200000 in
theorem t_X10_fewest {post : Int32 -> Int32 -> Int32 -> Int32 -> (Nat -> Int32) -> (Nat -> Int32) -> Prop} {SB : Int} {bT aG bL bY dO : Int32} {qG m_x gR qR nG oO pJ sW sH : Nat -> Int32} (xJ : 0 <= Int32.toInt bT /\ Int32.toInt bT <= 16) (vZ : 0 <= Int32.toInt aG /\ Int32.toInt aG <= 8) (yJ : 0 <= Int32.toInt bL /\ Int32.toInt bL <= 16) (yG : 0 <= Int32.toInt bY /\ Int32.toInt bY <= 1) (aAH : 0 <= Int32.toInt dO /\ Int32.toInt dO <= 65535) (xU : ∀ k : Nat, k = 17 -> -1 <= Int32.toInt (qG k) /\ Int32.toInt (qG k) <= SB) (xV : ∀ k : Nat, k = 19 -> 0 <= Int32.toInt (qG k) /\ Int32.toInt (qG k) <= 9) (aAW : ∀ k : Nat, 0 <= Int32.toInt (m_x k) /\ Int32.toInt (m_x k) <= 99) (xK : ∀ k : Nat, 0 <= Int32.toInt (gR k) /\ Int32.toInt (gR k) <= 99) (zM : ∀ k : Nat, 0 <= Int32.toInt (qR k) /\ Int32.toInt (qR k) <= 9) (xT : ∀ k : Nat, 0 <= Int32.toInt (nG k) /\ Int32.toInt (nG k) <= 99) (yF : ∀ k : Nat, 0 <= Int32.toInt (oO k) /\ Int32.toInt (oO k) <= 99) (yD : ∀ k : Nat, k = 4 -> 1 <= Int32.toInt (pJ k) /\ Int32.toInt (pJ k) <= 30) (xZ : ∀ k : Nat, k = 3 -> 0 <= Int32.toInt (pJ k) /\ Int32.toInt (pJ k) <= 9) (zY : ∀ k : Nat, 0 <= Int32.toInt (sH k) /\ Int32.toInt (sH k) <= 65535) (hc0 : -1 <= SB /\ SB <= 7) (hc1 : (Int32.toInt aG <= 0 /\ SB = 0) \/ (1 <= Int32.toInt aG /\ SB = Int32.toInt aG - 1)) (hpost : ∀ (r : Int32) (xM : Int32) (xG : Int32) (aAS : Int32) (aBX : Nat -> Int32) (aA5 : Nat -> Int32), (0 <= Int32.toInt r /\ Int32.toInt r <= 63) -> (0 <= Int32.toInt xM /\ Int32.toInt xM <= 16) -> (0 <= Int32.toInt xG /\ Int32.toInt xG <= 0) -> (0 <= Int32.toInt aAS /\ Int32.toInt aAS <= 65535) -> (∀ k : Nat, 0 <= Int32.toInt (aA5 k) /\ Int32.toInt (aA5 k) <= 65535) -> post r xM xG aAS aBX aA5) : wp_X10_fewest post bT aG bL bY dO qG m_x gR qR nG oO pJ sW sH := by
  have l0 := aE0
  have l1 := li_18
  intro v1 ev1
  have hv1 := congrArg Int32.toInt ev1
  refine aLb xJ vZ aAH xU xV aAW xK zM xT yF yD xZ zY (by omega) (by omega) (fun aC5 aF5 h_m_wanted_3 h_m_hand_4 => ?_)
  refine t_X10_tellCover h_m_wanted_3 vZ yJ h_m_hand_4 (fun r7 aSZ m_row_6 h_r7 h_m_rowMany_5 => ?_)
  exact hpost _ _ _ _ _ _ h_r7 h_m_rowMany_5 (by omega) h_m_wanted_3 h_m_hand_4
set_option maxHeartbeats 8000000 in
set_option maxRecDepth 200000 in
theorem ts_X10_needed_105 {post : Int32 -> Int32 -> Int32 -> Int32 -> (Nat -> Int32) -> (Nat -> Int32) -> Prop} {SB : Int} {K15 : Int32 -> Int32 -> Int32 -> Int32 -> Int32 -> Int32 -> (Nat -> Int32) -> (Nat -> Int32) -> Prop} {n15 : Int} (bT aG : Int32) (qG m_x gR qR nG oO pJ : Nat -> Int32) (xJ : 0 <= Int32.toInt bT /\ Int32.toInt bT <= 16) (vZ : 0 <= Int32.toInt aG /\ Int32.toInt aG <= 8) (xU : ∀ k : Nat, k = 17 -> -1 <= Int32.toInt (qG k) /\ Int32.toInt (qG k) <= SB) (xV : ∀ k : Nat, k = 19 -> 0 <= Int32.toInt (qG k) /\ Int32.toInt (qG k) <= 9) (aAW : ∀ k : Nat, 0 <= Int32.toInt (m_x k) /\ Int32.toInt (m_x k) <= 99) (xK : ∀ k : Nat, 0 <= Int32.toInt (gR k) /\ Int32.toInt (gR k) <= 99) (zM : ∀ k : Nat, 0 <= Int32.toInt (qR k) /\ Int32.toInt (qR k) <= 9) (xT : ∀ k : Nat, 0 <= Int32.toInt (nG k) /\ Int32.toInt (nG k) <= 99) (yF : ∀ k : Nat, 0 <= Int32.toInt (oO k) /\ Int32.toInt (oO k) <= 99) (yD : ∀ k : Nat, k = 4 -> 1 <= Int32.toInt (pJ k) /\ Int32.toInt (pJ k) <= 30) (xZ : ∀ k : Nat, k = 3 -> 0 <= Int32.toInt (pJ k) /\ Int32.toInt (pJ k) <= 9) (hc0 : -1 <= SB /\ SB <= 7) (hc1 : (Int32.toInt aG <= 0 /\ SB = 0) \/ (1 <= Int32.toInt aG /\ SB = Int32.toInt aG - 1)) (hpost : ∀ (r : Int32) (xM : Int32) (xG : Int32) (aAS : Int32) (aBX : Nat -> Int32) (aA5 : Nat -> Int32), (0 <= Int32.toInt r /\ Int32.toInt r <= 255) -> (1 <= Int32.toInt xM /\ Int32.toInt xM <= 1) -> (0 <= Int32.toInt xG /\ Int32.toInt xG <= 0) -> (0 <= Int32.toInt aAS /\ Int32.toInt aAS <= 65535) -> (∀ k : Nat, 0 <= Int32.toInt (aA5 k) /\ Int32.toInt (aA5 k) <= 65535) -> post r xM xG aAS aBX aA5) (hK15 : ∀ (x1 : Int32) (x2 : Int32) (x3 : Int32) (bL : Int32) (bY : Int32) (dO : Int32) (sW : Nat -> Int32) (sH : Nat -> Int32), (0 <= Int32.toInt x1 /\ Int32.toInt x1 <= 255) -> (0 <= Int32.toInt x2 /\ Int32.toInt x2 <= 65535) -> (0 <= Int32.toInt x3 /\ Int32.toInt x3 <= 16) -> (0 <= Int32.toInt bL /\ Int32.toInt bL <= 16) -> (0 <= Int32.toInt bY /\ Int32.toInt bY <= 0) -> (0 <= Int32.toInt dO /\ Int32.toInt dO <= 65535) -> (∀ k : Nat, 0 <= Int32.toInt (sH k) /\ Int32.toInt (sH k) <= 65535) -> (16 - Int32.toInt x3 < n15) -> K15 x1 x2 x3 bL bY dO sW sH) (x1 x2 x3 bL bY dO : Int32) (sW sH : Nat -> Int32) (aBK : 0 <= Int32.toInt x1 /\ Int32.toInt x1 <= 255) (aBN : 0 <= Int32.toInt x2 /\ Int32.toInt x2 <= 65535) (aCH : 0 <= Int32.toInt x3 /\ Int32.toInt x3 <= 15) (yJ : 0 <= Int32.toInt bL /\ Int32.toInt bL <= 16) (yG : 0 <= Int32.toInt bY /\ Int32.toInt bY <= 0) (aAH : 0 <= Int32.toInt dO /\ Int32.toInt dO <= 65535) (zY : ∀ k : Nat, 0 <= Int32.toInt (sH k) /\ Int32.toInt (sH k) <= 65535) (hn15 : 16 - Int32.toInt x3 <= n15) : ws_X10_needed_105 post K15 bT aG qG m_x gR qR nG oO pJ x1 x2 x3 bL bY dO sW sH := by
  have l0 := aEc
  intro v1 ev1
  have f2 : Int32.toInt (x3 + 1) = Int32.toInt x3 + Int32.toInt (1 : Int32) := aAD _ _ (by omega)
  rw [<- ev1] at f2
  exact hK15 x1 x2 v1 bL bY dO sW sH aBK aBN (by omega) yJ yG aAH zY (by omega)
set_option maxHeartbeats 8000000 in
set_option maxRecDepth 200000 in
theorem ts_X10_needed_62 {post : Int32 -> Int32 -> Int32 -> Int32 -> (Nat -> Int32) -> (Nat -> Int32) -> Prop} {SB : Int} {K15 : Int32 -> Int32 -> Int32 -> Int32 -> Int32 -> Int32 -> (Nat -> Int32) -> (Nat -> Int32) -> Prop} {K29 : Int32 -> Int32 -> Int32 -> Int32 -> Int32 -> Int32 -> Int32 -> Int32 -> (Nat -> Int32) -> (Nat -> Int32) -> Prop} {n15 n29 : Int} (bT aG : Int32) (qG m_x gR qR nG oO pJ : Nat -> Int32) (xJ : 0 <= Int32.toInt bT /\ Int32.toInt bT <= 16) (vZ : 0 <= Int32.toInt aG /\ Int32.toInt aG <= 8) (xU : ∀ k : Nat, k = 17 -> -1 <= Int32.toInt (qG k) /\ Int32.toInt (qG k) <= SB) (xV : ∀ k : Nat, k = 19 -> 0 <= Int32.toInt (qG k) /\ Int32.toInt (qG k) <= 9) (aAW : ∀ k : Nat, 0 <= Int32.toInt (m_x k) /\ Int32.toInt (m_x k) <= 99) (xK : ∀ k : Nat, 0 <= Int32.toInt (gR k) /\ Int32.toInt (gR k) <= 99) (zM : ∀ k : Nat, 0 <= Int32.toInt (qR k) /\ Int32.toInt (qR k) <= 9) (xT : ∀ k : Nat, 0 <= Int32.toInt (nG k) /\ Int32.toInt (nG k) <= 99) (yF : ∀ k : Nat, 0 <= Int32.toInt (oO k) /\ Int32.toInt (oO k) <= 99) (yD : ∀ k : Nat, k = 4 -> 1 <= Int32.toInt (pJ k) /\ Int32.toInt (pJ k) <= 30) (xZ : ∀ k : Nat, k = 3 -> 0 <= Int32.toInt (pJ k) /\ Int32.toInt (pJ k) <= 9) (hc0 : -1 <= SB /\ SB <= 7) (hc1 : (Int32.toInt aG <= 0 /\ SB = 0) \/ (1 <= Int32.toInt aG /\ SB = Int32.toInt aG - 1)) (hpost : ∀ (r : Int32) (xM : Int32) (xG : Int32) (aAS : Int32) (aBX : Nat -> Int32) (aA5 : Nat -> Int32), (0 <= Int32.toInt r /\ Int32.toInt r <= 255) -> (1 <= Int32.toInt xM /\ Int32.toInt xM <= 1) -> (0 <= Int32.toInt xG /\ Int32.toInt xG <= 0) -> (0 <= Int32.toInt aAS /\ Int32.toInt aAS <= 65535) -> (∀ k : Nat, 0 <= Int32.toInt (aA5 k) /\ Int32.toInt (aA5 k) <= 65535) -> post r xM xG aAS aBX aA5) (hK15 : ∀ (x1 : Int32) (x2 : Int32) (x3 : Int32) (bL : Int32) (bY : Int32) (dO : Int32) (sW : Nat -> Int32) (sH : Nat -> Int32), (0 <= Int32.toInt x1 /\ Int32.toInt x1 <= 255) -> (0 <= Int32.toInt x2 /\ Int32.toInt x2 <= 65535) -> (0 <= Int32.toInt x3 /\ Int32.toInt x3 <= 16) -> (0 <= Int32.toInt bL /\ Int32.toInt bL <= 16) -> (0 <= Int32.toInt bY /\ Int32.toInt bY <= 0) -> (0 <= Int32.toInt dO /\ Int32.toInt dO <= 65535) -> (∀ k : Nat, 0 <= Int32.toInt (sH k) /\ Int32.toInt (sH k) <= 65535) -> (16 - Int32.toInt x3 < n15) -> K15 x1 x2 x3 bL bY dO sW sH) (hK29 : ∀ (x1 : Int32) (x2 : Int32) (x3 : Int32) (x4 : Int32) (x5 : Int32) (bL : Int32) (bY : Int32) (dO : Int32) (sW : Nat -> Int32) (sH : Nat -> Int32), (0 <= Int32.toInt x1 /\ Int32.toInt x1 <= 255) -> (0 <= Int32.toInt x2 /\ Int32.toInt x2 <= 65535) -> (0 <= Int32.toInt x3 /\ Int32.toInt x3 <= 15) -> (0 <= Int32.toInt x4 /\ Int32.toInt x4 <= 255) -> (0 <= Int32.toInt x5 /\ Int32.toInt x5 <= 8) -> (0 <= Int32.toInt bL /\ Int32.toInt bL <= 16) -> (0 <= Int32.toInt bY /\ Int32.toInt bY <= 0) -> (0 <= Int32.toInt dO /\ Int32.toInt dO <= 65535) -> (∀ k : Nat, 0 <= Int32.toInt (sH k) /\ Int32.toInt (sH k) <= 65535) -> (16 - Int32.toInt x3 <= n15) -> (8 - Int32.toInt x5 < n29) -> K29 x1 x2 x3 x4 x5 bL bY dO sW sH) (x1 x2 x3 x5 k0 k1 bL bY dO : Int32) (sW sH : Nat -> Int32) (aBK : 0 <= Int32.toInt x1 /\ Int32.toInt x1 <= 255) (aBN : 0 <= Int32.toInt x2 /\ Int32.toInt x2 <= 65535) (aCH : 0 <= Int32.toInt x3 /\ Int32.toInt x3 <= 15) (aF7 : 0 <= Int32.toInt x5 /\ Int32.toInt x5 <= 7) (h_k0 : 0 <= Int32.toInt k0 /\ Int32.toInt k0 <= 255) (h_k1 : 0 <= Int32.toInt k1 /\ Int32.toInt k1 <= 128) (yJ : 0 <= Int32.toInt bL /\ Int32.toInt bL <= 16) (yG : 0 <= Int32.toInt bY /\ Int32.toInt bY <= 0) (aAH : 0 <= Int32.toInt dO /\ Int32.toInt dO <= 65535) (zY : ∀ k : Nat, 0 <= Int32.toInt (sH k) /\ Int32.toInt (sH k) <= 65535) (hn15 : 16 - Int32.toInt x3 <= n15) (hn29 : 8 - Int32.toInt x5 <= n29) : ws_X10_needed_62 post K15 K29 bT aG qG m_x gR qR nG oO pJ x1 x2 x3 x5 k0 k1 bL bY dO sW sH := by
  have l0 := aEc
  intro v3 ev3
  have f4 := ti_or 8 256 k0 k1 (by decide) (by omega) (by omega)
  have hv3 := congrArg Int32.toInt ev3
  intro v5 ev5
  have f6 : Int32.toInt (x5 + 1) = Int32.toInt x5 + Int32.toInt (1 : Int32) := aAD _ _ (by omega)
  rw [<- ev5] at f6
  exact hK29 x1 x2 x3 v3 v5 bL bY dO sW sH aBK aBN aCH (by omega) (by omega) yJ yG aAH zY hn15 (by omega)
set_option maxHeartbeats 8000000 in
set_option maxRecDepth 200000 in
theorem ts_X10_needed_29 {post : Int32 -> Int32 -> Int32 -> Int32 -> (Nat -> Int32) -> (Nat -> Int32) -> Prop} {SB : Int} {K15 : Int32 -> Int32 -> Int32 -> Int32 -> Int32 -> Int32 -> (Nat -> Int32) -> (Nat -> Int32) -> Prop} {next : Int32 -> Int32 -> Int32 -> Int32 -> Int32 -> Int32 -> Int32 -> Int32 -> (Nat -> Int32) -> (Nat -> Int32) -> Prop} {n29 n15 : Int} (bT aG : Int32) (qG m_x gR qR nG oO pJ : Nat -> Int32) (xJ : 0 <= Int32.toInt bT /\ Int32.toInt bT <= 16) (vZ : 0 <= Int32.toInt aG /\ Int32.toInt aG <= 8) (xU : ∀ k : Nat, k = 17 -> -1 <= Int32.toInt (qG k) /\ Int32.toInt (qG k) <= SB) (xV : ∀ k : Nat, k = 19 -> 0 <= Int32.toInt (qG k) /\ Int32.toInt (qG k) <= 9) (aAW : ∀ k : Nat, 0 <= Int32.toInt (m_x k) /\ Int32.toInt (m_x k) <= 99) (xK : ∀ k : Nat, 0 <= Int32.toInt (gR k) /\ Int32.toInt (gR k) <= 99) (zM : ∀ k : Nat, 0 <= Int32.toInt (qR k) /\ Int32.toInt (qR k) <= 9) (xT : ∀ k : Nat, 0 <= Int32.toInt (nG k) /\ Int32.toInt (nG k) <= 99) (yF : ∀ k : Nat, 0 <= Int32.toInt (oO k) /\ Int32.toInt (oO k) <= 99) (yD : ∀ k : Nat, k = 4 -> 1 <= Int32.toInt (pJ k) /\ Int32.toInt (pJ k) <= 30) (xZ : ∀ k : Nat, k = 3 -> 0 <= Int32.toInt (pJ k) /\ Int32.toInt (pJ k) <= 9) (hc0 : -1 <= SB /\ SB <= 7) (hc1 : (Int32.toInt aG <= 0 /\ SB = 0) \/ (1 <= Int32.toInt aG /\ SB = Int32.toInt aG - 1)) (hpost : ∀ (r : Int32) (xM : Int32) (xG : Int32) (aAS : Int32) (aBX : Nat -> Int32) (aA5 : Nat -> Int32), (0 <= Int32.toInt r /\ Int32.toInt r <= 255) -> (1 <= Int32.toInt xM /\ Int32.toInt xM <= 1) -> (0 <= Int32.toInt xG /\ Int32.toInt xG <= 0) -> (0 <= Int32.toInt aAS /\ Int32.toInt aAS <= 65535) -> (∀ k : Nat, 0 <= Int32.toInt (aA5 k) /\ Int32.toInt (aA5 k) <= 65535) -> post r xM xG aAS aBX aA5) (hK15 : ∀ (x1 : Int32) (x2 : Int32) (x3 : Int32) (bL : Int32) (bY : Int32) (dO : Int32) (sW : Nat -> Int32) (sH : Nat -> Int32), (0 <= Int32.toInt x1 /\ Int32.toInt x1 <= 255) -> (0 <= Int32.toInt x2 /\ Int32.toInt x2 <= 65535) -> (0 <= Int32.toInt x3 /\ Int32.toInt x3 <= 16) -> (0 <= Int32.toInt bL /\ Int32.toInt bL <= 16) -> (0 <= Int32.toInt bY /\ Int32.toInt bY <= 0) -> (0 <= Int32.toInt dO /\ Int32.toInt dO <= 65535) -> (∀ k : Nat, 0 <= Int32.toInt (sH k) /\ Int32.toInt (sH k) <= 65535) -> (16 - Int32.toInt x3 < n15) -> K15 x1 x2 x3 bL bY dO sW sH) (hKn : ∀ (x1 : Int32) (x2 : Int32) (x3 : Int32) (x4 : Int32) (x5 : Int32) (bL : Int32) (bY : Int32) (dO : Int32) (sW : Nat -> Int32) (sH : Nat -> Int32), (0 <= Int32.toInt x1 /\ Int32.toInt x1 <= 255) -> (0 <= Int32.toInt x2 /\ Int32.toInt x2 <= 65535) -> (0 <= Int32.toInt x3 /\ Int32.toInt x3 <= 15) -> (0 <= Int32.toInt x4 /\ Int32.toInt x4 <= 255) -> (0 <= Int32.toInt x5 /\ Int32.toInt x5 <= 8) -> (0 <= Int32.toInt bL /\ Int32.toInt bL <= 16) -> (0 <= Int32.toInt bY /\ Int32.toInt bY <= 0) -> (0 <= Int32.toInt dO /\ Int32.toInt dO <= 65535) -> (∀ k : Nat, 0 <= Int32.toInt (sH k) /\ Int32.toInt (sH k) <= 65535) -> (16 - Int32.toInt x3 <= n15) -> (8 - Int32.toInt x5 < n29) -> next x1 x2 x3 x4 x5 bL bY dO sW sH) (x1 x2 x3 x4 x5 bL bY dO : Int32) (sW sH : Nat -> Int32) (aBK : 0 <= Int32.toInt x1 /\ Int32.toInt x1 <= 255) (aBN : 0 <= Int32.toInt x2 /\ Int32.toInt x2 <= 65535) (aCH : 0 <= Int32.toInt x3 /\ Int32.toInt x3 <= 15) (aDO : 0 <= Int32.toInt x4 /\ Int32.toInt x4 <= 255) (aF7 : 0 <= Int32.toInt x5 /\ Int32.toInt x5 <= 8) (yJ : 0 <= Int32.toInt bL /\ Int32.toInt bL <= 16) (yG : 0 <= Int32.toInt bY /\ Int32.toInt bY <= 0) (aAH : 0 <= Int32.toInt dO /\ Int32.toInt dO <= 65535) (zY : ∀ k : Nat, 0 <= Int32.toInt (sH k) /\ Int32.toInt (sH k) <= 65535) (hn15 : 16 - Int32.toInt x3 <= n15) (hn29 : 8 - Int32.toInt x5 <= n29) : ws_X10_needed_29 post K15 next bT aG qG m_x gR qR nG oO pJ x1 x2 x3 x4 x5 bL bY dO sW sH := by
  have l0 := aE0
  have l1 := aEc
  have l2 := aKH
  have l3 := aJ8
  have l4 := li_63
  have l5 := aJ9
  refine And.intro (fun c7 => ?_) (fun c7 => ?_)
  · skip
    have c7 := (aAO _ _).mp c7
    intro v8 ev8
    have f9 := aRJ dO x3 (by omega)
    have hv8 := congrArg Int32.toInt ev8
    intro v10 ev10
    have f11 := aAQ v8 1 (by omega)
    have f12 := aBx v8 1 (by omega)
    have hv10 := congrArg Int32.toInt ev10
    refine And.intro (fun c13 => ?_) (fun c13 => ?_)
    · skip
      have c13 := mt (zJ _ _).mpr c13
      refine And.intro (fun _ => ?_) (fun h9 => absurd h9 (by decide))
      exact ts_X10_needed_105 bT aG qG m_x gR qR nG oO pJ xJ vZ xU xV aAW xK zM xT yF yD xZ hc0 hc1 hpost hK15 x1 x2 x3 bL bY dO sW sH aBK aBN aCH yJ yG aAH zY hn15
    · skip
      have c13 := (zJ _ _).mp c13
      refine And.intro (fun h9 => absurd h9 (by decide)) (fun _ => ?_)
      intro v14 ev14
      intro v15 ev15
      have f17 := aAQ v14 1431655765 (by omega)
      have f16 : Int32.toInt (x4 - (v14 &&& 1431655765)) = Int32.toInt x4 - Int32.toInt (v14 &&& 1431655765) := aCA _ _ (by omega)
      rw [<- ev15] at f16
      intro v18 ev18
      have f19 := aAQ v15 858993459 (by omega)
      have hv18 := congrArg Int32.toInt ev18
      intro v20 ev20
      intro v21 ev21
      have f23 := aAQ v20 858993459 (by omega)
      have f22 : Int32.toInt (v18 + (v20 &&& 858993459)) = Int32.toInt v18 + Int32.toInt (v20 &&& 858993459) := aAD _ _ (by omega)
      rw [<- ev21] at f22
      intro v24 ev24
      have hv24 := congrArg Int32.toInt ev24
      intro v26 ev26
      have f27 := aAQ v24 252645135 (by omega)
      have hv26 := congrArg Int32.toInt ev26
      intro v28 ev28
      have hv28 := congrArg Int32.toInt ev28
      intro v30 ev30
      have hv30 := congrArg Int32.toInt ev30
      have f33 := aAQ v30 63 (by omega)
      refine And.intro (fun c32 => ?_) (fun c32 => ?_)
      · skip
        have c32 := (zJ _ _).mp c32
        intro v34 ev34
        have f35 := ti_or 8 256 x1 x4 (by decide) (by omega) (by omega)
        have hv34 := congrArg Int32.toInt ev34
        intro v36 ev36
        have f38 := aDv 15 32768 x3 (by decide) (by omega)
        have f37 := ti_or 16 65536 x2 (1 <<< (x3 &&& 31)) (by decide) (by omega) (by omega)
        have hv36 := congrArg Int32.toInt ev36
        exact ts_X10_needed_105 bT aG qG m_x gR qR nG oO pJ xJ vZ xU xV aAW xK zM xT yF yD xZ hc0 hc1 hpost hK15 v34 v36 x3 bL bY dO sW sH (by omega) (by omega) aCH yJ yG aAH zY hn15
      · skip
        have c32 := mt (zJ _ _).mpr c32
        exact ts_X10_needed_105 bT aG qG m_x gR qR nG oO pJ xJ vZ xU xV aAW xK zM xT yF yD xZ hc0 hc1 hpost hK15 x1 x2 x3 bL bY dO sW sH aBK aBN aCH yJ yG aAH zY hn15
  · skip
    have c7 := mt (aAO _ _).mpr c7
    refine And.intro (aBZ (by omega)) ?_
    intro v39 ev39
    have f40 := zY x5.toNatClampNeg
    have hv39 := congrArg Int32.toInt ev39
    intro v41 ev41
    have f42 := aRJ v39 x3 (by omega)
    have hv41 := congrArg Int32.toInt ev41
    intro v43 ev43
    have f44 := aAQ v41 1 (by omega)
    have f45 := aBx v41 1 (by omega)
    have hv43 := congrArg Int32.toInt ev43
    refine And.intro (fun c46 => ?_) (fun c46 => ?_)
    · skip
      have c46 := mt (zJ _ _).mpr c46
      refine And.intro (fun _ => ?_) (fun h9 => absurd h9 (by decide))
      exact ts_X10_needed_62 bT aG qG m_x gR qR nG oO pJ xJ vZ xU xV aAW xK zM xT yF yD xZ hc0 hc1 hpost hK15 hKn x1 x2 x3 x5 x4 0 bL bY dO sW sH aBK aBN aCH (by omega) aDO (by omega) yJ yG aAH zY hn15 hn29
    · skip
      have c46 := (zJ _ _).mp c46
      refine And.intro (fun h9 => absurd h9 (by decide)) (fun _ => ?_)
      intro v47 ev47
      have f48 := aDv 7 128 x5 (by decide) (by omega)
      have hv47 := congrArg Int32.toInt ev47
      exact ts_X10_needed_62 bT aG qG m_x gR qR nG oO pJ xJ vZ xU xV aAW xK zM xT yF yD xZ hc0 hc1 hpost hK15 hKn x1 x2 x3 x5 x4 v47 bL bY dO sW sH aBK aBN aCH (by omega) aDO (by omega) yJ yG aAH zY hn15 hn29
set_option maxHeartbeats 8000000 in
set_option maxRecDepth 200000 in
theorem tb_X10_needed_29 {post : Int32 -> Int32 -> Int32 -> Int32 -> (Nat -> Int32) -> (Nat -> Int32) -> Prop} {SB : Int} {K15 : Int32 -> Int32 -> Int32 -> Int32 -> Int32 -> Int32 -> (Nat -> Int32) -> (Nat -> Int32) -> Prop} {n15 : Int} (bT aG : Int32) (qG m_x gR qR nG oO pJ : Nat -> Int32) (xJ : 0 <= Int32.toInt bT /\ Int32.toInt bT <= 16) (vZ : 0 <= Int32.toInt aG /\ Int32.toInt aG <= 8) (xU : ∀ k : Nat, k = 17 -> -1 <= Int32.toInt (qG k) /\ Int32.toInt (qG k) <= SB) (xV : ∀ k : Nat, k = 19 -> 0 <= Int32.toInt (qG k) /\ Int32.toInt (qG k) <= 9) (aAW : ∀ k : Nat, 0 <= Int32.toInt (m_x k) /\ Int32.toInt (m_x k) <= 99) (xK : ∀ k : Nat, 0 <= Int32.toInt (gR k) /\ Int32.toInt (gR k) <= 99) (zM : ∀ k : Nat, 0 <= Int32.toInt (qR k) /\ Int32.toInt (qR k) <= 9) (xT : ∀ k : Nat, 0 <= Int32.toInt (nG k) /\ Int32.toInt (nG k) <= 99) (yF : ∀ k : Nat, 0 <= Int32.toInt (oO k) /\ Int32.toInt (oO k) <= 99) (yD : ∀ k : Nat, k = 4 -> 1 <= Int32.toInt (pJ k) /\ Int32.toInt (pJ k) <= 30) (xZ : ∀ k : Nat, k = 3 -> 0 <= Int32.toInt (pJ k) /\ Int32.toInt (pJ k) <= 9) (hc0 : -1 <= SB /\ SB <= 7) (hc1 : (Int32.toInt aG <= 0 /\ SB = 0) \/ (1 <= Int32.toInt aG /\ SB = Int32.toInt aG - 1)) (hpost : ∀ (r : Int32) (xM : Int32) (xG : Int32) (aAS : Int32) (aBX : Nat -> Int32) (aA5 : Nat -> Int32), (0 <= Int32.toInt r /\ Int32.toInt r <= 255) -> (1 <= Int32.toInt xM /\ Int32.toInt xM <= 1) -> (0 <= Int32.toInt xG /\ Int32.toInt xG <= 0) -> (0 <= Int32.toInt aAS /\ Int32.toInt aAS <= 65535) -> (∀ k : Nat, 0 <= Int32.toInt (aA5 k) /\ Int32.toInt (aA5 k) <= 65535) -> post r xM xG aAS aBX aA5) (hK15 : ∀ (x1 : Int32) (x2 : Int32) (x3 : Int32) (bL : Int32) (bY : Int32) (dO : Int32) (sW : Nat -> Int32) (sH : Nat -> Int32), (0 <= Int32.toInt x1 /\ Int32.toInt x1 <= 255) -> (0 <= Int32.toInt x2 /\ Int32.toInt x2 <= 65535) -> (0 <= Int32.toInt x3 /\ Int32.toInt x3 <= 16) -> (0 <= Int32.toInt bL /\ Int32.toInt bL <= 16) -> (0 <= Int32.toInt bY /\ Int32.toInt bY <= 0) -> (0 <= Int32.toInt dO /\ Int32.toInt dO <= 65535) -> (∀ k : Nat, 0 <= Int32.toInt (sH k) /\ Int32.toInt (sH k) <= 65535) -> (16 - Int32.toInt x3 < n15) -> K15 x1 x2 x3 bL bY dO sW sH) : ∀ (n : Nat) (x1 x2 x3 x4 x5 bL bY dO : Int32) (sW sH : Nat -> Int32), (0 <= Int32.toInt x1 /\ Int32.toInt x1 <= 255) -> (0 <= Int32.toInt x2 /\ Int32.toInt x2 <= 65535) -> (0 <= Int32.toInt x3 /\ Int32.toInt x3 <= 15) -> (0 <= Int32.toInt x4 /\ Int32.toInt x4 <= 255) -> (0 <= Int32.toInt x5 /\ Int32.toInt x5 <= 8) -> (0 <= Int32.toInt bL /\ Int32.toInt bL <= 16) -> (0 <= Int32.toInt bY /\ Int32.toInt bY <= 0) -> (0 <= Int32.toInt dO /\ Int32.toInt dO <= 65535) -> (∀ k : Nat, 0 <= Int32.toInt (sH k) /\ Int32.toInt (sH k) <= 65535) -> (16 - Int32.toInt x3 <= n15) -> (8 - Int32.toInt x5 < (n : Int)) -> wb_X10_needed_29 post K15 bT aG qG m_x gR qR nG oO pJ n x1 x2 x3 x4 x5 bL bY dO sW sH := by
  intro n
  induction n with
  | zero =>
    intro x1 x2 x3 x4 x5 bL bY dO sW sH aBK aBN aCH aDO aF7 yJ yG aAH zY hn15 hm
    exfalso; omega
  | succ n ih =>
    intro x1 x2 x3 x4 x5 bL bY dO sW sH aBK aBN aCH aDO aF7 yJ yG aAH zY hn15 hm
    exact ts_X10_needed_29 bT aG qG m_x gR qR nG oO pJ xJ vZ xU xV aAW xK zM xT yF yD xZ hc0 hc1 hpost hK15 ih x1 x2 x3 x4 x5 bL bY dO sW sH aBK aBN aCH aDO aF7 yJ yG aAH zY hn15 (by omega)
set_option maxHeartbeats 8000000 in
set_option maxRecDepth 200000 in
theorem ts_X10_needed_15 {post : Int32 -> Int32 -> Int32 -> Int32 -> (Nat -> Int32) -> (Nat -> Int32) -> Prop} {SB : Int} {next : Int32 -> Int32 -> Int32 -> Int32 -> Int32 -> Int32 -> (Nat -> Int32) -> (Nat -> Int32) -> Prop} {n15 : Int} (bT aG : Int32) (qG m_x gR qR nG oO pJ : Nat -> Int32) (xJ : 0 <= Int32.toInt bT /\ Int32.toInt bT <= 16) (vZ : 0 <= Int32.toInt aG /\ Int32.toInt aG <= 8) (xU : ∀ k : Nat, k = 17 -> -1 <= Int32.toInt (qG k) /\ Int32.toInt (qG k) <= SB) (xV : ∀ k : Nat, k = 19 -> 0 <= Int32.toInt (qG k) /\ Int32.toInt (qG k) <= 9) (aAW : ∀ k : Nat, 0 <= Int32.toInt (m_x k) /\ Int32.toInt (m_x k) <= 99) (xK : ∀ k : Nat, 0 <= Int32.toInt (gR k) /\ Int32.toInt (gR k) <= 99) (zM : ∀ k : Nat, 0 <= Int32.toInt (qR k) /\ Int32.toInt (qR k) <= 9) (xT : ∀ k : Nat, 0 <= Int32.toInt (nG k) /\ Int32.toInt (nG k) <= 99) (yF : ∀ k : Nat, 0 <= Int32.toInt (oO k) /\ Int32.toInt (oO k) <= 99) (yD : ∀ k : Nat, k = 4 -> 1 <= Int32.toInt (pJ k) /\ Int32.toInt (pJ k) <= 30) (xZ : ∀ k : Nat, k = 3 -> 0 <= Int32.toInt (pJ k) /\ Int32.toInt (pJ k) <= 9) (hc0 : -1 <= SB /\ SB <= 7) (hc1 : (Int32.toInt aG <= 0 /\ SB = 0) \/ (1 <= Int32.toInt aG /\ SB = Int32.toInt aG - 1)) (hpost : ∀ (r : Int32) (xM : Int32) (xG : Int32) (aAS : Int32) (aBX : Nat -> Int32) (aA5 : Nat -> Int32), (0 <= Int32.toInt r /\ Int32.toInt r <= 255) -> (1 <= Int32.toInt xM /\ Int32.toInt xM <= 1) -> (0 <= Int32.toInt xG /\ Int32.toInt xG <= 0) -> (0 <= Int32.toInt aAS /\ Int32.toInt aAS <= 65535) -> (∀ k : Nat, 0 <= Int32.toInt (aA5 k) /\ Int32.toInt (aA5 k) <= 65535) -> post r xM xG aAS aBX aA5) (hKn : ∀ (x1 : Int32) (x2 : Int32) (x3 : Int32) (bL : Int32) (bY : Int32) (dO : Int32) (sW : Nat -> Int32) (sH : Nat -> Int32), (0 <= Int32.toInt x1 /\ Int32.toInt x1 <= 255) -> (0 <= Int32.toInt x2 /\ Int32.toInt x2 <= 65535) -> (0 <= Int32.toInt x3 /\ Int32.toInt x3 <= 16) -> (0 <= Int32.toInt bL /\ Int32.toInt bL <= 16) -> (0 <= Int32.toInt bY /\ Int32.toInt bY <= 0) -> (0 <= Int32.toInt dO /\ Int32.toInt dO <= 65535) -> (∀ k : Nat, 0 <= Int32.toInt (sH k) /\ Int32.toInt (sH k) <= 65535) -> (16 - Int32.toInt x3 < n15) -> next x1 x2 x3 bL bY dO sW sH) (x1 x2 x3 bL bY dO : Int32) (sW sH : Nat -> Int32) (aBK : 0 <= Int32.toInt x1 /\ Int32.toInt x1 <= 255) (aBN : 0 <= Int32.toInt x2 /\ Int32.toInt x2 <= 65535) (aCH : 0 <= Int32.toInt x3 /\ Int32.toInt x3 <= 16) (yJ : 0 <= Int32.toInt bL /\ Int32.toInt bL <= 16) (yG : 0 <= Int32.toInt bY /\ Int32.toInt bY <= 0) (aAH : 0 <= Int32.toInt dO /\ Int32.toInt dO <= 65535) (zY : ∀ k : Nat, 0 <= Int32.toInt (sH k) /\ Int32.toInt (sH k) <= 65535) (hn15 : 16 - Int32.toInt x3 <= n15) : ws_X10_needed_15 post next bT aG qG m_x gR qR nG oO pJ x1 x2 x3 bL bY dO sW sH := by
  have l0 := aE0
  have l1 := aEc
  refine And.intro (fun c49 => ?_) (fun c49 => ?_)
  · skip
    have c49 := (aAO _ _).mp c49
    refine And.intro (aBZ (by omega)) ?_
    intro v50 ev50
    have f51 : Int32.toInt (0 + 1) = Int32.toInt (0 : Int32) + Int32.toInt (1 : Int32) := aAD _ _ (by omega)
    rw [<- ev50] at f51
    exact hpost _ _ _ _ _ _ aBK (by omega) yG aAH zY
  · skip
    have c49 := mt (aAO _ _).mpr c49
    exact ⟨10, tb_X10_needed_29 bT aG qG m_x gR qR nG oO pJ xJ vZ xU xV aAW xK zM xT yF yD xZ hc0 hc1 hpost hKn _ x1 x2 x3 0 0 bL bY dO sW sH aBK aBN (by omega) (by omega) (by omega) yJ yG aAH zY hn15 (by omega)⟩
set_option maxHeartbeats 8000000 in
set_option maxRecDepth 200000 in
theorem tb_X10_needed_15 {post : Int32 -> Int32 -> Int32 -> Int32 -> (Nat -> Int32) -> (Nat -> Int32) -> Prop} {SB : Int} (bT aG : Int32) (qG m_x gR qR nG oO pJ : Nat -> Int32) (xJ : 0 <= Int32.toInt bT /\ Int32.toInt bT <= 16) (vZ : 0 <= Int32.toInt aG /\ Int32.toInt aG <= 8) (xU : ∀ k : Nat, k = 17 -> -1 <= Int32.toInt (qG k) /\ Int32.toInt (qG k) <= SB) (xV : ∀ k : Nat, k = 19 -> 0 <= Int32.toInt (qG k) /\ Int32.toInt (qG k) <= 9) (aAW : ∀ k : Nat, 0 <= Int32.toInt (m_x k) /\ Int32.toInt (m_x k) <= 99) (xK : ∀ k : Nat, 0 <= Int32.toInt (gR k) /\ Int32.toInt (gR k) <= 99) (zM : ∀ k : Nat, 0 <= Int32.toInt (qR k) /\ Int32.toInt (qR k) <= 9) (xT : ∀ k : Nat, 0 <= Int32.toInt (nG k) /\ Int32.toInt (nG k) <= 99) (yF : ∀ k : Nat, 0 <= Int32.toInt (oO k) /\ Int32.toInt (oO k) <= 99) (yD : ∀ k : Nat, k = 4 -> 1 <= Int32.toInt (pJ k) /\ Int32.toInt (pJ k) <= 30) (xZ : ∀ k : Nat, k = 3 -> 0 <= Int32.toInt (pJ k) /\ Int32.toInt (pJ k) <= 9) (hc0 : -1 <= SB /\ SB <= 7) (hc1 : (Int32.toInt aG <= 0 /\ SB = 0) \/ (1 <= Int32.toInt aG /\ SB = Int32.toInt aG - 1)) (hpost : ∀ (r : Int32) (xM : Int32) (xG : Int32) (aAS : Int32) (aBX : Nat -> Int32) (aA5 : Nat -> Int32), (0 <= Int32.toInt r /\ Int32.toInt r <= 255) -> (1 <= Int32.toInt xM /\ Int32.toInt xM <= 1) -> (0 <= Int32.toInt xG /\ Int32.toInt xG <= 0) -> (0 <= Int32.toInt aAS /\ Int32.toInt aAS <= 65535) -> (∀ k : Nat, 0 <= Int32.toInt (aA5 k) /\ Int32.toInt (aA5 k) <= 65535) -> post r xM xG aAS aBX aA5) : ∀ (n : Nat) (x1 x2 x3 bL bY dO : Int32) (sW sH : Nat -> Int32), (0 <= Int32.toInt x1 /\ Int32.toInt x1 <= 255) -> (0 <= Int32.toInt x2 /\ Int32.toInt x2 <= 65535) -> (0 <= Int32.toInt x3 /\ Int32.toInt x3 <= 16) -> (0 <= Int32.toInt bL /\ Int32.toInt bL <= 16) -> (0 <= Int32.toInt bY /\ Int32.toInt bY <= 0) -> (0 <= Int32.toInt dO /\ Int32.toInt dO <= 65535) -> (∀ k : Nat, 0 <= Int32.toInt (sH k) /\ Int32.toInt (sH k) <= 65535) -> (16 - Int32.toInt x3 < (n : Int)) -> wb_X10_needed_15 post bT aG qG m_x gR qR nG oO pJ n x1 x2 x3 bL bY dO sW sH := by
  intro n
  induction n with
  | zero =>
    intro x1 x2 x3 bL bY dO sW sH aBK aBN aCH yJ yG aAH zY hm
    exfalso; omega
  | succ n ih =>
    intro x1 x2 x3 bL bY dO sW sH aBK aBN aCH yJ yG aAH zY hm
    exact ts_X10_needed_15 bT aG qG m_x gR qR nG oO pJ xJ vZ xU xV aAW xK zM xT yF yD xZ hc0 hc1 hpost ih x1 x2 x3 bL bY dO sW sH aBK aBN aCH yJ yG aAH zY (by omega)
set_option maxHeartbeats 8000000 in
set_option maxRecDepth 200000 in
theorem t_X10_needed {post : Int32 -> Int32 -> Int32 -> Int32 -> (Nat -> Int32) -> (Nat -> Int32) -> Prop} {SB : Int} {bT aG bL bY dO : Int32} {qG m_x gR qR nG oO pJ sW sH : Nat -> Int32} (xJ : 0 <= Int32.toInt bT /\ Int32.toInt bT <= 16) (vZ : 0 <= Int32.toInt aG /\ Int32.toInt aG <= 8) (yJ : 0 <= Int32.toInt bL /\ Int32.toInt bL <= 16) (yG : 0 <= Int32.toInt bY /\ Int32.toInt bY <= 1) (aAH : 0 <= Int32.toInt dO /\ Int32.toInt dO <= 65535) (xU : ∀ k : Nat, k = 17 -> -1 <= Int32.toInt (qG k) /\ Int32.toInt (qG k) <= SB) (xV : ∀ k : Nat, k = 19 -> 0 <= Int32.toInt (qG k) /\ Int32.toInt (qG k) <= 9) (aAW : ∀ k : Nat, 0 <= Int32.toInt (m_x k) /\ Int32.toInt (m_x k) <= 99) (xK : ∀ k : Nat, 0 <= Int32.toInt (gR k) /\ Int32.toInt (gR k) <= 99) (zM : ∀ k : Nat, 0 <= Int32.toInt (qR k) /\ Int32.toInt (qR k) <= 9) (xT : ∀ k : Nat, 0 <= Int32.toInt (nG k) /\ Int32.toInt (nG k) <= 99) (yF : ∀ k : Nat, 0 <= Int32.toInt (oO k) /\ Int32.toInt (oO k) <= 99) (yD : ∀ k : Nat, k = 4 -> 1 <= Int32.toInt (pJ k) /\ Int32.toInt (pJ k) <= 30) (xZ : ∀ k : Nat, k = 3 -> 0 <= Int32.toInt (pJ k) /\ Int32.toInt (pJ k) <= 9) (zY : ∀ k : Nat, 0 <= Int32.toInt (sH k) /\ Int32.toInt (sH k) <= 65535) (hc0 : -1 <= SB /\ SB <= 7) (hc1 : (Int32.toInt aG <= 0 /\ SB = 0) \/ (1 <= Int32.toInt aG /\ SB = Int32.toInt aG - 1)) (hpost : ∀ (r : Int32) (xM : Int32) (xG : Int32) (aAS : Int32) (aBX : Nat -> Int32) (aA5 : Nat -> Int32), (0 <= Int32.toInt r /\ Int32.toInt r <= 255) -> (1 <= Int32.toInt xM /\ Int32.toInt xM <= 1) -> (0 <= Int32.toInt xG /\ Int32.toInt xG <= 0) -> (0 <= Int32.toInt aAS /\ Int32.toInt aAS <= 65535) -> (∀ k : Nat, 0 <= Int32.toInt (aA5 k) /\ Int32.toInt (aA5 k) <= 65535) -> post r xM xG aAS aBX aA5) : wp_X10_needed post bT aG bL bY dO qG m_x gR qR nG oO pJ sW sH := by
  have l0 := aE0
  have l1 := li_18
  intro v52 ev52
  have hv52 := congrArg Int32.toInt ev52
  refine aLb xJ vZ aAH xU xV aAW xK zM xT yF yD xZ zY (by omega) (by omega) (fun m_wanted_54 m_hand_55 h_m_wanted_54 h_m_hand_55 => ?_)
  exact ⟨18, tb_X10_needed_15 bT aG qG m_x gR qR nG oO pJ xJ vZ xU xV aAW xK zM xT yF yD xZ hc0 hc1 hpost _ 0 0 0 bL 0 m_wanted_54 sW m_hand_55 (by omega) (by omega) (by omega) yJ (by omega) h_m_wanted_54 h_m_hand_55 (by omega)⟩
set_option maxHeartbeats 8000000 in
set_option maxRecDepth 200000 in
theorem ts_X10_birds_82 {post : Int32 -> Int32 -> Int32 -> Int32 -> (Nat -> Int32) -> (Nat -> Int32) -> Prop} {SB : Int} {K25 : Int32 -> Int32 -> Int32 -> Int32 -> Int32 -> Int32 -> (Nat -> Int32) -> (Nat -> Int32) -> Prop} {n25 : Int} (bT aG : Int32) (qG m_x gR pW qR nG oO pJ : Nat -> Int32) (xJ : 0 <= Int32.toInt bT /\ Int32.toInt bT <= 16) (vZ : 0 <= Int32.toInt aG /\ Int32.toInt aG <= 8) (xU : ∀ k : Nat, k = 17 -> -1 <= Int32.toInt (qG k) /\ Int32.toInt (qG k) <= SB) (xV : ∀ k : Nat, k = 19 -> 0 <= Int32.toInt (qG k) /\ Int32.toInt (qG k) <= 9) (aAW : ∀ k : Nat, 0 <= Int32.toInt (m_x k) /\ Int32.toInt (m_x k) <= 99) (xK : ∀ k : Nat, 0 <= Int32.toInt (gR k) /\ Int32.toInt (gR k) <= 99) (yR : ∀ k : Nat, 0 <= Int32.toInt (pW k) /\ Int32.toInt (pW k) <= 9) (zM : ∀ k : Nat, 0 <= Int32.toInt (qR k) /\ Int32.toInt (qR k) <= 9) (xT : ∀ k : Nat, 0 <= Int32.toInt (nG k) /\ Int32.toInt (nG k) <= 99) (yF : ∀ k : Nat, 0 <= Int32.toInt (oO k) /\ Int32.toInt (oO k) <= 99) (yD : ∀ k : Nat, k = 4 -> 1 <= Int32.toInt (pJ k) /\ Int32.toInt (pJ k) <= 30) (xZ : ∀ k : Nat, k = 3 -> 0 <= Int32.toInt (pJ k) /\ Int32.toInt (pJ k) <= 9) (hc0 : -1 <= SB /\ SB <= 7) (hc1 : (Int32.toInt aG <= 0 /\ SB = 0) \/ (1 <= Int32.toInt aG /\ SB = Int32.toInt aG - 1)) (hpost : ∀ (r : Int32) (xM : Int32) (xG : Int32) (aAS : Int32) (aBX : Nat -> Int32) (aA5 : Nat -> Int32), (0 <= Int32.toInt xM /\ Int32.toInt xM <= 16) -> (0 <= Int32.toInt xG /\ Int32.toInt xG <= 0) -> (0 <= Int32.toInt aAS /\ Int32.toInt aAS <= 65535) -> (∀ k : Nat, 0 <= Int32.toInt (aA5 k) /\ Int32.toInt (aA5 k) <= 65535) -> post r xM xG aAS aBX aA5) (hK25 : ∀ (x1 : Int32) (x2 : Int32) (x3 : Int32) (bL : Int32) (bY : Int32) (dO : Int32) (sW : Nat -> Int32) (sH : Nat -> Int32), (0 <= Int32.toInt x1 /\ Int32.toInt x1 <= 8) -> (0 <= Int32.toInt x2 /\ Int32.toInt x2 <= 255) -> (1 <= Int32.toInt x3 /\ Int32.toInt x3 <= 256) -> (0 <= Int32.toInt bL /\ Int32.toInt bL <= 16) -> (0 <= Int32.toInt bY /\ Int32.toInt bY <= 0) -> (0 <= Int32.toInt dO /\ Int32.toInt dO <= 65535) -> (∀ k : Nat, 0 <= Int32.toInt (sH k) /\ Int32.toInt (sH k) <= 65535) -> (256 - Int32.toInt x3 < n25) -> K25 x1 x2 x3 bL bY dO sW sH) (x1 x2 x3 bL bY dO : Int32) (sW sH : Nat -> Int32) (aBK : 0 <= Int32.toInt x1 /\ Int32.toInt x1 <= 8) (aBN : 0 <= Int32.toInt x2 /\ Int32.toInt x2 <= 255) (aCH : 1 <= Int32.toInt x3 /\ Int32.toInt x3 <= 255) (yJ : 0 <= Int32.toInt bL /\ Int32.toInt bL <= 16) (yG : 0 <= Int32.toInt bY /\ Int32.toInt bY <= 0) (aAH : 0 <= Int32.toInt dO /\ Int32.toInt dO <= 65535) (zY : ∀ k : Nat, 0 <= Int32.toInt (sH k) /\ Int32.toInt (sH k) <= 65535) (hn25 : 256 - Int32.toInt x3 <= n25) : ws_X10_birds_82 post K25 bT aG qG m_x gR pW qR nG oO pJ x1 x2 x3 bL bY dO sW sH := by
  have l0 := aEc
  intro v1 ev1
  have f2 : Int32.toInt (x3 + 1) = Int32.toInt x3 + Int32.toInt (1 : Int32) := aAD _ _ (by omega)
  rw [<- ev1] at f2
  exact hK25 x1 x2 v1 bL bY dO sW sH aBK aBN (by omega) yJ yG aAH zY (by omega)
set_option maxHeartbeats 8000000 in
set_option maxRecDepth 200000 in
theorem ts_X10_birds_80 {post : Int32 -> Int32 -> Int32 -> Int32 -> (Nat -> Int32) -> (Nat -> Int32) -> Prop} {SB : Int} {K25 : Int32 -> Int32 -> Int32 -> Int32 -> Int32 -> Int32 -> (Nat -> Int32) -> (Nat -> Int32) -> Prop} {n25 : Int} (bT aG : Int32) (qG m_x gR pW qR nG oO pJ : Nat -> Int32) (xJ : 0 <= Int32.toInt bT /\ Int32.toInt bT <= 16) (vZ : 0 <= Int32.toInt aG /\ Int32.toInt aG <= 8) (xU : ∀ k : Nat, k = 17 -> -1 <= Int32.toInt (qG k) /\ Int32.toInt (qG k) <= SB) (xV : ∀ k : Nat, k = 19 -> 0 <= Int32.toInt (qG k) /\ Int32.toInt (qG k) <= 9) (aAW : ∀ k : Nat, 0 <= Int32.toInt (m_x k) /\ Int32.toInt (m_x k) <= 99) (xK : ∀ k : Nat, 0 <= Int32.toInt (gR k) /\ Int32.toInt (gR k) <= 99) (yR : ∀ k : Nat, 0 <= Int32.toInt (pW k) /\ Int32.toInt (pW k) <= 9) (zM : ∀ k : Nat, 0 <= Int32.toInt (qR k) /\ Int32.toInt (qR k) <= 9) (xT : ∀ k : Nat, 0 <= Int32.toInt (nG k) /\ Int32.toInt (nG k) <= 99) (yF : ∀ k : Nat, 0 <= Int32.toInt (oO k) /\ Int32.toInt (oO k) <= 99) (yD : ∀ k : Nat, k = 4 -> 1 <= Int32.toInt (pJ k) /\ Int32.toInt (pJ k) <= 30) (xZ : ∀ k : Nat, k = 3 -> 0 <= Int32.toInt (pJ k) /\ Int32.toInt (pJ k) <= 9) (hc0 : -1 <= SB /\ SB <= 7) (hc1 : (Int32.toInt aG <= 0 /\ SB = 0) \/ (1 <= Int32.toInt aG /\ SB = Int32.toInt aG - 1)) (hpost : ∀ (r : Int32) (xM : Int32) (xG : Int32) (aAS : Int32) (aBX : Nat -> Int32) (aA5 : Nat -> Int32), (0 <= Int32.toInt xM /\ Int32.toInt xM <= 16) -> (0 <= Int32.toInt xG /\ Int32.toInt xG <= 0) -> (0 <= Int32.toInt aAS /\ Int32.toInt aAS <= 65535) -> (∀ k : Nat, 0 <= Int32.toInt (aA5 k) /\ Int32.toInt (aA5 k) <= 65535) -> post r xM xG aAS aBX aA5) (hK25 : ∀ (x1 : Int32) (x2 : Int32) (x3 : Int32) (bL : Int32) (bY : Int32) (dO : Int32) (sW : Nat -> Int32) (sH : Nat -> Int32), (0 <= Int32.toInt x1 /\ Int32.toInt x1 <= 8) -> (0 <= Int32.toInt x2 /\ Int32.toInt x2 <= 255) -> (1 <= Int32.toInt x3 /\ Int32.toInt x3 <= 256) -> (0 <= Int32.toInt bL /\ Int32.toInt bL <= 16) -> (0 <= Int32.toInt bY /\ Int32.toInt bY <= 0) -> (0 <= Int32.toInt dO /\ Int32.toInt dO <= 65535) -> (∀ k : Nat, 0 <= Int32.toInt (sH k) /\ Int32.toInt (sH k) <= 65535) -> (256 - Int32.toInt x3 < n25) -> K25 x1 x2 x3 bL bY dO sW sH) (x1 x3 bL bY dO : Int32) (sW sH : Nat -> Int32) (aBK : 0 <= Int32.toInt x1 /\ Int32.toInt x1 <= 8) (aCH : 1 <= Int32.toInt x3 /\ Int32.toInt x3 <= 255) (yJ : 0 <= Int32.toInt bL /\ Int32.toInt bL <= 16) (yG : 0 <= Int32.toInt bY /\ Int32.toInt bY <= 0) (aAH : 0 <= Int32.toInt dO /\ Int32.toInt dO <= 65535) (zY : ∀ k : Nat, 0 <= Int32.toInt (sH k) /\ Int32.toInt (sH k) <= 65535) (hn25 : 256 - Int32.toInt x3 <= n25) : ws_X10_birds_80 post K25 bT aG qG m_x gR pW qR nG oO pJ x1 x3 bL bY dO sW sH := by
  exact ts_X10_birds_82 bT aG qG m_x gR pW qR nG oO pJ xJ vZ xU xV aAW xK yR zM xT yF yD xZ hc0 hc1 hpost hK25 x1 x3 x3 bL bY dO sW sH aBK (by omega) aCH yJ yG aAH zY hn25
set_option maxHeartbeats 8000000 in
set_option maxRecDepth 200000 in
theorem ts_X10_birds_25 {post : Int32 -> Int32 -> Int32 -> Int32 -> (Nat -> Int32) -> (Nat -> Int32) -> Prop} {SB : Int} {next : Int32 -> Int32 -> Int32 -> Int32 -> Int32 -> Int32 -> (Nat -> Int32) -> (Nat -> Int32) -> Prop} {n25 : Int} (bT aG : Int32) (qG m_x gR pW qR nG oO pJ : Nat -> Int32) (xJ : 0 <= Int32.toInt bT /\ Int32.toInt bT <= 16) (vZ : 0 <= Int32.toInt aG /\ Int32.toInt aG <= 8) (xU : ∀ k : Nat, k = 17 -> -1 <= Int32.toInt (qG k) /\ Int32.toInt (qG k) <= SB) (xV : ∀ k : Nat, k = 19 -> 0 <= Int32.toInt (qG k) /\ Int32.toInt (qG k) <= 9) (aAW : ∀ k : Nat, 0 <= Int32.toInt (m_x k) /\ Int32.toInt (m_x k) <= 99) (xK : ∀ k : Nat, 0 <= Int32.toInt (gR k) /\ Int32.toInt (gR k) <= 99) (yR : ∀ k : Nat, 0 <= Int32.toInt (pW k) /\ Int32.toInt (pW k) <= 9) (zM : ∀ k : Nat, 0 <= Int32.toInt (qR k) /\ Int32.toInt (qR k) <= 9) (xT : ∀ k : Nat, 0 <= Int32.toInt (nG k) /\ Int32.toInt (nG k) <= 99) (yF : ∀ k : Nat, 0 <= Int32.toInt (oO k) /\ Int32.toInt (oO k) <= 99) (yD : ∀ k : Nat, k = 4 -> 1 <= Int32.toInt (pJ k) /\ Int32.toInt (pJ k) <= 30) (xZ : ∀ k : Nat, k = 3 -> 0 <= Int32.toInt (pJ k) /\ Int32.toInt (pJ k) <= 9) (hc0 : -1 <= SB /\ SB <= 7) (hc1 : (Int32.toInt aG <= 0 /\ SB = 0) \/ (1 <= Int32.toInt aG /\ SB = Int32.toInt aG - 1)) (hpost : ∀ (r : Int32) (xM : Int32) (xG : Int32) (aAS : Int32) (aBX : Nat -> Int32) (aA5 : Nat -> Int32), (0 <= Int32.toInt xM /\ Int32.toInt xM <= 16) -> (0 <= Int32.toInt xG /\ Int32.toInt xG <= 0) -> (0 <= Int32.toInt aAS /\ Int32.toInt aAS <= 65535) -> (∀ k : Nat, 0 <= Int32.toInt (aA5 k) /\ Int32.toInt (aA5 k) <= 65535) -> post r xM xG aAS aBX aA5) (hKn : ∀ (x1 : Int32) (x2 : Int32) (x3 : Int32) (bL : Int32) (bY : Int32) (dO : Int32) (sW : Nat -> Int32) (sH : Nat -> Int32), (0 <= Int32.toInt x1 /\ Int32.toInt x1 <= 8) -> (0 <= Int32.toInt x2 /\ Int32.toInt x2 <= 255) -> (1 <= Int32.toInt x3 /\ Int32.toInt x3 <= 256) -> (0 <= Int32.toInt bL /\ Int32.toInt bL <= 16) -> (0 <= Int32.toInt bY /\ Int32.toInt bY <= 0) -> (0 <= Int32.toInt dO /\ Int32.toInt dO <= 65535) -> (∀ k : Nat, 0 <= Int32.toInt (sH k) /\ Int32.toInt (sH k) <= 65535) -> (256 - Int32.toInt x3 < n25) -> next x1 x2 x3 bL bY dO sW sH) (x1 x2 x3 bL bY dO : Int32) (sW sH : Nat -> Int32) (aBK : 0 <= Int32.toInt x1 /\ Int32.toInt x1 <= 8) (aBN : 0 <= Int32.toInt x2 /\ Int32.toInt x2 <= 255) (aCH : 1 <= Int32.toInt x3 /\ Int32.toInt x3 <= 256) (yJ : 0 <= Int32.toInt bL /\ Int32.toInt bL <= 16) (yG : 0 <= Int32.toInt bY /\ Int32.toInt bY <= 0) (aAH : 0 <= Int32.toInt dO /\ Int32.toInt dO <= 65535) (zY : ∀ k : Nat, 0 <= Int32.toInt (sH k) /\ Int32.toInt (sH k) <= 65535) (hn25 : 256 - Int32.toInt x3 <= n25) : ws_X10_birds_25 post next bT aG qG m_x gR pW qR nG oO pJ x1 x2 x3 bL bY dO sW sH := by
  have l0 := aE0
  have l1 := aEc
  have l2 := aKH
  have l3 := li_16
  have l4 := aJ8
  have l5 := li_63
  have l6 := aJ9
  intro v3 ev3
  have f4 := aDv 8 256 aG (by decide) (by omega)
  have hv3 := congrArg Int32.toInt ev3
  have f6 : Int32.toInt (v3 - 1) = Int32.toInt v3 - Int32.toInt (1 : Int32) := aCA _ _ (by omega)
  refine And.intro (fun c5 => ?_) (fun c5 => ?_)
  · skip
    have c5 := (aAd _ _).mp c5
    refine And.intro (aBZ (by omega)) ?_
    intro v7 ev7
    have f8 : Int32.toInt (0 + 1) = Int32.toInt (0 : Int32) + Int32.toInt (1 : Int32) := aAD _ _ (by omega)
    rw [<- ev7] at f8
    refine aSL aBN vZ zY (fun r9 h_r9 => ?_)
    intro v10 ev10
    have f12 := aBx dO (r9 ^^^ (-1)) (by omega)
    have hv10 := congrArg Int32.toInt ev10
    refine And.intro (aBZ (by omega)) ?_
    intro v13 ev13
    have f14 : Int32.toInt (v7 + 1) = Int32.toInt v7 + Int32.toInt (1 : Int32) := aAD _ _ (by omega)
    rw [<- ev13] at f14
    refine aSL aBN vZ zY (fun r15 h_r15 => ?_)
    intro v16 ev16
    have f18 := aBx dO (r15 ^^^ (-1)) (by omega)
    have hv16 := congrArg Int32.toInt ev16
    intro v19 ev19
    have hv19 := congrArg Int32.toInt ev19
    refine aNU (by omega) xJ yR (fun r21 => ?_)
    exact hpost _ _ _ _ _ _ (by omega) yG aAH zY
  · skip
    have c5 := mt (aAd _ _).mpr c5
    intro v22 ev22
    intro v23 ev23
    have f25 := aAQ v22 1431655765 (by omega)
    have f24 : Int32.toInt (x3 - (v22 &&& 1431655765)) = Int32.toInt x3 - Int32.toInt (v22 &&& 1431655765) := aCA _ _ (by omega)
    rw [<- ev23] at f24
    intro v26 ev26
    have f27 := aAQ v23 858993459 (by omega)
    have hv26 := congrArg Int32.toInt ev26
    intro v28 ev28
    intro v29 ev29
    have f31 := aAQ v28 858993459 (by omega)
    have f30 : Int32.toInt (v26 + (v28 &&& 858993459)) = Int32.toInt v26 + Int32.toInt (v28 &&& 858993459) := aAD _ _ (by omega)
    rw [<- ev29] at f30
    intro v32 ev32
    have hv32 := congrArg Int32.toInt ev32
    intro v34 ev34
    have f35 := aAQ v32 252645135 (by omega)
    have hv34 := congrArg Int32.toInt ev34
    intro v36 ev36
    have hv36 := congrArg Int32.toInt ev36
    intro v38 ev38
    have hv38 := congrArg Int32.toInt ev38
    have f41 := aAQ v38 63 (by omega)
    refine And.intro (fun c40 => ?_) (fun c40 => ?_)
    · skip
      have c40 := (aAO _ _).mp c40
      refine aSL (by omega) vZ zY (fun r42 h_r42 => ?_)
      intro v43 ev43
      have f45 := aBx dO (r42 ^^^ (-1)) (by omega)
      have hv43 := congrArg Int32.toInt ev43
      intro v46 ev46
      have hv46 := congrArg Int32.toInt ev46
      refine aNU (by omega) xJ yR (fun r48 => ?_)
      refine aSL aBN vZ zY (fun r49 h_r49 => ?_)
      intro v50 ev50
      have f52 := aBx dO (r49 ^^^ (-1)) (by omega)
      have hv50 := congrArg Int32.toInt ev50
      intro v53 ev53
      have hv53 := congrArg Int32.toInt ev53
      refine aNU (by omega) xJ yR (fun r54 => ?_)
      intro v55 ev55
      have hv55 := congrArg Int32.toInt ev55
      have f58 := aAT v55
      refine And.intro (fun c57 => ?_) (fun c57 => ?_)
      · skip
        have c57 := (aAd _ _).mp c57
        exact ts_X10_birds_80 bT aG qG m_x gR pW qR nG oO pJ xJ vZ xU xV aAW xK yR zM xT yF yD xZ hc0 hc1 hpost hKn x1 x3 bL bY dO sW sH aBK (by omega) yJ yG aAH zY hn25
      · skip
        have c57 := mt (aAd _ _).mpr c57
        refine And.intro (fun c59 => ?_) (fun c59 => ?_)
        · skip
          have c59 := mt (zJ _ _).mpr c59
          exact ts_X10_birds_82 bT aG qG m_x gR pW qR nG oO pJ xJ vZ xU xV aAW xK yR zM xT yF yD xZ hc0 hc1 hpost hKn x1 x2 x3 bL bY dO sW sH aBK aBN (by omega) yJ yG aAH zY hn25
        · skip
          have c59 := (zJ _ _).mp c59
          intro v60 ev60
          intro v61 ev61
          have f63 := aAQ v60 1431655765 (by omega)
          have f62 : Int32.toInt (x2 - (v60 &&& 1431655765)) = Int32.toInt x2 - Int32.toInt (v60 &&& 1431655765) := aCA _ _ (by omega)
          rw [<- ev61] at f62
          intro v64 ev64
          have f65 := aAQ v61 858993459 (by omega)
          have hv64 := congrArg Int32.toInt ev64
          intro v66 ev66
          intro v67 ev67
          have f69 := aAQ v66 858993459 (by omega)
          have f68 : Int32.toInt (v64 + (v66 &&& 858993459)) = Int32.toInt v64 + Int32.toInt (v66 &&& 858993459) := aAD _ _ (by omega)
          rw [<- ev67] at f68
          intro v70 ev70
          have hv70 := congrArg Int32.toInt ev70
          intro v72 ev72
          have f73 := aAQ v70 252645135 (by omega)
          have hv72 := congrArg Int32.toInt ev72
          intro v74 ev74
          have hv74 := congrArg Int32.toInt ev74
          intro v76 ev76
          have hv76 := congrArg Int32.toInt ev76
          have f79 := aAQ v76 63 (by omega)
          refine And.intro (fun c78 => ?_) (fun c78 => ?_)
          · skip
            have c78 := (aAO _ _).mp c78
            exact ts_X10_birds_82 bT aG qG m_x gR pW qR nG oO pJ xJ vZ xU xV aAW xK yR zM xT yF yD xZ hc0 hc1 hpost hKn x1 x2 x3 bL bY dO sW sH aBK aBN (by omega) yJ yG aAH zY hn25
          · skip
            have c78 := mt (aAO _ _).mpr c78
            exact ts_X10_birds_80 bT aG qG m_x gR pW qR nG oO pJ xJ vZ xU xV aAW xK yR zM xT yF yD xZ hc0 hc1 hpost hKn x1 x3 bL bY dO sW sH aBK (by omega) yJ yG aAH zY hn25
    · skip
      have c40 := mt (aAO _ _).mpr c40
      exact ts_X10_birds_82 bT aG qG m_x gR pW qR nG oO pJ xJ vZ xU xV aAW xK yR zM xT yF yD xZ hc0 hc1 hpost hKn x1 x2 x3 bL bY dO sW sH aBK aBN (by omega) yJ yG aAH zY hn25
set_option maxHeartbeats 8000000 in
set_option maxRecDepth 200000 in
theorem tb_X10_birds_25 {post : Int32 -> Int32 -> Int32 -> Int32 -> (Nat -> Int32) -> (Nat -> Int32) -> Prop} {SB : Int} (bT aG : Int32) (qG m_x gR pW qR nG oO pJ : Nat -> Int32) (xJ : 0 <= Int32.toInt bT /\ Int32.toInt bT <= 16) (vZ : 0 <= Int32.toInt aG /\ Int32.toInt aG <= 8) (xU : ∀ k : Nat, k = 17 -> -1 <= Int32.toInt (qG k) /\ Int32.toInt (qG k) <= SB) (xV : ∀ k : Nat, k = 19 -> 0 <= Int32.toInt (qG k) /\ Int32.toInt (qG k) <= 9) (aAW : ∀ k : Nat, 0 <= Int32.toInt (m_x k) /\ Int32.toInt (m_x k) <= 99) (xK : ∀ k : Nat, 0 <= Int32.toInt (gR k) /\ Int32.toInt (gR k) <= 99) (yR : ∀ k : Nat, 0 <= Int32.toInt (pW k) /\ Int32.toInt (pW k) <= 9) (zM : ∀ k : Nat, 0 <= Int32.toInt (qR k) /\ Int32.toInt (qR k) <= 9) (xT : ∀ k : Nat, 0 <= Int32.toInt (nG k) /\ Int32.toInt (nG k) <= 99) (yF : ∀ k : Nat, 0 <= Int32.toInt (oO k) /\ Int32.toInt (oO k) <= 99) (yD : ∀ k : Nat, k = 4 -> 1 <= Int32.toInt (pJ k) /\ Int32.toInt (pJ k) <= 30) (xZ : ∀ k : Nat, k = 3 -> 0 <= Int32.toInt (pJ k) /\ Int32.toInt (pJ k) <= 9) (hc0 : -1 <= SB /\ SB <= 7) (hc1 : (Int32.toInt aG <= 0 /\ SB = 0) \/ (1 <= Int32.toInt aG /\ SB = Int32.toInt aG - 1)) (hpost : ∀ (r : Int32) (xM : Int32) (xG : Int32) (aAS : Int32) (aBX : Nat -> Int32) (aA5 : Nat -> Int32), (0 <= Int32.toInt xM /\ Int32.toInt xM <= 16) -> (0 <= Int32.toInt xG /\ Int32.toInt xG <= 0) -> (0 <= Int32.toInt aAS /\ Int32.toInt aAS <= 65535) -> (∀ k : Nat, 0 <= Int32.toInt (aA5 k) /\ Int32.toInt (aA5 k) <= 65535) -> post r xM xG aAS aBX aA5) : ∀ (n : Nat) (x1 x2 x3 bL bY dO : Int32) (sW sH : Nat -> Int32), (0 <= Int32.toInt x1 /\ Int32.toInt x1 <= 8) -> (0 <= Int32.toInt x2 /\ Int32.toInt x2 <= 255) -> (1 <= Int32.toInt x3 /\ Int32.toInt x3 <= 256) -> (0 <= Int32.toInt bL /\ Int32.toInt bL <= 16) -> (0 <= Int32.toInt bY /\ Int32.toInt bY <= 0) -> (0 <= Int32.toInt dO /\ Int32.toInt dO <= 65535) -> (∀ k : Nat, 0 <= Int32.toInt (sH k) /\ Int32.toInt (sH k) <= 65535) -> (256 - Int32.toInt x3 < (n : Int)) -> wb_X10_birds_25 post bT aG qG m_x gR pW qR nG oO pJ n x1 x2 x3 bL bY dO sW sH := by
  intro n
  induction n with
  | zero =>
    intro x1 x2 x3 bL bY dO sW sH aBK aBN aCH yJ yG aAH zY hm
    exfalso; omega
  | succ n ih =>
    intro x1 x2 x3 bL bY dO sW sH aBK aBN aCH yJ yG aAH zY hm
    exact ts_X10_birds_25 bT aG qG m_x gR pW qR nG oO pJ xJ vZ xU xV aAW xK yR zM xT yF yD xZ hc0 hc1 hpost ih x1 x2 x3 bL bY dO sW sH aBK aBN aCH yJ yG aAH zY (by omega)
set_option maxHeartbeats 8000000 in
set_option maxRecDepth 200000 in
theorem t_X10_birds {post : Int32 -> Int32 -> Int32 -> Int32 -> (Nat -> Int32) -> (Nat -> Int32) -> Prop} {SB : Int} {p0 bT aG bL bY dO : Int32} {qG m_x gR pW qR nG oO pJ sW sH : Nat -> Int32} (xJ : 0 <= Int32.toInt bT /\ Int32.toInt bT <= 16) (vZ : 0 <= Int32.toInt aG /\ Int32.toInt aG <= 8) (yJ : 0 <= Int32.toInt bL /\ Int32.toInt bL <= 16) (yG : 0 <= Int32.toInt bY /\ Int32.toInt bY <= 1) (aAH : 0 <= Int32.toInt dO /\ Int32.toInt dO <= 65535) (xU : ∀ k : Nat, k = 17 -> -1 <= Int32.toInt (qG k) /\ Int32.toInt (qG k) <= SB) (xV : ∀ k : Nat, k = 19 -> 0 <= Int32.toInt (qG k) /\ Int32.toInt (qG k) <= 9) (aAW : ∀ k : Nat, 0 <= Int32.toInt (m_x k) /\ Int32.toInt (m_x k) <= 99) (xK : ∀ k : Nat, 0 <= Int32.toInt (gR k) /\ Int32.toInt (gR k) <= 99) (yR : ∀ k : Nat, 0 <= Int32.toInt (pW k) /\ Int32.toInt (pW k) <= 9) (zM : ∀ k : Nat, 0 <= Int32.toInt (qR k) /\ Int32.toInt (qR k) <= 9) (xT : ∀ k : Nat, 0 <= Int32.toInt (nG k) /\ Int32.toInt (nG k) <= 99) (yF : ∀ k : Nat, 0 <= Int32.toInt (oO k) /\ Int32.toInt (oO k) <= 99) (yD : ∀ k : Nat, k = 4 -> 1 <= Int32.toInt (pJ k) /\ Int32.toInt (pJ k) <= 30) (xZ : ∀ k : Nat, k = 3 -> 0 <= Int32.toInt (pJ k) /\ Int32.toInt (pJ k) <= 9) (zY : ∀ k : Nat, 0 <= Int32.toInt (sH k) /\ Int32.toInt (sH k) <= 65535) (hc0 : -1 <= SB /\ SB <= 7) (hc1 : (Int32.toInt aG <= 0 /\ SB = 0) \/ (1 <= Int32.toInt aG /\ SB = Int32.toInt aG - 1)) (hpost : ∀ (r : Int32) (xM : Int32) (xG : Int32) (aAS : Int32) (aBX : Nat -> Int32) (aA5 : Nat -> Int32), (0 <= Int32.toInt xM /\ Int32.toInt xM <= 16) -> (0 <= Int32.toInt xG /\ Int32.toInt xG <= 0) -> (0 <= Int32.toInt aAS /\ Int32.toInt aAS <= 65535) -> (∀ k : Nat, 0 <= Int32.toInt (aA5 k) /\ Int32.toInt (aA5 k) <= 65535) -> post r xM xG aAS aBX aA5) : wp_X10_birds post p0 bT aG bL bY dO qG m_x gR pW qR nG oO pJ sW sH := by
  have l0 := aE0
  have l1 := aEc
  have l2 := li_18
  have l3 := li_8
  have f81 := aAT p0
  refine And.intro (fun c80 => ?_) (fun c80 => ?_)
  · skip
    have c80 := (aAd _ _).mp c80
    refine And.intro (fun h9 => absurd h9 (by decide)) (fun _ => ?_)
    exact hpost _ _ _ _ _ _ yJ (by omega) aAH zY
  · skip
    have c80 := mt (aAd _ _).mpr c80
    refine And.intro (fun c82 => ?_) (fun c82 => ?_)
    · skip
      have c82 := (aAd _ _).mp c82
      refine And.intro (fun h9 => absurd h9 (by decide)) (fun _ => ?_)
      exact hpost _ _ _ _ _ _ yJ (by omega) aAH zY
    · skip
      have c82 := mt (aAd _ _).mpr c82
      refine And.intro (fun _ => ?_) (fun h9 => absurd h9 (by decide))
      intro v83 ev83
      have hv83 := congrArg Int32.toInt ev83
      refine aLb xJ vZ aAH xU xV aAW xK zM xT yF yD xZ zY (by omega) (by omega) (fun m_wanted_85 m_hand_86 h_m_wanted_85 h_m_hand_86 => ?_)
      exact ⟨257, tb_X10_birds_25 bT aG qG m_x gR pW qR nG oO pJ xJ vZ xU xV aAW xK yR zM xT yF yD xZ hc0 hc1 hpost _ p0 0 1 bL 0 m_wanted_85 sW m_hand_86 (by omega) (by omega) (by omega) yJ (by omega) h_m_wanted_85 h_m_hand_86 (by omega)⟩
set_option maxHeartbeats 8000000 in
set_option maxRecDepth 200000 in
theorem ts_X10_next_71 {post : Int32 -> Int32 -> Int32 -> Int32 -> (Nat -> Int32) -> (Nat -> Int32) -> Prop} {SB : Int} {K28 : Int32 -> Int32 -> Int32 -> Int32 -> Int32 -> Int32 -> (Nat -> Int32) -> (Nat -> Int32) -> Prop} {n28 : Int} (bT aG : Int32) (qG m_x gR pW qR nG oO pJ : Nat -> Int32) (xJ : 0 <= Int32.toInt bT /\ Int32.toInt bT <= 16) (vZ : 0 <= Int32.toInt aG /\ Int32.toInt aG <= 8) (xU : ∀ k : Nat, k = 17 -> -1 <= Int32.toInt (qG k) /\ Int32.toInt (qG k) <= SB) (xV : ∀ k : Nat, k = 19 -> 0 <= Int32.toInt (qG k) /\ Int32.toInt (qG k) <= 9) (aAW : ∀ k : Nat, 0 <= Int32.toInt (m_x k) /\ Int32.toInt (m_x k) <= 99) (xK : ∀ k : Nat, 0 <= Int32.toInt (gR k) /\ Int32.toInt (gR k) <= 99) (yR : ∀ k : Nat, 0 <= Int32.toInt (pW k) /\ Int32.toInt (pW k) <= 9) (zM : ∀ k : Nat, 0 <= Int32.toInt (qR k) /\ Int32.toInt (qR k) <= 9) (xT : ∀ k : Nat, 0 <= Int32.toInt (nG k) /\ Int32.toInt (nG k) <= 99) (yF : ∀ k : Nat, 0 <= Int32.toInt (oO k) /\ Int32.toInt (oO k) <= 99) (yD : ∀ k : Nat, k = 4 -> 1 <= Int32.toInt (pJ k) /\ Int32.toInt (pJ k) <= 30) (xZ : ∀ k : Nat, k = 3 -> 0 <= Int32.toInt (pJ k) /\ Int32.toInt (pJ k) <= 9) (hc0 : -1 <= SB /\ SB <= 7) (hc1 : (Int32.toInt aG <= 0 /\ SB = 0) \/ (1 <= Int32.toInt aG /\ SB = Int32.toInt aG - 1)) (hpost : ∀ (r : Int32) (xM : Int32) (xG : Int32) (aAS : Int32) (aBX : Nat -> Int32) (aA5 : Nat -> Int32), (-2 <= Int32.toInt r /\ Int32.toInt r <= 7) -> (0 <= Int32.toInt xM /\ Int32.toInt xM <= 16) -> (0 <= Int32.toInt xG /\ Int32.toInt xG <= 0) -> (0 <= Int32.toInt aAS /\ Int32.toInt aAS <= 65535) -> (∀ k : Nat, 0 <= Int32.toInt (aA5 k) /\ Int32.toInt (aA5 k) <= 65535) -> post r xM xG aAS aBX aA5) (hK28 : ∀ (x1 : Int32) (x2 : Int32) (x3 : Int32) (bL : Int32) (bY : Int32) (dO : Int32) (sW : Nat -> Int32) (sH : Nat -> Int32), (0 <= Int32.toInt x1 /\ Int32.toInt x1 <= 255) -> (-2 <= Int32.toInt x2 /\ Int32.toInt x2 <= 7) -> (0 <= Int32.toInt x3 /\ Int32.toInt x3 <= 8) -> (0 <= Int32.toInt bL /\ Int32.toInt bL <= 16) -> (0 <= Int32.toInt bY /\ Int32.toInt bY <= 0) -> (0 <= Int32.toInt dO /\ Int32.toInt dO <= 65535) -> (∀ k : Nat, 0 <= Int32.toInt (sH k) /\ Int32.toInt (sH k) <= 65535) -> (8 - Int32.toInt x3 < n28) -> K28 x1 x2 x3 bL bY dO sW sH) (x1 x2 x3 bL bY dO : Int32) (sW sH : Nat -> Int32) (aBK : 0 <= Int32.toInt x1 /\ Int32.toInt x1 <= 255) (aBN : -2 <= Int32.toInt x2 /\ Int32.toInt x2 <= 7) (aCH : 0 <= Int32.toInt x3 /\ Int32.toInt x3 <= 7) (yJ : 0 <= Int32.toInt bL /\ Int32.toInt bL <= 16) (yG : 0 <= Int32.toInt bY /\ Int32.toInt bY <= 0) (aAH : 0 <= Int32.toInt dO /\ Int32.toInt dO <= 65535) (zY : ∀ k : Nat, 0 <= Int32.toInt (sH k) /\ Int32.toInt (sH k) <= 65535) (hn28 : 8 - Int32.toInt x3 <= n28) : ws_X10_next_71 post K28 bT aG qG m_x gR pW qR nG oO pJ x1 x2 x3 bL bY dO sW sH := by
  have l0 := aEc
  intro v1 ev1
  have f2 : Int32.toInt (x3 + 1) = Int32.toInt x3 + Int32.toInt (1 : Int32) := aAD _ _ (by omega)
  rw [<- ev1] at f2
  exact hK28 x1 x2 v1 bL bY dO sW sH aBK aBN (by omega) yJ yG aAH zY (by omega)
set_option maxHeartbeats 8000000 in
set_option maxRecDepth 200000 in
theorem ts_X10_next_69 {post : Int32 -> Int32 -> Int32 -> Int32 -> (Nat -> Int32) -> (Nat -> Int32) -> Prop} {SB : Int} {K28 : Int32 -> Int32 -> Int32 -> Int32 -> Int32 -> Int32 -> (Nat -> Int32) -> (Nat -> Int32) -> Prop} {n28 : Int} (bT aG : Int32) (qG m_x gR pW qR nG oO pJ : Nat -> Int32) (xJ : 0 <= Int32.toInt bT /\ Int32.toInt bT <= 16) (vZ : 0 <= Int32.toInt aG /\ Int32.toInt aG <= 8) (xU : ∀ k : Nat, k = 17 -> -1 <= Int32.toInt (qG k) /\ Int32.toInt (qG k) <= SB) (xV : ∀ k : Nat, k = 19 -> 0 <= Int32.toInt (qG k) /\ Int32.toInt (qG k) <= 9) (aAW : ∀ k : Nat, 0 <= Int32.toInt (m_x k) /\ Int32.toInt (m_x k) <= 99) (xK : ∀ k : Nat, 0 <= Int32.toInt (gR k) /\ Int32.toInt (gR k) <= 99) (yR : ∀ k : Nat, 0 <= Int32.toInt (pW k) /\ Int32.toInt (pW k) <= 9) (zM : ∀ k : Nat, 0 <= Int32.toInt (qR k) /\ Int32.toInt (qR k) <= 9) (xT : ∀ k : Nat, 0 <= Int32.toInt (nG k) /\ Int32.toInt (nG k) <= 99) (yF : ∀ k : Nat, 0 <= Int32.toInt (oO k) /\ Int32.toInt (oO k) <= 99) (yD : ∀ k : Nat, k = 4 -> 1 <= Int32.toInt (pJ k) /\ Int32.toInt (pJ k) <= 30) (xZ : ∀ k : Nat, k = 3 -> 0 <= Int32.toInt (pJ k) /\ Int32.toInt (pJ k) <= 9) (hc0 : -1 <= SB /\ SB <= 7) (hc1 : (Int32.toInt aG <= 0 /\ SB = 0) \/ (1 <= Int32.toInt aG /\ SB = Int32.toInt aG - 1)) (hpost : ∀ (r : Int32) (xM : Int32) (xG : Int32) (aAS : Int32) (aBX : Nat -> Int32) (aA5 : Nat -> Int32), (-2 <= Int32.toInt r /\ Int32.toInt r <= 7) -> (0 <= Int32.toInt xM /\ Int32.toInt xM <= 16) -> (0 <= Int32.toInt xG /\ Int32.toInt xG <= 0) -> (0 <= Int32.toInt aAS /\ Int32.toInt aAS <= 65535) -> (∀ k : Nat, 0 <= Int32.toInt (aA5 k) /\ Int32.toInt (aA5 k) <= 65535) -> post r xM xG aAS aBX aA5) (hK28 : ∀ (x1 : Int32) (x2 : Int32) (x3 : Int32) (bL : Int32) (bY : Int32) (dO : Int32) (sW : Nat -> Int32) (sH : Nat -> Int32), (0 <= Int32.toInt x1 /\ Int32.toInt x1 <= 255) -> (-2 <= Int32.toInt x2 /\ Int32.toInt x2 <= 7) -> (0 <= Int32.toInt x3 /\ Int32.toInt x3 <= 8) -> (0 <= Int32.toInt bL /\ Int32.toInt bL <= 16) -> (0 <= Int32.toInt bY /\ Int32.toInt bY <= 0) -> (0 <= Int32.toInt dO /\ Int32.toInt dO <= 65535) -> (∀ k : Nat, 0 <= Int32.toInt (sH k) /\ Int32.toInt (sH k) <= 65535) -> (8 - Int32.toInt x3 < n28) -> K28 x1 x2 x3 bL bY dO sW sH) (x1 x3 bL bY dO : Int32) (sW sH : Nat -> Int32) (aBK : 0 <= Int32.toInt x1 /\ Int32.toInt x1 <= 255) (aCH : 0 <= Int32.toInt x3 /\ Int32.toInt x3 <= 7) (yJ : 0 <= Int32.toInt bL /\ Int32.toInt bL <= 16) (yG : 0 <= Int32.toInt bY /\ Int32.toInt bY <= 0) (aAH : 0 <= Int32.toInt dO /\ Int32.toInt dO <= 65535) (zY : ∀ k : Nat, 0 <= Int32.toInt (sH k) /\ Int32.toInt (sH k) <= 65535) (hn28 : 8 - Int32.toInt x3 <= n28) : ws_X10_next_69 post K28 bT aG qG m_x gR pW qR nG oO pJ x1 x3 bL bY dO sW sH := by
  exact ts_X10_next_71 bT aG qG m_x gR pW qR nG oO pJ xJ vZ xU xV aAW xK yR zM xT yF yD xZ hc0 hc1 hpost hK28 x1 x3 x3 bL bY dO sW sH aBK (by omega) aCH yJ yG aAH zY hn28
set_option maxHeartbeats 8000000 in
set_option maxRecDepth 200000 in
theorem ts_X10_next_28 {post : Int32 -> Int32 -> Int32 -> Int32 -> (Nat -> Int32) -> (Nat -> Int32) -> Prop} {SB : Int} {next : Int32 -> Int32 -> Int32 -> Int32 -> Int32 -> Int32 -> (Nat -> Int32) -> (Nat -> Int32) -> Prop} {n28 : Int} (bT aG : Int32) (qG m_x gR pW qR nG oO pJ : Nat -> Int32) (xJ : 0 <= Int32.toInt bT /\ Int32.toInt bT <= 16) (vZ : 0 <= Int32.toInt aG /\ Int32.toInt aG <= 8) (xU : ∀ k : Nat, k = 17 -> -1 <= Int32.toInt (qG k) /\ Int32.toInt (qG k) <= SB) (xV : ∀ k : Nat, k = 19 -> 0 <= Int32.toInt (qG k) /\ Int32.toInt (qG k) <= 9) (aAW : ∀ k : Nat, 0 <= Int32.toInt (m_x k) /\ Int32.toInt (m_x k) <= 99) (xK : ∀ k : Nat, 0 <= Int32.toInt (gR k) /\ Int32.toInt (gR k) <= 99) (yR : ∀ k : Nat, 0 <= Int32.toInt (pW k) /\ Int32.toInt (pW k) <= 9) (zM : ∀ k : Nat, 0 <= Int32.toInt (qR k) /\ Int32.toInt (qR k) <= 9) (xT : ∀ k : Nat, 0 <= Int32.toInt (nG k) /\ Int32.toInt (nG k) <= 99) (yF : ∀ k : Nat, 0 <= Int32.toInt (oO k) /\ Int32.toInt (oO k) <= 99) (yD : ∀ k : Nat, k = 4 -> 1 <= Int32.toInt (pJ k) /\ Int32.toInt (pJ k) <= 30) (xZ : ∀ k : Nat, k = 3 -> 0 <= Int32.toInt (pJ k) /\ Int32.toInt (pJ k) <= 9) (hc0 : -1 <= SB /\ SB <= 7) (hc1 : (Int32.toInt aG <= 0 /\ SB = 0) \/ (1 <= Int32.toInt aG /\ SB = Int32.toInt aG - 1)) (hpost : ∀ (r : Int32) (xM : Int32) (xG : Int32) (aAS : Int32) (aBX : Nat -> Int32) (aA5 : Nat -> Int32), (-2 <= Int32.toInt r /\ Int32.toInt r <= 7) -> (0 <= Int32.toInt xM /\ Int32.toInt xM <= 16) -> (0 <= Int32.toInt xG /\ Int32.toInt xG <= 0) -> (0 <= Int32.toInt aAS /\ Int32.toInt aAS <= 65535) -> (∀ k : Nat, 0 <= Int32.toInt (aA5 k) /\ Int32.toInt (aA5 k) <= 65535) -> post r xM xG aAS aBX aA5) (hKn : ∀ (x1 : Int32) (x2 : Int32) (x3 : Int32) (bL : Int32) (bY : Int32) (dO : Int32) (sW : Nat -> Int32) (sH : Nat -> Int32), (0 <= Int32.toInt x1 /\ Int32.toInt x1 <= 255) -> (-2 <= Int32.toInt x2 /\ Int32.toInt x2 <= 7) -> (0 <= Int32.toInt x3 /\ Int32.toInt x3 <= 8) -> (0 <= Int32.toInt bL /\ Int32.toInt bL <= 16) -> (0 <= Int32.toInt bY /\ Int32.toInt bY <= 0) -> (0 <= Int32.toInt dO /\ Int32.toInt dO <= 65535) -> (∀ k : Nat, 0 <= Int32.toInt (sH k) /\ Int32.toInt (sH k) <= 65535) -> (8 - Int32.toInt x3 < n28) -> next x1 x2 x3 bL bY dO sW sH) (x1 x2 x3 bL bY dO : Int32) (sW sH : Nat -> Int32) (aBK : 0 <= Int32.toInt x1 /\ Int32.toInt x1 <= 255) (aBN : -2 <= Int32.toInt x2 /\ Int32.toInt x2 <= 7) (aCH : 0 <= Int32.toInt x3 /\ Int32.toInt x3 <= 8) (yJ : 0 <= Int32.toInt bL /\ Int32.toInt bL <= 16) (yG : 0 <= Int32.toInt bY /\ Int32.toInt bY <= 0) (aAH : 0 <= Int32.toInt dO /\ Int32.toInt dO <= 65535) (zY : ∀ k : Nat, 0 <= Int32.toInt (sH k) /\ Int32.toInt (sH k) <= 65535) (hn28 : 8 - Int32.toInt x3 <= n28) : ws_X10_next_28 post next bT aG qG m_x gR pW qR nG oO pJ x1 x2 x3 bL bY dO sW sH := by
  have l0 := li_m2
  have l1 := aE0
  have l2 := aEc
  have l3 := li_16
  refine And.intro (fun c3 => ?_) (fun c3 => ?_)
  · skip
    have c3 := (aAO _ _).mp c3
    refine And.intro (fun c4 => ?_) (fun c4 => ?_)
    · skip
      have c4 := (aAO _ _).mp c4
      intro v5 ev5
      have f7 := aDv 7 128 x2 (by decide) (by omega)
      have f6 := ti_or 8 256 x1 (1 <<< (x2 &&& 31)) (by decide) (by omega) (by omega)
      have hv5 := congrArg Int32.toInt ev5
      refine aSL (by omega) vZ zY (fun r8 h_r8 => ?_)
      intro v9 ev9
      have f11 := aBx dO (r8 ^^^ (-1)) (by omega)
      have hv9 := congrArg Int32.toInt ev9
      intro v12 ev12
      have hv12 := congrArg Int32.toInt ev12
      refine aNU (by omega) xJ yR (fun r14 => ?_)
      refine And.intro (aBZ (by omega)) ?_
      intro v15 ev15
      have f16 : Int32.toInt (0 + 1) = Int32.toInt (0 : Int32) + Int32.toInt (1 : Int32) := aAD _ _ (by omega)
      rw [<- ev15] at f16
      refine aSL aBK vZ zY (fun r17 h_r17 => ?_)
      intro v18 ev18
      have f20 := aBx dO (r17 ^^^ (-1)) (by omega)
      have hv18 := congrArg Int32.toInt ev18
      intro v21 ev21
      have hv21 := congrArg Int32.toInt ev21
      refine aNU (by omega) xJ yR (fun r22 => ?_)
      refine And.intro (aBZ (by omega)) ?_
      intro v23 ev23
      have f24 : Int32.toInt (v15 + 1) = Int32.toInt v15 + Int32.toInt (1 : Int32) := aAD _ _ (by omega)
      rw [<- ev23] at f24
      exact hpost _ _ _ _ _ _ aBN (by omega) yG aAH zY
    · skip
      have c4 := mt (aAO _ _).mpr c4
      exact hpost _ _ _ _ _ _ (by omega) yJ yG aAH zY
  · skip
    have c3 := mt (aAO _ _).mpr c3
    intro v25 ev25
    have f26 := aRJ x1 x3 (by omega)
    have hv25 := congrArg Int32.toInt ev25
    intro v27 ev27
    have f28 := aAQ v25 1 (by omega)
    have f29 := aBx v25 1 (by omega)
    have hv27 := congrArg Int32.toInt ev27
    refine And.intro (fun c30 => ?_) (fun c30 => ?_)
    · skip
      have c30 := mt (zJ _ _).mpr c30
      refine And.intro (fun h9 => absurd h9 (by decide)) (fun _ => ?_)
      refine And.intro (fun c31 => ?_) (fun c31 => ?_)
      · skip
        have c31 := (aAd _ _).mp c31
        exact ts_X10_next_69 bT aG qG m_x gR pW qR nG oO pJ xJ vZ xU xV aAW xK yR zM xT yF yD xZ hc0 hc1 hpost hKn x1 x3 bL bY dO sW sH aBK (by omega) yJ yG aAH zY hn28
      · skip
        have c31 := mt (aAd _ _).mpr c31
        intro v32 ev32
        have f34 := aDv 7 128 x3 (by decide) (by omega)
        have f33 := ti_or 8 256 x1 (1 <<< (x3 &&& 31)) (by decide) (by omega) (by omega)
        have hv32 := congrArg Int32.toInt ev32
        refine aSL (by omega) vZ zY (fun r35 h_r35 => ?_)
        intro v36 ev36
        have f38 := aBx dO (r35 ^^^ (-1)) (by omega)
        have hv36 := congrArg Int32.toInt ev36
        intro v39 ev39
        have hv39 := congrArg Int32.toInt ev39
        refine aNU (by omega) xJ yR (fun r41 => ?_)
        intro v42 ev42
        have f44 := aDv 7 128 x2 (by decide) (by omega)
        have f43 := ti_or 8 256 x1 (1 <<< (x2 &&& 31)) (by decide) (by omega) (by omega)
        have hv42 := congrArg Int32.toInt ev42
        refine aSL (by omega) vZ zY (fun r45 h_r45 => ?_)
        intro v46 ev46
        have f48 := aBx dO (r45 ^^^ (-1)) (by omega)
        have hv46 := congrArg Int32.toInt ev46
        intro v49 ev49
        have hv49 := congrArg Int32.toInt ev49
        refine aNU (by omega) xJ yR (fun r50 => ?_)
        have f52 := aAT r41
        have f53 := aAT r50
        refine And.intro (fun c51 => ?_) (fun c51 => ?_)
        · skip
          have c51 := (aAO _ _).mp c51
          exact ts_X10_next_71 bT aG qG m_x gR pW qR nG oO pJ xJ vZ xU xV aAW xK yR zM xT yF yD xZ hc0 hc1 hpost hKn x1 x2 x3 bL bY dO sW sH aBK aBN (by omega) yJ yG aAH zY hn28
        · skip
          have c51 := mt (aAO _ _).mpr c51
          exact ts_X10_next_69 bT aG qG m_x gR pW qR nG oO pJ xJ vZ xU xV aAW xK yR zM xT yF yD xZ hc0 hc1 hpost hKn x1 x3 bL bY dO sW sH aBK (by omega) yJ yG aAH zY hn28
    · skip
      have c30 := (zJ _ _).mp c30
      refine And.intro (fun _ => ?_) (fun h9 => absurd h9 (by decide))
      exact ts_X10_next_71 bT aG qG m_x gR pW qR nG oO pJ xJ vZ xU xV aAW xK yR zM xT yF yD xZ hc0 hc1 hpost hKn x1 x2 x3 bL bY dO sW sH aBK aBN (by omega) yJ yG aAH zY hn28
set_option maxHeartbeats 8000000 in
set_option maxRecDepth 200000 in
theorem tb_X10_next_28 {post : Int32 -> Int32 -> Int32 -> Int32 -> (Nat -> Int32) -> (Nat -> Int32) -> Prop} {SB : Int} (bT aG : Int32) (qG m_x gR pW qR nG oO pJ : Nat -> Int32) (xJ : 0 <= Int32.toInt bT /\ Int32.toInt bT <= 16) (vZ : 0 <= Int32.toInt aG /\ Int32.toInt aG <= 8) (xU : ∀ k : Nat, k = 17 -> -1 <= Int32.toInt (qG k) /\ Int32.toInt (qG k) <= SB) (xV : ∀ k : Nat, k = 19 -> 0 <= Int32.toInt (qG k) /\ Int32.toInt (qG k) <= 9) (aAW : ∀ k : Nat, 0 <= Int32.toInt (m_x k) /\ Int32.toInt (m_x k) <= 99) (xK : ∀ k : Nat, 0 <= Int32.toInt (gR k) /\ Int32.toInt (gR k) <= 99) (yR : ∀ k : Nat, 0 <= Int32.toInt (pW k) /\ Int32.toInt (pW k) <= 9) (zM : ∀ k : Nat, 0 <= Int32.toInt (qR k) /\ Int32.toInt (qR k) <= 9) (xT : ∀ k : Nat, 0 <= Int32.toInt (nG k) /\ Int32.toInt (nG k) <= 99) (yF : ∀ k : Nat, 0 <= Int32.toInt (oO k) /\ Int32.toInt (oO k) <= 99) (yD : ∀ k : Nat, k = 4 -> 1 <= Int32.toInt (pJ k) /\ Int32.toInt (pJ k) <= 30) (xZ : ∀ k : Nat, k = 3 -> 0 <= Int32.toInt (pJ k) /\ Int32.toInt (pJ k) <= 9) (hc0 : -1 <= SB /\ SB <= 7) (hc1 : (Int32.toInt aG <= 0 /\ SB = 0) \/ (1 <= Int32.toInt aG /\ SB = Int32.toInt aG - 1)) (hpost : ∀ (r : Int32) (xM : Int32) (xG : Int32) (aAS : Int32) (aBX : Nat -> Int32) (aA5 : Nat -> Int32), (-2 <= Int32.toInt r /\ Int32.toInt r <= 7) -> (0 <= Int32.toInt xM /\ Int32.toInt xM <= 16) -> (0 <= Int32.toInt xG /\ Int32.toInt xG <= 0) -> (0 <= Int32.toInt aAS /\ Int32.toInt aAS <= 65535) -> (∀ k : Nat, 0 <= Int32.toInt (aA5 k) /\ Int32.toInt (aA5 k) <= 65535) -> post r xM xG aAS aBX aA5) : ∀ (n : Nat) (x1 x2 x3 bL bY dO : Int32) (sW sH : Nat -> Int32), (0 <= Int32.toInt x1 /\ Int32.toInt x1 <= 255) -> (-2 <= Int32.toInt x2 /\ Int32.toInt x2 <= 7) -> (0 <= Int32.toInt x3 /\ Int32.toInt x3 <= 8) -> (0 <= Int32.toInt bL /\ Int32.toInt bL <= 16) -> (0 <= Int32.toInt bY /\ Int32.toInt bY <= 0) -> (0 <= Int32.toInt dO /\ Int32.toInt dO <= 65535) -> (∀ k : Nat, 0 <= Int32.toInt (sH k) /\ Int32.toInt (sH k) <= 65535) -> (8 - Int32.toInt x3 < (n : Int)) -> wb_X10_next_28 post bT aG qG m_x gR pW qR nG oO pJ n x1 x2 x3 bL bY dO sW sH := by
  intro n
  induction n with
  | zero =>
    intro x1 x2 x3 bL bY dO sW sH aBK aBN aCH yJ yG aAH zY hm
    exfalso; omega
  | succ n ih =>
    intro x1 x2 x3 bL bY dO sW sH aBK aBN aCH yJ yG aAH zY hm
    exact ts_X10_next_28 bT aG qG m_x gR pW qR nG oO pJ xJ vZ xU xV aAW xK yR zM xT yF yD xZ hc0 hc1 hpost ih x1 x2 x3 bL bY dO sW sH aBK aBN aCH yJ yG aAH zY (by omega)
set_option maxHeartbeats 8000000 in
set_option maxRecDepth 200000 in
theorem t_X10_next {post : Int32 -> Int32 -> Int32 -> Int32 -> (Nat -> Int32) -> (Nat -> Int32) -> Prop} {SB : Int} {p0 bT aG bL bY dO : Int32} {qG m_x gR pW qR nG oO pJ sW sH : Nat -> Int32} (xJ : 0 <= Int32.toInt bT /\ Int32.toInt bT <= 16) (vZ : 0 <= Int32.toInt aG /\ Int32.toInt aG <= 8) (yJ : 0 <= Int32.toInt bL /\ Int32.toInt bL <= 16) (yG : 0 <= Int32.toInt bY /\ Int32.toInt bY <= 1) (aAH : 0 <= Int32.toInt dO /\ Int32.toInt dO <= 65535) (xU : ∀ k : Nat, k = 17 -> -1 <= Int32.toInt (qG k) /\ Int32.toInt (qG k) <= SB) (xV : ∀ k : Nat, k = 19 -> 0 <= Int32.toInt (qG k) /\ Int32.toInt (qG k) <= 9) (aAW : ∀ k : Nat, 0 <= Int32.toInt (m_x k) /\ Int32.toInt (m_x k) <= 99) (xK : ∀ k : Nat, 0 <= Int32.toInt (gR k) /\ Int32.toInt (gR k) <= 99) (yR : ∀ k : Nat, 0 <= Int32.toInt (pW k) /\ Int32.toInt (pW k) <= 9) (zM : ∀ k : Nat, 0 <= Int32.toInt (qR k) /\ Int32.toInt (qR k) <= 9) (xT : ∀ k : Nat, 0 <= Int32.toInt (nG k) /\ Int32.toInt (nG k) <= 99) (yF : ∀ k : Nat, 0 <= Int32.toInt (oO k) /\ Int32.toInt (oO k) <= 99) (yD : ∀ k : Nat, k = 4 -> 1 <= Int32.toInt (pJ k) /\ Int32.toInt (pJ k) <= 30) (xZ : ∀ k : Nat, k = 3 -> 0 <= Int32.toInt (pJ k) /\ Int32.toInt (pJ k) <= 9) (zY : ∀ k : Nat, 0 <= Int32.toInt (sH k) /\ Int32.toInt (sH k) <= 65535) (hc0 : -1 <= SB /\ SB <= 7) (hc1 : (Int32.toInt aG <= 0 /\ SB = 0) \/ (1 <= Int32.toInt aG /\ SB = Int32.toInt aG - 1)) (hpost : ∀ (r : Int32) (xM : Int32) (xG : Int32) (aAS : Int32) (aBX : Nat -> Int32) (aA5 : Nat -> Int32), (-2 <= Int32.toInt r /\ Int32.toInt r <= 7) -> (0 <= Int32.toInt xM /\ Int32.toInt xM <= 16) -> (0 <= Int32.toInt xG /\ Int32.toInt xG <= 0) -> (0 <= Int32.toInt aAS /\ Int32.toInt aAS <= 65535) -> (∀ k : Nat, 0 <= Int32.toInt (aA5 k) /\ Int32.toInt (aA5 k) <= 65535) -> post r xM xG aAS aBX aA5) : wp_X10_next post p0 bT aG bL bY dO qG m_x gR pW qR nG oO pJ sW sH := by
  have l0 := aI2
  have l1 := li_m2
  have l2 := aE0
  have l3 := aEc
  have l4 := li_18
  intro v54 ev54
  have f55 := aDv 8 256 aG (by decide) (by omega)
  have hv54 := congrArg Int32.toInt ev54
  have f57 := aAT p0
  refine And.intro (fun c56 => ?_) (fun c56 => ?_)
  · skip
    have c56 := (aAd _ _).mp c56
    refine And.intro (fun h9 => absurd h9 (by decide)) (fun _ => ?_)
    exact hpost _ _ _ _ _ _ (by omega) yJ (by omega) aAH zY
  · skip
    have c56 := mt (aAd _ _).mpr c56
    have f59 : Int32.toInt (v54 - 1) = Int32.toInt v54 - Int32.toInt (1 : Int32) := aCA _ _ (by omega)
    refine And.intro (fun c58 => ?_) (fun c58 => ?_)
    · skip
      have c58 := (aAd _ _).mp c58
      refine And.intro (fun h9 => absurd h9 (by decide)) (fun _ => ?_)
      exact hpost _ _ _ _ _ _ (by omega) yJ (by omega) aAH zY
    · skip
      have c58 := mt (aAd _ _).mpr c58
      refine And.intro (fun _ => ?_) (fun h9 => absurd h9 (by decide))
      intro v60 ev60
      have hv60 := congrArg Int32.toInt ev60
      refine aLb xJ vZ aAH xU xV aAW xK zM xT yF yD xZ zY (by omega) (by omega) (fun m_wanted_62 m_hand_63 h_m_wanted_62 h_m_hand_63 => ?_)
      exact ⟨10, tb_X10_next_28 bT aG qG m_x gR pW qR nG oO pJ xJ vZ xU xV aAW xK yR zM xT yF yD xZ hc0 hc1 hpost _ p0 (-2) 0 bL 0 m_wanted_62 sW m_hand_63 (by omega) (by omega) (by omega) yJ (by omega) h_m_wanted_62 h_m_hand_63 (by omega)⟩
set_option maxHeartbeats 8000000 in
set_option maxRecDepth 200000 in
theorem ts_X10_layMoves_113 {post : (Nat -> Int32) -> Prop} {K2 : Int32 -> (Nat -> Int32) -> Prop} {K12 : Int32 -> Int32 -> (Nat -> Int32) -> Prop} {K58 : Int32 -> Int32 -> Int32 -> Int32 -> (Nat -> Int32) -> Prop} {n2 n12 n58 : Int} (aG : Int32) (nG pJ : Nat -> Int32) (vZ : 0 <= Int32.toInt aG /\ Int32.toInt aG <= 8) (xT : ∀ k : Nat, 0 <= Int32.toInt (nG k) /\ Int32.toInt (nG k) <= 99) (yD : ∀ k : Nat, k = 4 -> 1 <= Int32.toInt (pJ k) /\ Int32.toInt (pJ k) <= 30) (xZ : ∀ k : Nat, k = 3 -> 0 <= Int32.toInt (pJ k) /\ Int32.toInt (pJ k) <= 9) (hpost : ∀ (aCX : Nat -> Int32), (∀ k : Nat, 0 <= Int32.toInt (aCX k) /\ Int32.toInt (aCX k) <= 1000000) -> (MVT aCX nG pJ aG) -> post aCX) (hK2 : ∀ (x1 : Int32) (uE : Nat -> Int32), (0 <= Int32.toInt x1 /\ Int32.toInt x1 <= 256) -> (∀ k : Nat, 0 <= Int32.toInt (uE k) /\ Int32.toInt (uE k) <= 1000000) -> (MVa uE nG pJ aG x1) -> (256 - Int32.toInt x1 < n2) -> K2 x1 uE) (hK12 : ∀ (x1 : Int32) (x2 : Int32) (uE : Nat -> Int32), (0 <= Int32.toInt x1 /\ Int32.toInt x1 <= 255) -> (0 <= Int32.toInt x2 /\ Int32.toInt x2 <= 9) -> (∀ k : Nat, 0 <= Int32.toInt (uE k) /\ Int32.toInt (uE k) <= 1000000) -> (MVb uE nG pJ aG x1 x2) -> (LB x1 aG) -> (256 - Int32.toInt x1 <= n2) -> (9 - Int32.toInt x2 < n12) -> K12 x1 x2 uE) (hK58 : ∀ (x1 : Int32) (x2 : Int32) (x3 : Int32) (x4 : Int32) (uE : Nat -> Int32), (0 <= Int32.toInt x1 /\ Int32.toInt x1 <= 255) -> (0 <= Int32.toInt x2 /\ Int32.toInt x2 <= 8) -> (0 <= Int32.toInt x3 /\ Int32.toInt x3 <= 1000000) -> (0 <= Int32.toInt x4 /\ Int32.toInt x4 <= 8) -> (∀ k : Nat, 0 <= Int32.toInt (uE k) /\ Int32.toInt (uE k) <= 1000000) -> (MVb uE nG pJ aG x1 x2) -> (LB x1 aG) -> (VAL aG x2 x1) -> (PB uE nG pJ x1 x2 x4 x3) -> (Int32.toInt x4 <= Int32.toInt aG) -> (256 - Int32.toInt x1 <= n2) -> (9 - Int32.toInt x2 <= n12) -> (8 - Int32.toInt x4 < n58) -> K58 x1 x2 x3 x4 uE) (x1 x2 x3 x4 : Int32) (uE : Nat -> Int32) (aBK : 0 <= Int32.toInt x1 /\ Int32.toInt x1 <= 255) (aBN : 0 <= Int32.toInt x2 /\ Int32.toInt x2 <= 8) (aCH : 0 <= Int32.toInt x3 /\ Int32.toInt x3 <= 1000000) (aDO : 0 <= Int32.toInt x4 /\ Int32.toInt x4 <= 7) (aAw : ∀ k : Nat, 0 <= Int32.toInt (uE k) /\ Int32.toInt (uE k) <= 1000000) (hx0 : MVb uE nG pJ aG x1 x2) (hx1 : LB x1 aG) (hx2 : VAL aG x2 x1) (hx3 : PB1 uE nG pJ x1 x2 x4 x3) (hx4 : Int32.toInt x4 < Int32.toInt aG) (hn2 : 256 - Int32.toInt x1 <= n2) (hn12 : 9 - Int32.toInt x2 <= n12) (hn58 : 8 - Int32.toInt x4 <= n58) : ws_X10_layMoves_113 post K2 K12 K58 aG nG pJ x1 x2 x3 x4 uE := by
  have l0 := aEc
  intro v1 ev1
  have f2 : Int32.toInt (x4 + 1) = Int32.toInt x4 + Int32.toInt (1 : Int32) := aAD _ _ (by omega)
  rw [<- ev1] at f2
  exact hK58 x1 x2 x3 v1 uE aBK aBN aCH (by omega) aAw (by first | assumption | exact MVb_0 (by assumption) | exact MVb_s (by assumption) (by omega)) (by first | assumption | exact LB_of (by assumption) (by omega) (by omega) (by omega)) (by first | assumption | exact VAL_8 (by omega) | exact VAL_b (by omega) (by omega) (by assumption) (by assumption) (by assumption)) (by first | assumption | exact PB_init (by omega) | exact PB_s (by assumption) (by omega)) (by omega) hn2 hn12 (by omega)
set_option maxHeartbeats 8000000 in
set_option maxRecDepth 200000 in
theorem ts_X10_layMoves_89 {post : (Nat -> Int32) -> Prop} {K2 : Int32 -> (Nat -> Int32) -> Prop} {K12 : Int32 -> Int32 -> (Nat -> Int32) -> Prop} {K58 : Int32 -> Int32 -> Int32 -> Int32 -> (Nat -> Int32) -> Prop} {n2 n12 n58 : Int} (aG : Int32) (nG pJ : Nat -> Int32) (vZ : 0 <= Int32.toInt aG /\ Int32.toInt aG <= 8) (xT : ∀ k : Nat, 0 <= Int32.toInt (nG k) /\ Int32.toInt (nG k) <= 99) (yD : ∀ k : Nat, k = 4 -> 1 <= Int32.toInt (pJ k) /\ Int32.toInt (pJ k) <= 30) (xZ : ∀ k : Nat, k = 3 -> 0 <= Int32.toInt (pJ k) /\ Int32.toInt (pJ k) <= 9) (hpost : ∀ (aCX : Nat -> Int32), (∀ k : Nat, 0 <= Int32.toInt (aCX k) /\ Int32.toInt (aCX k) <= 1000000) -> (MVT aCX nG pJ aG) -> post aCX) (hK2 : ∀ (x1 : Int32) (uE : Nat -> Int32), (0 <= Int32.toInt x1 /\ Int32.toInt x1 <= 256) -> (∀ k : Nat, 0 <= Int32.toInt (uE k) /\ Int32.toInt (uE k) <= 1000000) -> (MVa uE nG pJ aG x1) -> (256 - Int32.toInt x1 < n2) -> K2 x1 uE) (hK12 : ∀ (x1 : Int32) (x2 : Int32) (uE : Nat -> Int32), (0 <= Int32.toInt x1 /\ Int32.toInt x1 <= 255) -> (0 <= Int32.toInt x2 /\ Int32.toInt x2 <= 9) -> (∀ k : Nat, 0 <= Int32.toInt (uE k) /\ Int32.toInt (uE k) <= 1000000) -> (MVb uE nG pJ aG x1 x2) -> (LB x1 aG) -> (256 - Int32.toInt x1 <= n2) -> (9 - Int32.toInt x2 < n12) -> K12 x1 x2 uE) (hK58 : ∀ (x1 : Int32) (x2 : Int32) (x3 : Int32) (x4 : Int32) (uE : Nat -> Int32), (0 <= Int32.toInt x1 /\ Int32.toInt x1 <= 255) -> (0 <= Int32.toInt x2 /\ Int32.toInt x2 <= 8) -> (0 <= Int32.toInt x3 /\ Int32.toInt x3 <= 1000000) -> (0 <= Int32.toInt x4 /\ Int32.toInt x4 <= 8) -> (∀ k : Nat, 0 <= Int32.toInt (uE k) /\ Int32.toInt (uE k) <= 1000000) -> (MVb uE nG pJ aG x1 x2) -> (LB x1 aG) -> (VAL aG x2 x1) -> (PB uE nG pJ x1 x2 x4 x3) -> (Int32.toInt x4 <= Int32.toInt aG) -> (256 - Int32.toInt x1 <= n2) -> (9 - Int32.toInt x2 <= n12) -> (8 - Int32.toInt x4 < n58) -> K58 x1 x2 x3 x4 uE) (x1 x2 x4 k0 k2 : Int32) (uE : Nat -> Int32) (aBK : 0 <= Int32.toInt x1 /\ Int32.toInt x1 <= 255) (aBN : 0 <= Int32.toInt x2 /\ Int32.toInt x2 <= 8) (aDO : 0 <= Int32.toInt x4 /\ Int32.toInt x4 <= 7) (h_k0 : 0 <= Int32.toInt k0 /\ Int32.toInt k0 <= 1000000) (h_k2 : -1 <= Int32.toInt k2 /\ Int32.toInt k2 <= 7) (aAw : ∀ k : Nat, 0 <= Int32.toInt (uE k) /\ Int32.toInt (uE k) <= 1000000) (hx0 : MVb uE nG pJ aG x1 x2) (hx1 : LB x1 aG) (hx2 : VAL aG x2 x1) (hx3 : PB uE nG pJ x1 x2 x4 k0) (hx4 : bt x1 (Int32.toInt x4).toNat = true) (hx5 : (Int32.toInt x2 = 8 /\ Int32.toInt k2 = -1) \/ (Int32.toInt x2 ≠ 8 /\ Int32.toInt k2 = Int32.toInt x2)) (hx6 : Int32.toInt x4 < Int32.toInt aG) (hn2 : 256 - Int32.toInt x1 <= n2) (hn12 : 9 - Int32.toInt x2 <= n12) (hn58 : 8 - Int32.toInt x4 <= n58) : ws_X10_layMoves_89 post K2 K12 K58 aG nG pJ x1 x2 x4 k0 k2 uE := by
  refine t_X10_moveOf h_k2 aDO xT yD xZ (by omega) (by omega) (fun r3 h_r3 ox4 => ?_)
  intro v5 ev5
  have f6 := aDv 7 128 x4 (by decide) (by omega)
  have hv5 := congrArg Int32.toInt ev5
  intro v7 ev7
  have f9 := aBx x1 (v5 ^^^ (-1)) (by omega)
  have hv7 := congrArg Int32.toInt ev7
  intro v10 ev10
  have f11 := ti_shl8 x4 (by omega)
  have hv10 := congrArg Int32.toInt ev10
  intro v12 ev12
  have f13 : Int32.toInt (v10 + v7) = Int32.toInt v10 + Int32.toInt v7 := aAD _ _ (by omega)
  rw [<- ev12] at f13
  refine And.intro (aBZ (by omega)) ?_
  intro v14 ev14
  have f16 := aAw v12.toNatClampNeg
  have f15 : Int32.toInt (r3 + (uE v12.toNatClampNeg)) = Int32.toInt r3 + Int32.toInt (uE v12.toNatClampNeg) := aAD _ _ (by omega)
  rw [<- ev14] at f15
  intro v17 ev17
  have f18 := ti_min k0 v14
  have hv17 := congrArg Int32.toInt ev17
  exact ts_X10_layMoves_113 aG nG pJ vZ xT yD xZ hpost hK2 hK12 hK58 x1 x2 v17 x4 uE aBK aBN (by omega) aDO aAw (by first | assumption | exact MVb_0 (by assumption) | exact MVb_s (by assumption) (by omega)) (by first | assumption | exact LB_of (by assumption) (by omega) (by omega) (by omega)) (by first | assumption | exact VAL_8 (by omega) | exact VAL_b (by omega) (by omega) (by assumption) (by assumption) (by assumption)) (by first | assumption | exact PB_skip (by assumption) (by omega) (by assumption) (by assumption) (by assumption) | exact PB_add (by assumption) (by assumption) (by assumption) (by assumption) (by omega) (by assumption) (by assumption) (by assumption) (by omega) (by assumption) (by omega) (by omega) (by omega) xT xZ) hx6 hn2 hn12 hn58
set_option maxHeartbeats 8000000 in
set_option maxRecDepth 200000 in
theorem ts_X10_layMoves_131 {post : (Nat -> Int32) -> Prop} {K2 : Int32 -> (Nat -> Int32) -> Prop} {K12 : Int32 -> Int32 -> (Nat -> Int32) -> Prop} {n2 n12 : Int} (aG : Int32) (nG pJ : Nat -> Int32) (vZ : 0 <= Int32.toInt aG /\ Int32.toInt aG <= 8) (xT : ∀ k : Nat, 0 <= Int32.toInt (nG k) /\ Int32.toInt (nG k) <= 99) (yD : ∀ k : Nat, k = 4 -> 1 <= Int32.toInt (pJ k) /\ Int32.toInt (pJ k) <= 30) (xZ : ∀ k : Nat, k = 3 -> 0 <= Int32.toInt (pJ k) /\ Int32.toInt (pJ k) <= 9) (hpost : ∀ (aCX : Nat -> Int32), (∀ k : Nat, 0 <= Int32.toInt (aCX k) /\ Int32.toInt (aCX k) <= 1000000) -> (MVT aCX nG pJ aG) -> post aCX) (hK2 : ∀ (x1 : Int32) (uE : Nat -> Int32), (0 <= Int32.toInt x1 /\ Int32.toInt x1 <= 256) -> (∀ k : Nat, 0 <= Int32.toInt (uE k) /\ Int32.toInt (uE k) <= 1000000) -> (MVa uE nG pJ aG x1) -> (256 - Int32.toInt x1 < n2) -> K2 x1 uE) (hK12 : ∀ (x1 : Int32) (x2 : Int32) (uE : Nat -> Int32), (0 <= Int32.toInt x1 /\ Int32.toInt x1 <= 255) -> (0 <= Int32.toInt x2 /\ Int32.toInt x2 <= 9) -> (∀ k : Nat, 0 <= Int32.toInt (uE k) /\ Int32.toInt (uE k) <= 1000000) -> (MVb uE nG pJ aG x1 x2) -> (LB x1 aG) -> (256 - Int32.toInt x1 <= n2) -> (9 - Int32.toInt x2 < n12) -> K12 x1 x2 uE) (x1 x2 : Int32) (uE : Nat -> Int32) (aBK : 0 <= Int32.toInt x1 /\ Int32.toInt x1 <= 255) (aBN : 0 <= Int32.toInt x2 /\ Int32.toInt x2 <= 8) (aAw : ∀ k : Nat, 0 <= Int32.toInt (uE k) /\ Int32.toInt (uE k) <= 1000000) (hx0 : MVb1 uE nG pJ aG x1 x2) (hx1 : LB x1 aG) (hn2 : 256 - Int32.toInt x1 <= n2) (hn12 : 9 - Int32.toInt x2 <= n12) : ws_X10_layMoves_131 post K2 K12 aG nG pJ x1 x2 uE := by
  have l0 := aEc
  intro v19 ev19
  have f20 : Int32.toInt (x2 + 1) = Int32.toInt x2 + Int32.toInt (1 : Int32) := aAD _ _ (by omega)
  rw [<- ev19] at f20
  exact hK12 x1 v19 uE aBK (by omega) aAw (by first | assumption | exact MVb_0 (by assumption) | exact MVb_s (by assumption) (by omega)) (by first | assumption | exact LB_of (by assumption) (by omega) (by omega) (by omega)) hn2 (by omega)
set_option maxHeartbeats 8000000 in
set_option maxRecDepth 200000 in
theorem ts_X10_layMoves_58 {post : (Nat -> Int32) -> Prop} {K2 : Int32 -> (Nat -> Int32) -> Prop} {K12 : Int32 -> Int32 -> (Nat -> Int32) -> Prop} {next : Int32 -> Int32 -> Int32 -> Int32 -> (Nat -> Int32) -> Prop} {n58 n2 n12 : Int} (aG : Int32) (nG pJ : Nat -> Int32) (vZ : 0 <= Int32.toInt aG /\ Int32.toInt aG <= 8) (xT : ∀ k : Nat, 0 <= Int32.toInt (nG k) /\ Int32.toInt (nG k) <= 99) (yD : ∀ k : Nat, k = 4 -> 1 <= Int32.toInt (pJ k) /\ Int32.toInt (pJ k) <= 30) (xZ : ∀ k : Nat, k = 3 -> 0 <= Int32.toInt (pJ k) /\ Int32.toInt (pJ k) <= 9) (hpost : ∀ (aCX : Nat -> Int32), (∀ k : Nat, 0 <= Int32.toInt (aCX k) /\ Int32.toInt (aCX k) <= 1000000) -> (MVT aCX nG pJ aG) -> post aCX) (hK2 : ∀ (x1 : Int32) (uE : Nat -> Int32), (0 <= Int32.toInt x1 /\ Int32.toInt x1 <= 256) -> (∀ k : Nat, 0 <= Int32.toInt (uE k) /\ Int32.toInt (uE k) <= 1000000) -> (MVa uE nG pJ aG x1) -> (256 - Int32.toInt x1 < n2) -> K2 x1 uE) (hK12 : ∀ (x1 : Int32) (x2 : Int32) (uE : Nat -> Int32), (0 <= Int32.toInt x1 /\ Int32.toInt x1 <= 255) -> (0 <= Int32.toInt x2 /\ Int32.toInt x2 <= 9) -> (∀ k : Nat, 0 <= Int32.toInt (uE k) /\ Int32.toInt (uE k) <= 1000000) -> (MVb uE nG pJ aG x1 x2) -> (LB x1 aG) -> (256 - Int32.toInt x1 <= n2) -> (9 - Int32.toInt x2 < n12) -> K12 x1 x2 uE) (hKn : ∀ (x1 : Int32) (x2 : Int32) (x3 : Int32) (x4 : Int32) (uE : Nat -> Int32), (0 <= Int32.toInt x1 /\ Int32.toInt x1 <= 255) -> (0 <= Int32.toInt x2 /\ Int32.toInt x2 <= 8) -> (0 <= Int32.toInt x3 /\ Int32.toInt x3 <= 1000000) -> (0 <= Int32.toInt x4 /\ Int32.toInt x4 <= 8) -> (∀ k : Nat, 0 <= Int32.toInt (uE k) /\ Int32.toInt (uE k) <= 1000000) -> (MVb uE nG pJ aG x1 x2) -> (LB x1 aG) -> (VAL aG x2 x1) -> (PB uE nG pJ x1 x2 x4 x3) -> (Int32.toInt x4 <= Int32.toInt aG) -> (256 - Int32.toInt x1 <= n2) -> (9 - Int32.toInt x2 <= n12) -> (8 - Int32.toInt x4 < n58) -> next x1 x2 x3 x4 uE) (x1 x2 x3 x4 : Int32) (uE : Nat -> Int32) (aBK : 0 <= Int32.toInt x1 /\ Int32.toInt x1 <= 255) (aBN : 0 <= Int32.toInt x2 /\ Int32.toInt x2 <= 8) (aCH : 0 <= Int32.toInt x3 /\ Int32.toInt x3 <= 1000000) (aDO : 0 <= Int32.toInt x4 /\ Int32.toInt x4 <= 8) (aAw : ∀ k : Nat, 0 <= Int32.toInt (uE k) /\ Int32.toInt (uE k) <= 1000000) (hx0 : MVb uE nG pJ aG x1 x2) (hx1 : LB x1 aG) (hx2 : VAL aG x2 x1) (hx3 : PB uE nG pJ x1 x2 x4 x3) (hx4 : Int32.toInt x4 <= Int32.toInt aG) (hn2 : 256 - Int32.toInt x1 <= n2) (hn12 : 9 - Int32.toInt x2 <= n12) (hn58 : 8 - Int32.toInt x4 <= n58) : ws_X10_layMoves_58 post K2 K12 next aG nG pJ x1 x2 x3 x4 uE := by
  have l0 := aI2
  have l1 := aEc
  have l2 := li_8
  refine And.intro (fun c21 => ?_) (fun c21 => ?_)
  · skip
    have c21 := (aAO _ _).mp c21
    intro v22 ev22
    have f23 := ti_shl8 x2 (by omega)
    have hv22 := congrArg Int32.toInt ev22
    intro v24 ev24
    have f25 : Int32.toInt (v22 + x1) = Int32.toInt v22 + Int32.toInt x1 := aAD _ _ (by omega)
    rw [<- ev24] at f25
    refine And.intro (aBZ (by omega)) ?_
    have a26 : ∀ k : Nat, 0 <= Int32.toInt ((upd uE v24.toNatClampNeg x3) k) /\ Int32.toInt ((upd uE v24.toNatClampNeg x3) k) <= 1000000 := t_upd (fun k => by have q9 := aAw k; omega) (by omega)
    exact ts_X10_layMoves_131 aG nG pJ vZ xT yD xZ hpost hK2 hK12 x1 x2 (upd uE v24.toNatClampNeg x3) aBK aBN (fun k => by have q9 := a26 k; omega) (by first | assumption | exact MVb1_sk1 (by assumption) (by omega) (by omega) | exact MVb1_sk2 (by assumption) (by omega) (by assumption) (by assumption) (by assumption) | exact MVb1_up (by assumption) (by assumption) (by assumption) (by assumption) (by omega) (by omega) (by omega) (by omega) (by omega) (by omega) xT xZ) (by first | assumption | exact LB_of (by assumption) (by omega) (by omega) (by omega)) hn2 hn12
  · skip
    have c21 := mt (aAO _ _).mpr c21
    intro v27 ev27
    have f28 := aRJ x1 x4 (by omega)
    have hv27 := congrArg Int32.toInt ev27
    intro v29 ev29
    have f30 := aAQ v27 1 (by omega)
    have f31 := aBx v27 1 (by omega)
    have hv29 := congrArg Int32.toInt ev29
    refine And.intro (fun c32 => ?_) (fun c32 => ?_)
    · skip
      have c32 := mt (zJ _ _).mpr c32
      refine And.intro (fun _ => ?_) (fun h9 => absurd h9 (by decide))
      exact ts_X10_layMoves_113 aG nG pJ vZ xT yD xZ hpost hK2 hK12 hKn x1 x2 x3 x4 uE aBK aBN aCH (by omega) aAw (by first | assumption | exact MVb_0 (by assumption) | exact MVb_s (by assumption) (by omega)) (by first | assumption | exact LB_of (by assumption) (by omega) (by omega) (by omega)) (by first | assumption | exact VAL_8 (by omega) | exact VAL_b (by omega) (by omega) (by assumption) (by assumption) (by assumption)) (by first | assumption | exact PB_skip (by assumption) (by omega) (by assumption) (by assumption) (by assumption) | exact PB_add (by assumption) (by assumption) (by assumption) (by assumption) (by omega) (by assumption) (by assumption) (by assumption) (by omega) (by assumption) (by omega) (by omega) (by omega) xT xZ) (by omega) hn2 hn12 hn58
    · skip
      have c32 := (zJ _ _).mp c32
      refine And.intro (fun h9 => absurd h9 (by decide)) (fun _ => ?_)
      refine And.intro (fun c33 => ?_) (fun c33 => ?_)
      · skip
        have c33 := mt (zJ _ _).mpr c33
        exact ts_X10_layMoves_89 aG nG pJ vZ xT yD xZ hpost hK2 hK12 hKn x1 x2 x4 x3 x2 uE aBK aBN (by omega) aCH (by omega) aAw (by first | assumption | exact MVb_0 (by assumption) | exact MVb_s (by assumption) (by omega)) (by first | assumption | exact LB_of (by assumption) (by omega) (by omega) (by omega)) (by first | assumption | exact VAL_8 (by omega) | exact VAL_b (by omega) (by omega) (by assumption) (by assumption) (by assumption)) (by first | assumption ) (has_1 (by assumption) (by assumption) (by assumption) (by omega)) (by omega) (by omega) hn2 hn12 hn58
      · skip
        have c33 := (zJ _ _).mp c33
        exact ts_X10_layMoves_89 aG nG pJ vZ xT yD xZ hpost hK2 hK12 hKn x1 x2 x4 x3 (-1) uE aBK aBN (by omega) aCH (by omega) aAw (by first | assumption | exact MVb_0 (by assumption) | exact MVb_s (by assumption) (by omega)) (by first | assumption | exact LB_of (by assumption) (by omega) (by omega) (by omega)) (by first | assumption | exact VAL_8 (by omega) | exact VAL_b (by omega) (by omega) (by assumption) (by assumption) (by assumption)) (by first | assumption ) (has_1 (by assumption) (by assumption) (by assumption) (by omega)) (by omega) (by omega) hn2 hn12 hn58
set_option maxHeartbeats 8000000 in
set_option maxRecDepth 200000 in
theorem tb_X10_layMoves_58 {post : (Nat -> Int32) -> Prop} {K2 : Int32 -> (Nat -> Int32) -> Prop} {K12 : Int32 -> Int32 -> (Nat -> Int32) -> Prop} {n2 n12 : Int} (aG : Int32) (nG pJ : Nat -> Int32) (vZ : 0 <= Int32.toInt aG /\ Int32.toInt aG <= 8) (xT : ∀ k : Nat, 0 <= Int32.toInt (nG k) /\ Int32.toInt (nG k) <= 99) (yD : ∀ k : Nat, k = 4 -> 1 <= Int32.toInt (pJ k) /\ Int32.toInt (pJ k) <= 30) (xZ : ∀ k : Nat, k = 3 -> 0 <= Int32.toInt (pJ k) /\ Int32.toInt (pJ k) <= 9) (hpost : ∀ (aCX : Nat -> Int32), (∀ k : Nat, 0 <= Int32.toInt (aCX k) /\ Int32.toInt (aCX k) <= 1000000) -> (MVT aCX nG pJ aG) -> post aCX) (hK2 : ∀ (x1 : Int32) (uE : Nat -> Int32), (0 <= Int32.toInt x1 /\ Int32.toInt x1 <= 256) -> (∀ k : Nat, 0 <= Int32.toInt (uE k) /\ Int32.toInt (uE k) <= 1000000) -> (MVa uE nG pJ aG x1) -> (256 - Int32.toInt x1 < n2) -> K2 x1 uE) (hK12 : ∀ (x1 : Int32) (x2 : Int32) (uE : Nat -> Int32), (0 <= Int32.toInt x1 /\ Int32.toInt x1 <= 255) -> (0 <= Int32.toInt x2 /\ Int32.toInt x2 <= 9) -> (∀ k : Nat, 0 <= Int32.toInt (uE k) /\ Int32.toInt (uE k) <= 1000000) -> (MVb uE nG pJ aG x1 x2) -> (LB x1 aG) -> (256 - Int32.toInt x1 <= n2) -> (9 - Int32.toInt x2 < n12) -> K12 x1 x2 uE) : ∀ (n : Nat) (x1 x2 x3 x4 : Int32) (uE : Nat -> Int32), (0 <= Int32.toInt x1 /\ Int32.toInt x1 <= 255) -> (0 <= Int32.toInt x2 /\ Int32.toInt x2 <= 8) -> (0 <= Int32.toInt x3 /\ Int32.toInt x3 <= 1000000) -> (0 <= Int32.toInt x4 /\ Int32.toInt x4 <= 8) -> (∀ k : Nat, 0 <= Int32.toInt (uE k) /\ Int32.toInt (uE k) <= 1000000) -> (MVb uE nG pJ aG x1 x2) -> (LB x1 aG) -> (VAL aG x2 x1) -> (PB uE nG pJ x1 x2 x4 x3) -> (Int32.toInt x4 <= Int32.toInt aG) -> (256 - Int32.toInt x1 <= n2) -> (9 - Int32.toInt x2 <= n12) -> (8 - Int32.toInt x4 < (n : Int)) -> wb_X10_layMoves_58 post K2 K12 aG nG pJ n x1 x2 x3 x4 uE := by
  intro n
  induction n with
  | zero =>
    intro x1 x2 x3 x4 uE aBK aBN aCH aDO aAw hx0 hx1 hx2 hx3 hx4 hn2 hn12 hm
    exfalso; omega
  | succ n ih =>
    intro x1 x2 x3 x4 uE aBK aBN aCH aDO aAw hx0 hx1 hx2 hx3 hx4 hn2 hn12 hm
    exact ts_X10_layMoves_58 aG nG pJ vZ xT yD xZ hpost hK2 hK12 ih x1 x2 x3 x4 uE aBK aBN aCH aDO aAw hx0 hx1 hx2 hx3 hx4 hn2 hn12 (by omega)
set_option maxHeartbeats 8000000 in
set_option maxRecDepth 200000 in
theorem ts_X10_layMoves_54 {post : (Nat -> Int32) -> Prop} {K2 : Int32 -> (Nat -> Int32) -> Prop} {K12 : Int32 -> Int32 -> (Nat -> Int32) -> Prop} {n2 n12 : Int} (aG : Int32) (nG pJ : Nat -> Int32) (vZ : 0 <= Int32.toInt aG /\ Int32.toInt aG <= 8) (xT : ∀ k : Nat, 0 <= Int32.toInt (nG k) /\ Int32.toInt (nG k) <= 99) (yD : ∀ k : Nat, k = 4 -> 1 <= Int32.toInt (pJ k) /\ Int32.toInt (pJ k) <= 30) (xZ : ∀ k : Nat, k = 3 -> 0 <= Int32.toInt (pJ k) /\ Int32.toInt (pJ k) <= 9) (hpost : ∀ (aCX : Nat -> Int32), (∀ k : Nat, 0 <= Int32.toInt (aCX k) /\ Int32.toInt (aCX k) <= 1000000) -> (MVT aCX nG pJ aG) -> post aCX) (hK2 : ∀ (x1 : Int32) (uE : Nat -> Int32), (0 <= Int32.toInt x1 /\ Int32.toInt x1 <= 256) -> (∀ k : Nat, 0 <= Int32.toInt (uE k) /\ Int32.toInt (uE k) <= 1000000) -> (MVa uE nG pJ aG x1) -> (256 - Int32.toInt x1 < n2) -> K2 x1 uE) (hK12 : ∀ (x1 : Int32) (x2 : Int32) (uE : Nat -> Int32), (0 <= Int32.toInt x1 /\ Int32.toInt x1 <= 255) -> (0 <= Int32.toInt x2 /\ Int32.toInt x2 <= 9) -> (∀ k : Nat, 0 <= Int32.toInt (uE k) /\ Int32.toInt (uE k) <= 1000000) -> (MVb uE nG pJ aG x1 x2) -> (LB x1 aG) -> (256 - Int32.toInt x1 <= n2) -> (9 - Int32.toInt x2 < n12) -> K12 x1 x2 uE) (x1 x2 k0 : Int32) (uE : Nat -> Int32) (aBK : 0 <= Int32.toInt x1 /\ Int32.toInt x1 <= 255) (aBN : 0 <= Int32.toInt x2 /\ Int32.toInt x2 <= 8) (h_k0 : 0 <= Int32.toInt k0 /\ Int32.toInt k0 <= 1000000) (aAw : ∀ k : Nat, 0 <= Int32.toInt (uE k) /\ Int32.toInt (uE k) <= 1000000) (hx0 : MVb uE nG pJ aG x1 x2) (hx1 : LB x1 aG) (hx2 : VAL aG x2 x1) (hx3 : (Int32.toInt x1 = 0 /\ Int32.toInt k0 = 0) \/ (Int32.toInt x1 ≠ 0 /\ Int32.toInt k0 = 1000000)) (hn2 : 256 - Int32.toInt x1 <= n2) (hn12 : 9 - Int32.toInt x2 <= n12) : ws_X10_layMoves_54 post K2 K12 aG nG pJ x1 x2 k0 uE := by
  have l0 := aE0
  exact ⟨10, tb_X10_layMoves_58 aG nG pJ vZ xT yD xZ hpost hK2 hK12 _ x1 x2 k0 0 uE aBK aBN h_k0 (by omega) aAw (by first | assumption | exact MVb_0 (by assumption) | exact MVb_s (by assumption) (by omega)) (by first | assumption | exact LB_of (by assumption) (by omega) (by omega) (by omega)) (by first | assumption | exact VAL_8 (by omega) | exact VAL_b (by omega) (by omega) (by assumption) (by assumption) (by assumption)) (by first | assumption | exact PB_init (by omega) | exact PB_s (by assumption) (by omega)) (by omega) hn2 hn12 (by omega)⟩
set_option maxHeartbeats 8000000 in
set_option maxRecDepth 200000 in
theorem ts_X10_layMoves_43 {post : (Nat -> Int32) -> Prop} {K2 : Int32 -> (Nat -> Int32) -> Prop} {K12 : Int32 -> Int32 -> (Nat -> Int32) -> Prop} {n2 n12 : Int} (aG : Int32) (nG pJ : Nat -> Int32) (vZ : 0 <= Int32.toInt aG /\ Int32.toInt aG <= 8) (xT : ∀ k : Nat, 0 <= Int32.toInt (nG k) /\ Int32.toInt (nG k) <= 99) (yD : ∀ k : Nat, k = 4 -> 1 <= Int32.toInt (pJ k) /\ Int32.toInt (pJ k) <= 30) (xZ : ∀ k : Nat, k = 3 -> 0 <= Int32.toInt (pJ k) /\ Int32.toInt (pJ k) <= 9) (hpost : ∀ (aCX : Nat -> Int32), (∀ k : Nat, 0 <= Int32.toInt (aCX k) /\ Int32.toInt (aCX k) <= 1000000) -> (MVT aCX nG pJ aG) -> post aCX) (hK2 : ∀ (x1 : Int32) (uE : Nat -> Int32), (0 <= Int32.toInt x1 /\ Int32.toInt x1 <= 256) -> (∀ k : Nat, 0 <= Int32.toInt (uE k) /\ Int32.toInt (uE k) <= 1000000) -> (MVa uE nG pJ aG x1) -> (256 - Int32.toInt x1 < n2) -> K2 x1 uE) (hK12 : ∀ (x1 : Int32) (x2 : Int32) (uE : Nat -> Int32), (0 <= Int32.toInt x1 /\ Int32.toInt x1 <= 255) -> (0 <= Int32.toInt x2 /\ Int32.toInt x2 <= 9) -> (∀ k : Nat, 0 <= Int32.toInt (uE k) /\ Int32.toInt (uE k) <= 1000000) -> (MVb uE nG pJ aG x1 x2) -> (LB x1 aG) -> (256 - Int32.toInt x1 <= n2) -> (9 - Int32.toInt x2 < n12) -> K12 x1 x2 uE) (x1 x2 : Int32) (uE : Nat -> Int32) (aBK : 0 <= Int32.toInt x1 /\ Int32.toInt x1 <= 255) (aBN : 0 <= Int32.toInt x2 /\ Int32.toInt x2 <= 8) (aAw : ∀ k : Nat, 0 <= Int32.toInt (uE k) /\ Int32.toInt (uE k) <= 1000000) (hx0 : MVb uE nG pJ aG x1 x2) (hx1 : LB x1 aG) (hx2 : VAL aG x2 x1) (hn2 : 256 - Int32.toInt x1 <= n2) (hn12 : 9 - Int32.toInt x2 <= n12) : ws_X10_layMoves_43 post K2 K12 aG nG pJ x1 x2 uE := by
  have l0 := aE0
  have l1 := li_1000000
  refine And.intro (fun c34 => ?_) (fun c34 => ?_)
  · skip
    have c34 := mt (zJ _ _).mpr c34
    exact ts_X10_layMoves_54 aG nG pJ vZ xT yD xZ hpost hK2 hK12 x1 x2 1000000 uE aBK aBN (by omega) aAw (by first | assumption | exact MVb_0 (by assumption) | exact MVb_s (by assumption) (by omega)) (by first | assumption | exact LB_of (by assumption) (by omega) (by omega) (by omega)) (by first | assumption | exact VAL_8 (by omega) | exact VAL_b (by omega) (by omega) (by assumption) (by assumption) (by assumption)) (by omega) hn2 hn12
  · skip
    have c34 := (zJ _ _).mp c34
    exact ts_X10_layMoves_54 aG nG pJ vZ xT yD xZ hpost hK2 hK12 x1 x2 0 uE aBK aBN (by omega) aAw (by first | assumption | exact MVb_0 (by assumption) | exact MVb_s (by assumption) (by omega)) (by first | assumption | exact LB_of (by assumption) (by omega) (by omega) (by omega)) (by first | assumption | exact VAL_8 (by omega) | exact VAL_b (by omega) (by omega) (by assumption) (by assumption) (by assumption)) (by omega) hn2 hn12
set_option maxHeartbeats 8000000 in
set_option maxRecDepth 200000 in
theorem ts_X10_layMoves_12 {post : (Nat -> Int32) -> Prop} {K2 : Int32 -> (Nat -> Int32) -> Prop} {next : Int32 -> Int32 -> (Nat -> Int32) -> Prop} {n12 n2 : Int} (aG : Int32) (nG pJ : Nat -> Int32) (vZ : 0 <= Int32.toInt aG /\ Int32.toInt aG <= 8) (xT : ∀ k : Nat, 0 <= Int32.toInt (nG k) /\ Int32.toInt (nG k) <= 99) (yD : ∀ k : Nat, k = 4 -> 1 <= Int32.toInt (pJ k) /\ Int32.toInt (pJ k) <= 30) (xZ : ∀ k : Nat, k = 3 -> 0 <= Int32.toInt (pJ k) /\ Int32.toInt (pJ k) <= 9) (hpost : ∀ (aCX : Nat -> Int32), (∀ k : Nat, 0 <= Int32.toInt (aCX k) /\ Int32.toInt (aCX k) <= 1000000) -> (MVT aCX nG pJ aG) -> post aCX) (hK2 : ∀ (x1 : Int32) (uE : Nat -> Int32), (0 <= Int32.toInt x1 /\ Int32.toInt x1 <= 256) -> (∀ k : Nat, 0 <= Int32.toInt (uE k) /\ Int32.toInt (uE k) <= 1000000) -> (MVa uE nG pJ aG x1) -> (256 - Int32.toInt x1 < n2) -> K2 x1 uE) (hKn : ∀ (x1 : Int32) (x2 : Int32) (uE : Nat -> Int32), (0 <= Int32.toInt x1 /\ Int32.toInt x1 <= 255) -> (0 <= Int32.toInt x2 /\ Int32.toInt x2 <= 9) -> (∀ k : Nat, 0 <= Int32.toInt (uE k) /\ Int32.toInt (uE k) <= 1000000) -> (MVb uE nG pJ aG x1 x2) -> (LB x1 aG) -> (256 - Int32.toInt x1 <= n2) -> (9 - Int32.toInt x2 < n12) -> next x1 x2 uE) (x1 x2 : Int32) (uE : Nat -> Int32) (aBK : 0 <= Int32.toInt x1 /\ Int32.toInt x1 <= 255) (aBN : 0 <= Int32.toInt x2 /\ Int32.toInt x2 <= 9) (aAw : ∀ k : Nat, 0 <= Int32.toInt (uE k) /\ Int32.toInt (uE k) <= 1000000) (hx0 : MVb uE nG pJ aG x1 x2) (hx1 : LB x1 aG) (hn2 : 256 - Int32.toInt x1 <= n2) (hn12 : 9 - Int32.toInt x2 <= n12) : ws_X10_layMoves_12 post K2 next aG nG pJ x1 x2 uE := by
  have l0 := aEc
  have l1 := li_8
  refine And.intro (fun c35 => ?_) (fun c35 => ?_)
  · skip
    have c35 := (aAd _ _).mp c35
    intro v36 ev36
    have f37 : Int32.toInt (x1 + 1) = Int32.toInt x1 + Int32.toInt (1 : Int32) := aAD _ _ (by omega)
    rw [<- ev36] at f37
    exact hK2 v36 uE (by omega) aAw (by first | assumption | exact MVa_0 (by omega) | exact MVa_s (by assumption) (by omega) (by omega) (by omega)) (by omega)
  · skip
    have c35 := mt (aAd _ _).mpr c35
    refine And.intro (fun c38 => ?_) (fun c38 => ?_)
    · skip
      have c38 := (aAO _ _).mp c38
      exact ts_X10_layMoves_43 aG nG pJ vZ xT yD xZ hpost hK2 hKn x1 x2 uE aBK (by omega) aAw (by first | assumption | exact MVb_0 (by assumption) | exact MVb_s (by assumption) (by omega)) (by first | assumption | exact LB_of (by assumption) (by omega) (by omega) (by omega)) (by first | assumption | exact VAL_8 (by omega) | exact VAL_b (by omega) (by omega) (by assumption) (by assumption) (by assumption)) hn2 hn12
    · skip
      have c38 := mt (aAO _ _).mpr c38
      refine And.intro (fun c39 => ?_) (fun c39 => ?_)
      · skip
        have c39 := (aAO _ _).mp c39
        exact ts_X10_layMoves_131 aG nG pJ vZ xT yD xZ hpost hK2 hKn x1 x2 uE aBK (by omega) aAw (by first | assumption | exact MVb1_sk1 (by assumption) (by omega) (by omega) | exact MVb1_sk2 (by assumption) (by omega) (by assumption) (by assumption) (by assumption) | exact MVb1_up (by assumption) (by assumption) (by assumption) (by assumption) (by omega) (by omega) (by omega) (by omega) (by omega) (by omega) xT xZ) (by first | assumption | exact LB_of (by assumption) (by omega) (by omega) (by omega)) hn2 hn12
      · skip
        have c39 := mt (aAO _ _).mpr c39
        intro v40 ev40
        have f41 := aRJ x1 x2 (by omega)
        have hv40 := congrArg Int32.toInt ev40
        intro v42 ev42
        have f43 := aAQ v40 1 (by omega)
        have f44 := aBx v40 1 (by omega)
        have hv42 := congrArg Int32.toInt ev42
        refine And.intro (fun c45 => ?_) (fun c45 => ?_)
        · skip
          have c45 := mt (zJ _ _).mpr c45
          refine And.intro (fun _ => ?_) (fun h9 => absurd h9 (by decide))
          exact ts_X10_layMoves_43 aG nG pJ vZ xT yD xZ hpost hK2 hKn x1 x2 uE aBK (by omega) aAw (by first | assumption | exact MVb_0 (by assumption) | exact MVb_s (by assumption) (by omega)) (by first | assumption | exact LB_of (by assumption) (by omega) (by omega) (by omega)) (by first | assumption | exact VAL_8 (by omega) | exact VAL_b (by omega) (by omega) (by assumption) (by assumption) (by assumption)) hn2 hn12
        · skip
          have c45 := (zJ _ _).mp c45
          refine And.intro (fun h9 => absurd h9 (by decide)) (fun _ => ?_)
          exact ts_X10_layMoves_131 aG nG pJ vZ xT yD xZ hpost hK2 hKn x1 x2 uE aBK (by omega) aAw (by first | assumption | exact MVb1_sk1 (by assumption) (by omega) (by omega) | exact MVb1_sk2 (by assumption) (by omega) (by assumption) (by assumption) (by assumption) | exact MVb1_up (by assumption) (by assumption) (by assumption) (by assumption) (by omega) (by omega) (by omega) (by omega) (by omega) (by omega) xT xZ) (by first | assumption | exact LB_of (by assumption) (by omega) (by omega) (by omega)) hn2 hn12
set_option maxHeartbeats 8000000 in
set_option maxRecDepth 200000 in
theorem tb_X10_layMoves_12 {post : (Nat -> Int32) -> Prop} {K2 : Int32 -> (Nat -> Int32) -> Prop} {n2 : Int} (aG : Int32) (nG pJ : Nat -> Int32) (vZ : 0 <= Int32.toInt aG /\ Int32.toInt aG <= 8) (xT : ∀ k : Nat, 0 <= Int32.toInt (nG k) /\ Int32.toInt (nG k) <= 99) (yD : ∀ k : Nat, k = 4 -> 1 <= Int32.toInt (pJ k) /\ Int32.toInt (pJ k) <= 30) (xZ : ∀ k : Nat, k = 3 -> 0 <= Int32.toInt (pJ k) /\ Int32.toInt (pJ k) <= 9) (hpost : ∀ (aCX : Nat -> Int32), (∀ k : Nat, 0 <= Int32.toInt (aCX k) /\ Int32.toInt (aCX k) <= 1000000) -> (MVT aCX nG pJ aG) -> post aCX) (hK2 : ∀ (x1 : Int32) (uE : Nat -> Int32), (0 <= Int32.toInt x1 /\ Int32.toInt x1 <= 256) -> (∀ k : Nat, 0 <= Int32.toInt (uE k) /\ Int32.toInt (uE k) <= 1000000) -> (MVa uE nG pJ aG x1) -> (256 - Int32.toInt x1 < n2) -> K2 x1 uE) : ∀ (n : Nat) (x1 x2 : Int32) (uE : Nat -> Int32), (0 <= Int32.toInt x1 /\ Int32.toInt x1 <= 255) -> (0 <= Int32.toInt x2 /\ Int32.toInt x2 <= 9) -> (∀ k : Nat, 0 <= Int32.toInt (uE k) /\ Int32.toInt (uE k) <= 1000000) -> (MVb uE nG pJ aG x1 x2) -> (LB x1 aG) -> (256 - Int32.toInt x1 <= n2) -> (9 - Int32.toInt x2 < (n : Int)) -> wb_X10_layMoves_12 post K2 aG nG pJ n x1 x2 uE := by
  intro n
  induction n with
  | zero =>
    intro x1 x2 uE aBK aBN aAw hx0 hx1 hn2 hm
    exfalso; omega
  | succ n ih =>
    intro x1 x2 uE aBK aBN aAw hx0 hx1 hn2 hm
    exact ts_X10_layMoves_12 aG nG pJ vZ xT yD xZ hpost hK2 ih x1 x2 uE aBK aBN aAw hx0 hx1 hn2 (by omega)
set_option maxHeartbeats 8000000 in
set_option maxRecDepth 200000 in
theorem ts_X10_layMoves_2 {post : (Nat -> Int32) -> Prop} {next : Int32 -> (Nat -> Int32) -> Prop} {n2 : Int} (aG : Int32) (nG pJ : Nat -> Int32) (vZ : 0 <= Int32.toInt aG /\ Int32.toInt aG <= 8) (xT : ∀ k : Nat, 0 <= Int32.toInt (nG k) /\ Int32.toInt (nG k) <= 99) (yD : ∀ k : Nat, k = 4 -> 1 <= Int32.toInt (pJ k) /\ Int32.toInt (pJ k) <= 30) (xZ : ∀ k : Nat, k = 3 -> 0 <= Int32.toInt (pJ k) /\ Int32.toInt (pJ k) <= 9) (hpost : ∀ (aCX : Nat -> Int32), (∀ k : Nat, 0 <= Int32.toInt (aCX k) /\ Int32.toInt (aCX k) <= 1000000) -> (MVT aCX nG pJ aG) -> post aCX) (hKn : ∀ (x1 : Int32) (uE : Nat -> Int32), (0 <= Int32.toInt x1 /\ Int32.toInt x1 <= 256) -> (∀ k : Nat, 0 <= Int32.toInt (uE k) /\ Int32.toInt (uE k) <= 1000000) -> (MVa uE nG pJ aG x1) -> (256 - Int32.toInt x1 < n2) -> next x1 uE) (x1 : Int32) (uE : Nat -> Int32) (aBK : 0 <= Int32.toInt x1 /\ Int32.toInt x1 <= 256) (aAw : ∀ k : Nat, 0 <= Int32.toInt (uE k) /\ Int32.toInt (uE k) <= 1000000) (hx0 : MVa uE nG pJ aG x1) (hn2 : 256 - Int32.toInt x1 <= n2) : ws_X10_layMoves_2 post next aG nG pJ x1 uE := by
  have l0 := aE0
  have l1 := aEc
  intro v46 ev46
  have f47 := aDv 8 256 aG (by decide) (by omega)
  have hv46 := congrArg Int32.toInt ev46
  have f49 : Int32.toInt (v46 - 1) = Int32.toInt v46 - Int32.toInt (1 : Int32) := aCA _ _ (by omega)
  refine And.intro (fun c48 => ?_) (fun c48 => ?_)
  · skip
    have c48 := (aAd _ _).mp c48
    exact hpost _ aAw (MVT_of (by assumption) (by assumption) (by omega) (by omega))
  · skip
    have c48 := mt (aAd _ _).mpr c48
    exact ⟨11, tb_X10_layMoves_12 aG nG pJ vZ xT yD xZ hpost hKn _ x1 0 uE (by omega) (by omega) aAw (by first | assumption | exact MVb_0 (by assumption) | exact MVb_s (by assumption) (by omega)) (by first | assumption | exact LB_of (by assumption) (by omega) (by omega) (by omega)) hn2 (by omega)⟩
set_option maxHeartbeats 8000000 in
set_option maxRecDepth 200000 in
theorem tb_X10_layMoves_2 {post : (Nat -> Int32) -> Prop} (aG : Int32) (nG pJ : Nat -> Int32) (vZ : 0 <= Int32.toInt aG /\ Int32.toInt aG <= 8) (xT : ∀ k : Nat, 0 <= Int32.toInt (nG k) /\ Int32.toInt (nG k) <= 99) (yD : ∀ k : Nat, k = 4 -> 1 <= Int32.toInt (pJ k) /\ Int32.toInt (pJ k) <= 30) (xZ : ∀ k : Nat, k = 3 -> 0 <= Int32.toInt (pJ k) /\ Int32.toInt (pJ k) <= 9) (hpost : ∀ (aCX : Nat -> Int32), (∀ k : Nat, 0 <= Int32.toInt (aCX k) /\ Int32.toInt (aCX k) <= 1000000) -> (MVT aCX nG pJ aG) -> post aCX) : ∀ (n : Nat) (x1 : Int32) (uE : Nat -> Int32), (0 <= Int32.toInt x1 /\ Int32.toInt x1 <= 256) -> (∀ k : Nat, 0 <= Int32.toInt (uE k) /\ Int32.toInt (uE k) <= 1000000) -> (MVa uE nG pJ aG x1) -> (256 - Int32.toInt x1 < (n : Int)) -> wb_X10_layMoves_2 post aG nG pJ n x1 uE := by
  intro n
  induction n with
  | zero =>
    intro x1 uE aBK aAw hx0 hm
    exfalso; omega
  | succ n ih =>
    intro x1 uE aBK aAw hx0 hm
    exact ts_X10_layMoves_2 aG nG pJ vZ xT yD xZ hpost ih x1 uE aBK aAw hx0 (by omega)
set_option maxHeartbeats 8000000 in
set_option maxRecDepth 200000 in
theorem t_X10_layMoves {post : (Nat -> Int32) -> Prop} {aG : Int32} {nG pJ uE : Nat -> Int32} (vZ : 0 <= Int32.toInt aG /\ Int32.toInt aG <= 8) (xT : ∀ k : Nat, 0 <= Int32.toInt (nG k) /\ Int32.toInt (nG k) <= 99) (yD : ∀ k : Nat, k = 4 -> 1 <= Int32.toInt (pJ k) /\ Int32.toInt (pJ k) <= 30) (xZ : ∀ k : Nat, k = 3 -> 0 <= Int32.toInt (pJ k) /\ Int32.toInt (pJ k) <= 9) (aAw : ∀ k : Nat, 0 <= Int32.toInt (uE k) /\ Int32.toInt (uE k) <= 1000000) (hpost : ∀ (aCX : Nat -> Int32), (∀ k : Nat, 0 <= Int32.toInt (aCX k) /\ Int32.toInt (aCX k) <= 1000000) -> (MVT aCX nG pJ aG) -> post aCX) : wp_X10_layMoves post aG nG pJ uE := by
  have l0 := aE0
  exact ⟨258, tb_X10_layMoves_2 aG nG pJ vZ xT yD xZ hpost _ 0 uE (by omega) aAw (by first | assumption | exact MVa_0 (by omega) | exact MVa_s (by assumption) (by omega) (by omega) (by omega)) (by omega)⟩
