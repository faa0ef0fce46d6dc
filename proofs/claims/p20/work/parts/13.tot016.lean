set_option maxHeartbeats 8000000 in
set_option maxRecDepth 200000 in
theorem ts_X5_quickest_76 {post : Int32 → Prop} {K8 : Int32 → Int32 → Int32 → Int32 → Int32 → Prop} {n8 : Int} (rD sG : Nat → Int32) (bD : Int32) (zR : ∀ k : Nat, 0 ≤ Int32.toInt (rD k) ∧ Int32.toInt (rD k) ≤ 65535) (aAX : ∀ k : Nat, 0 ≤ Int32.toInt (sG k) ∧ Int32.toInt (sG k) ≤ 99) (wX : 0 ≤ Int32.toInt bD ∧ Int32.toInt bD ≤ 8) (hpost : ∀ (r : Int32) , (-1 ≤ Int32.toInt r ∧ Int32.toInt r ≤ 7) → post r) (hK8 : ∀ (x1 : Int32) (x2 : Int32) (x3 : Int32) (x4 : Int32) (x5 : Int32), (0 ≤ Int32.toInt x1 ∧ Int32.toInt x1 ≤ 15) → (0 ≤ Int32.toInt x2 ∧ Int32.toInt x2 ≤ 255) → (-1 ≤ Int32.toInt x3 ∧ Int32.toInt x3 ≤ 7) → (0 ≤ Int32.toInt x4 ∧ Int32.toInt x4 ≤ 99) → (0 ≤ Int32.toInt x5 ∧ Int32.toInt x5 ≤ 8) → (8 - Int32.toInt x5 < n8) → K8 x1 x2 x3 x4 x5) (x1 x2 x3 x4 x5 : Int32) (aBK : 0 ≤ Int32.toInt x1 ∧ Int32.toInt x1 ≤ 15) (aBN : 0 ≤ Int32.toInt x2 ∧ Int32.toInt x2 ≤ 255) (aCH : -1 ≤ Int32.toInt x3 ∧ Int32.toInt x3 ≤ 7) (aDO : 0 ≤ Int32.toInt x4 ∧ Int32.toInt x4 ≤ 99) (aF7 : 0 ≤ Int32.toInt x5 ∧ Int32.toInt x5 ≤ 7) (hn8 : 8 - Int32.toInt x5 ≤ n8) : ws_X5_quickest_76 post K8 rD sG bD x1 x2 x3 x4 x5 := by
  have l0 := aEc
  intro v1 ev1
  have f2 : Int32.toInt (x5 + 1) = Int32.toInt x5 + Int32.toInt (1 : Int32) := aAD _ _ (by omega)
  rw [← ev1] at f2
  exact hK8 x1 x2 x3 x4 v1 aBK aBN aCH aDO (by omega) (by omega)
set_option maxHeartbeats 8000000 in
set_option maxRecDepth 200000 in
theorem ts_X5_quickest_69 {post : Int32 → Prop} {K8 : Int32 → Int32 → Int32 → Int32 → Int32 → Prop} {n8 : Int} (rD sG : Nat → Int32) (bD : Int32) (zR : ∀ k : Nat, 0 ≤ Int32.toInt (rD k) ∧ Int32.toInt (rD k) ≤ 65535) (aAX : ∀ k : Nat, 0 ≤ Int32.toInt (sG k) ∧ Int32.toInt (sG k) ≤ 99) (wX : 0 ≤ Int32.toInt bD ∧ Int32.toInt bD ≤ 8) (hpost : ∀ (r : Int32) , (-1 ≤ Int32.toInt r ∧ Int32.toInt r ≤ 7) → post r) (hK8 : ∀ (x1 : Int32) (x2 : Int32) (x3 : Int32) (x4 : Int32) (x5 : Int32), (0 ≤ Int32.toInt x1 ∧ Int32.toInt x1 ≤ 15) → (0 ≤ Int32.toInt x2 ∧ Int32.toInt x2 ≤ 255) → (-1 ≤ Int32.toInt x3 ∧ Int32.toInt x3 ≤ 7) → (0 ≤ Int32.toInt x4 ∧ Int32.toInt x4 ≤ 99) → (0 ≤ Int32.toInt x5 ∧ Int32.toInt x5 ≤ 8) → (8 - Int32.toInt x5 < n8) → K8 x1 x2 x3 x4 x5) (x1 x2 x5 x6 : Int32) (aBK : 0 ≤ Int32.toInt x1 ∧ Int32.toInt x1 ≤ 15) (aBN : 0 ≤ Int32.toInt x2 ∧ Int32.toInt x2 ≤ 255) (aF7 : 0 ≤ Int32.toInt x5 ∧ Int32.toInt x5 ≤ 7) (h_x6 : 0 ≤ Int32.toInt x6 ∧ Int32.toInt x6 ≤ 99) (hn8 : 8 - Int32.toInt x5 ≤ n8) : ws_X5_quickest_69 post K8 rD sG bD x1 x2 x5 x6 := by
  exact ts_X5_quickest_76 rD sG bD zR aAX wX hpost hK8 x1 x2 x5 x6 x5 aBK aBN (by omega) h_x6 aF7 hn8
set_option maxHeartbeats 8000000 in
set_option maxRecDepth 200000 in
theorem ts_X5_quickest_8 {post : Int32 → Prop} {next : Int32 → Int32 → Int32 → Int32 → Int32 → Prop} {n8 : Int} (rD sG : Nat → Int32) (bD : Int32) (zR : ∀ k : Nat, 0 ≤ Int32.toInt (rD k) ∧ Int32.toInt (rD k) ≤ 65535) (aAX : ∀ k : Nat, 0 ≤ Int32.toInt (sG k) ∧ Int32.toInt (sG k) ≤ 99) (wX : 0 ≤ Int32.toInt bD ∧ Int32.toInt bD ≤ 8) (hpost : ∀ (r : Int32) , (-1 ≤ Int32.toInt r ∧ Int32.toInt r ≤ 7) → post r) (hKn : ∀ (x1 : Int32) (x2 : Int32) (x3 : Int32) (x4 : Int32) (x5 : Int32), (0 ≤ Int32.toInt x1 ∧ Int32.toInt x1 ≤ 15) → (0 ≤ Int32.toInt x2 ∧ Int32.toInt x2 ≤ 255) → (-1 ≤ Int32.toInt x3 ∧ Int32.toInt x3 ≤ 7) → (0 ≤ Int32.toInt x4 ∧ Int32.toInt x4 ≤ 99) → (0 ≤ Int32.toInt x5 ∧ Int32.toInt x5 ≤ 8) → (8 - Int32.toInt x5 < n8) → next x1 x2 x3 x4 x5) (x1 x2 x3 x4 x5 : Int32) (aBK : 0 ≤ Int32.toInt x1 ∧ Int32.toInt x1 ≤ 15) (aBN : 0 ≤ Int32.toInt x2 ∧ Int32.toInt x2 ≤ 255) (aCH : -1 ≤ Int32.toInt x3 ∧ Int32.toInt x3 ≤ 7) (aDO : 0 ≤ Int32.toInt x4 ∧ Int32.toInt x4 ≤ 99) (aF7 : 0 ≤ Int32.toInt x5 ∧ Int32.toInt x5 ≤ 8) (hn8 : 8 - Int32.toInt x5 ≤ n8) : ws_X5_quickest_8 post next rD sG bD x1 x2 x3 x4 x5 := by
  have l0 := aI2
  have l1 := aE0
  have l2 := aEc
  have l3 := li_8
  refine And.intro (fun c3 => ?_) (fun c3 => ?_)
  · skip
    have c3 := (aAO _ _).mp c3
    exact hpost _ aCH
  · skip
    have c3 := mt (aAO _ _).mpr c3
    intro v4 ev4
    have f5 := aRJ x2 x5 (by omega)
    have hv4 := congrArg Int32.toInt ev4
    have f7 := aAQ v4 1 (by omega)
    have f8 := aBx v4 1 (by omega)
    refine And.intro (fun c6 => ?_) (fun c6 => ?_)
    · skip
      have c6 := (zJ _ _).mp c6
      exact ts_X5_quickest_76 rD sG bD zR aAX wX hpost hKn x1 x2 x3 x4 x5 aBK aBN aCH aDO (by omega) hn8
    · skip
      have c6 := mt (zJ _ _).mpr c6
      refine And.intro (aBZ (by omega)) ?_
      intro v9 ev9
      have f10 := zR x5.toNatClampNeg
      have hv9 := congrArg Int32.toInt ev9
      intro v11 ev11
      have f12 := aRJ v9 x1 (by omega)
      have hv11 := congrArg Int32.toInt ev11
      have f14 := aAQ v11 1 (by omega)
      have f15 := aBx v11 1 (by omega)
      refine And.intro (fun c13 => ?_) (fun c13 => ?_)
      · skip
        have c13 := (zJ _ _).mp c13
        exact ts_X5_quickest_76 rD sG bD zR aAX wX hpost hKn x1 x2 x3 x4 x5 aBK aBN aCH aDO (by omega) hn8
      · skip
        have c13 := mt (zJ _ _).mpr c13
        intro v16 ev16
        have f17 : Int32.toInt (x1 * 8) = Int32.toInt x1 * 8 := ta_mulc _ _ (by decide) (by omega)
        rw [← ev16] at f17
        intro v18 ev18
        have f19 : Int32.toInt (v16 + x5) = Int32.toInt v16 + Int32.toInt x5 := aAD _ _ (by omega)
        rw [← ev18] at f19
        refine And.intro (aBZ (by omega)) ?_
        intro v20 ev20
        have f21 := aAX v18.toNatClampNeg
        have hv20 := congrArg Int32.toInt ev20
        refine And.intro (fun c22 => ?_) (fun c22 => ?_)
        · skip
          have c22 := (zJ _ _).mp c22
          exact ts_X5_quickest_69 rD sG bD zR aAX wX hpost hKn x1 x2 x5 v20 aBK aBN (by omega) (by omega) hn8
        · skip
          have c22 := mt (zJ _ _).mpr c22
          refine And.intro (fun c23 => ?_) (fun c23 => ?_)
          · skip
            have c23 := (aAO _ _).mp c23
            exact ts_X5_quickest_76 rD sG bD zR aAX wX hpost hKn x1 x2 x3 x4 x5 aBK aBN aCH aDO (by omega) hn8
          · skip
            have c23 := mt (aAO _ _).mpr c23
            exact ts_X5_quickest_69 rD sG bD zR aAX wX hpost hKn x1 x2 x5 v20 aBK aBN (by omega) (by omega) hn8
set_option maxHeartbeats 8000000 in
set_option maxRecDepth 200000 in
theorem tb_X5_quickest_8 {post : Int32 → Prop} (rD sG : Nat → Int32) (bD : Int32) (zR : ∀ k : Nat, 0 ≤ Int32.toInt (rD k) ∧ Int32.toInt (rD k) ≤ 65535) (aAX : ∀ k : Nat, 0 ≤ Int32.toInt (sG k) ∧ Int32.toInt (sG k) ≤ 99) (wX : 0 ≤ Int32.toInt bD ∧ Int32.toInt bD ≤ 8) (hpost : ∀ (r : Int32) , (-1 ≤ Int32.toInt r ∧ Int32.toInt r ≤ 7) → post r) : ∀ (n : Nat) (x1 x2 x3 x4 x5 : Int32), (0 ≤ Int32.toInt x1 ∧ Int32.toInt x1 ≤ 15) → (0 ≤ Int32.toInt x2 ∧ Int32.toInt x2 ≤ 255) → (-1 ≤ Int32.toInt x3 ∧ Int32.toInt x3 ≤ 7) → (0 ≤ Int32.toInt x4 ∧ Int32.toInt x4 ≤ 99) → (0 ≤ Int32.toInt x5 ∧ Int32.toInt x5 ≤ 8) → (8 - Int32.toInt x5 < (n : Int)) → wb_X5_quickest_8 post rD sG bD n x1 x2 x3 x4 x5 := by
  intro n
  induction n with
  | zero =>
    intro x1 x2 x3 x4 x5 aBK aBN aCH aDO aF7 hm
    exfalso; omega
  | succ n ih =>
    intro x1 x2 x3 x4 x5 aBK aBN aCH aDO aF7 hm
    exact ts_X5_quickest_8 rD sG bD zR aAX wX hpost ih x1 x2 x3 x4 x5 aBK aBN aCH aDO aF7 (by omega)
set_option maxHeartbeats 8000000 in
set_option maxRecDepth 200000 in
theorem t_X5_quickest {post : Int32 → Prop} {p0 p1 : Int32} {rD sG : Nat → Int32} {bD : Int32} (h_p0 : 0 ≤ Int32.toInt p0 ∧ Int32.toInt p0 ≤ 15) (h_p1 : 0 ≤ Int32.toInt p1 ∧ Int32.toInt p1 ≤ 255) (zR : ∀ k : Nat, 0 ≤ Int32.toInt (rD k) ∧ Int32.toInt (rD k) ≤ 65535) (aAX : ∀ k : Nat, 0 ≤ Int32.toInt (sG k) ∧ Int32.toInt (sG k) ≤ 99) (wX : 0 ≤ Int32.toInt bD ∧ Int32.toInt bD ≤ 8) (hpost : ∀ (r : Int32) , (-1 ≤ Int32.toInt r ∧ Int32.toInt r ≤ 7) → post r) : wp_X5_quickest post p0 p1 rD sG bD := by
  have l0 := aI2
  have l1 := aE0
  exact ⟨10, tb_X5_quickest_8 rD sG bD zR aAX wX hpost _ p0 p1 (-1) 0 0 h_p0 h_p1 (by omega) (by omega) (by omega) (by omega)⟩
set_option maxHeartbeats 8000000 in
set_option maxRecDepth 200000 in
theorem ts_X5_workSeconds_96 {post : Int32 → Int32 → Int32 → Int32 → (Nat → Int32) → Prop} {K28 : Int32 → Int32 → Int32 → Int32 → Int32 → (Nat → Int32) → Prop} {n28 : Int} (oY : Int32) (rD sG : Nat → Int32) (dN bD : Int32) (mX oE dY : Nat → Int32) (fY : Int32) (aAE : 0 ≤ Int32.toInt oY ∧ Int32.toInt oY ≤ 65535) (zR : ∀ k : Nat, 0 ≤ Int32.toInt (rD k) ∧ Int32.toInt (rD k) ≤ 65535) (aAX : ∀ k : Nat, 0 ≤ Int32.toInt (sG k) ∧ Int32.toInt (sG k) ≤ 99) (xL : 0 ≤ Int32.toInt dN ∧ Int32.toInt dN ≤ 16) (wX : 0 ≤ Int32.toInt bD ∧ Int32.toInt bD ≤ 8) (aAC : -1 ≤ Int32.toInt fY ∧ Int32.toInt fY ≤ 7) (hpost : ∀ (r : Int32) (aJV : Int32) (aGc : Int32) (aJU : Int32) (aLu : Nat → Int32), post r aJV aGc aJU aLu) (hK28 : ∀ (x1 : Int32) (x2 : Int32) (rJ : Int32) (pX : Int32) (rO : Int32) (vQ : Nat → Int32), (0 ≤ Int32.toInt x1 ∧ Int32.toInt x1 ≤ 255) → (0 ≤ Int32.toInt x2 ∧ Int32.toInt x2 ≤ 16) → (16 - Int32.toInt x2 < n28) → K28 x1 x2 rJ pX rO vQ) (x1 x2 rJ pX rO : Int32) (vQ : Nat → Int32) (aBK : 0 ≤ Int32.toInt x1 ∧ Int32.toInt x1 ≤ 255) (aBN : 0 ≤ Int32.toInt x2 ∧ Int32.toInt x2 ≤ 15) (hn28 : 16 - Int32.toInt x2 ≤ n28) : ws_X5_workSeconds_96 post K28 oY rD sG dN bD mX oE dY fY x1 x2 rJ pX rO vQ := by
  have l0 := aEc
  intro v1 ev1
  have f2 : Int32.toInt (x2 + 1) = Int32.toInt x2 + Int32.toInt (1 : Int32) := aAD _ _ (by omega)
  rw [← ev1] at f2
  have f3 := aAT rJ
  have f4 := aAT pX
  have f5 := aAT rO
  exact hK28 x1 v1 rJ pX rO vQ aBK (by omega) (by omega)
set_option maxHeartbeats 8000000 in
set_option maxRecDepth 200000 in
theorem ts_X5_workSeconds_60 {post : Int32 → Int32 → Int32 → Int32 → (Nat → Int32) → Prop} {K28 : Int32 → Int32 → Int32 → Int32 → Int32 → (Nat → Int32) → Prop} {n28 : Int} (oY : Int32) (rD sG : Nat → Int32) (dN bD : Int32) (mX oE dY : Nat → Int32) (fY : Int32) (aAE : 0 ≤ Int32.toInt oY ∧ Int32.toInt oY ≤ 65535) (zR : ∀ k : Nat, 0 ≤ Int32.toInt (rD k) ∧ Int32.toInt (rD k) ≤ 65535) (aAX : ∀ k : Nat, 0 ≤ Int32.toInt (sG k) ∧ Int32.toInt (sG k) ≤ 99) (xL : 0 ≤ Int32.toInt dN ∧ Int32.toInt dN ≤ 16) (wX : 0 ≤ Int32.toInt bD ∧ Int32.toInt bD ≤ 8) (aAC : -1 ≤ Int32.toInt fY ∧ Int32.toInt fY ≤ 7) (hpost : ∀ (r : Int32) (aJV : Int32) (aGc : Int32) (aJU : Int32) (aLu : Nat → Int32), post r aJV aGc aJU aLu) (hK28 : ∀ (x1 : Int32) (x2 : Int32) (rJ : Int32) (pX : Int32) (rO : Int32) (vQ : Nat → Int32), (0 ≤ Int32.toInt x1 ∧ Int32.toInt x1 ≤ 255) → (0 ≤ Int32.toInt x2 ∧ Int32.toInt x2 ≤ 16) → (16 - Int32.toInt x2 < n28) → K28 x1 x2 rJ pX rO vQ) (x1 x2 k0 rJ pX rO : Int32) (vQ : Nat → Int32) (aBK : 0 ≤ Int32.toInt x1 ∧ Int32.toInt x1 ≤ 255) (aBN : 0 ≤ Int32.toInt x2 ∧ Int32.toInt x2 ≤ 15) (h_k0 : -1 ≤ Int32.toInt k0 ∧ Int32.toInt k0 ≤ 7) (hn28 : 16 - Int32.toInt x2 ≤ n28) : ws_X5_workSeconds_60 post K28 oY rD sG dN bD mX oE dY fY x1 x2 k0 rJ pX rO vQ := by
  have l0 := aI2
  have l1 := li_8
  refine And.intro (fun c6 => ?_) (fun c6 => ?_)
  · skip
    have c6 := (zJ _ _).mp c6
    have f7 := aAT rJ
    have f8 := aAT pX
    have f9 := aAT rO
    exact ts_X5_workSeconds_96 oY rD sG dN bD mX oE dY fY aAE zR aAX xL wX aAC hpost hK28 x1 x2 rJ pX rO vQ aBK aBN hn28
  · skip
    have c6 := mt (zJ _ _).mpr c6
    intro v10 ev10
    have f11 : Int32.toInt (x2 * 8) = Int32.toInt x2 * 8 := ta_mulc _ _ (by decide) (by omega)
    rw [← ev10] at f11
    intro v12 ev12
    have f13 : Int32.toInt (v10 + k0) = Int32.toInt v10 + Int32.toInt k0 := aAD _ _ (by omega)
    rw [← ev12] at f13
    refine And.intro (aBZ (by omega)) ?_
    intro v14 ev14
    have hv14 := congrArg Int32.toInt ev14
    refine And.intro (aBZ (by omega)) ?_
    intro v16 ev16
    have hv16 := congrArg Int32.toInt ev16
    intro v18 ev18
    have hv18 := congrArg Int32.toInt ev18
    refine And.intro (aBZ (by omega)) ?_
    have f20 := aAT rJ
    have f21 := aAT v14
    have f22 := aAT rO
    exact ts_X5_workSeconds_96 oY rD sG dN bD mX oE dY fY aAE zR aAX xL wX aAC hpost hK28 x1 x2 rJ v14 rO (upd vQ k0.toNatClampNeg v18) aBK aBN hn28
set_option maxHeartbeats 8000000 in
set_option maxRecDepth 200000 in
theorem ts_X5_workSeconds_109 {post : Int32 → Int32 → Int32 → Int32 → (Nat → Int32) → Prop} {next : Int32 → Int32 → Int32 → Int32 → Int32 → (Nat → Int32) → Prop} {n109 : Int} (oY : Int32) (rD sG : Nat → Int32) (dN bD : Int32) (mX oE dY : Nat → Int32) (fY : Int32) (aAE : 0 ≤ Int32.toInt oY ∧ Int32.toInt oY ≤ 65535) (zR : ∀ k : Nat, 0 ≤ Int32.toInt (rD k) ∧ Int32.toInt (rD k) ≤ 65535) (aAX : ∀ k : Nat, 0 ≤ Int32.toInt (sG k) ∧ Int32.toInt (sG k) ≤ 99) (xL : 0 ≤ Int32.toInt dN ∧ Int32.toInt dN ≤ 16) (wX : 0 ≤ Int32.toInt bD ∧ Int32.toInt bD ≤ 8) (aAC : -1 ≤ Int32.toInt fY ∧ Int32.toInt fY ≤ 7) (hpost : ∀ (r : Int32) (aJV : Int32) (aGc : Int32) (aJU : Int32) (aLu : Nat → Int32), post r aJV aGc aJU aLu) (hKn : ∀ (x1 : Int32) (x2 : Int32) (rJ : Int32) (pX : Int32) (rO : Int32) (vQ : Nat → Int32), (0 ≤ Int32.toInt x1 ∧ Int32.toInt x1 ≤ 255) → (0 ≤ Int32.toInt x2 ∧ Int32.toInt x2 ≤ 8) → (8 - Int32.toInt x2 < n109) → next x1 x2 rJ pX rO vQ) (x1 x2 rJ pX rO : Int32) (vQ : Nat → Int32) (aBK : 0 ≤ Int32.toInt x1 ∧ Int32.toInt x1 ≤ 255) (aBN : 0 ≤ Int32.toInt x2 ∧ Int32.toInt x2 ≤ 8) (hn109 : 8 - Int32.toInt x2 ≤ n109) : ws_X5_workSeconds_109 post next oY rD sG dN bD mX oE dY fY x1 x2 rJ pX rO vQ := by
  have l0 := aI2
  have l1 := aE0
  have l2 := aEc
  have l3 := li_4
  refine And.intro (fun c23 => ?_) (fun c23 => ?_)
  · skip
    have c23 := (aAO _ _).mp c23
    refine And.intro (fun c24 => ?_) (fun c24 => ?_)
    · skip
      have c24 := mt (zJ _ _).mpr c24
      intro v25 ev25
      have f26 := aDv 7 128 fY (by decide) (by omega)
      have hv25 := congrArg Int32.toInt ev25
      have f29 := aBx x1 (v25 ^^^ (-1)) (by omega)
      refine t_X3_waySeconds aAC (by omega) wX (fun r27 => ?_)
      intro v30 ev30
      have hv30 := congrArg Int32.toInt ev30
      exact hpost _ _ _ _ _ 
    · skip
      have c24 := (zJ _ _).mp c24
      refine t_X3_waySeconds aAC aBK wX (fun r32 => ?_)
      intro v33 ev33
      have hv33 := congrArg Int32.toInt ev33
      exact hpost _ _ _ _ _ 
  · skip
    have c23 := mt (aAO _ _).mpr c23
    refine And.intro (aBZ (by omega)) ?_
    intro v35 ev35
    have hv35 := congrArg Int32.toInt ev35
    intro v37 ev37
    have hv37 := congrArg Int32.toInt ev37
    intro v39 ev39
    have f40 := aAT (if 1 < v37 then v37 else 1)
    have f42 := aAT v37
    have f41 := ti_max (1 : Int32) v37
    have hv39 := congrArg Int32.toInt ev39
    intro v43 ev43
    have hv43 := congrArg Int32.toInt ev43
    intro v45 ev45
    have hv45 := congrArg Int32.toInt ev45
    have f47 := aAT v39
    refine And.intro (mt (zJ _ _).mp (by omega)) ?_
    intro v48 ev48
    refine And.intro (aBZ (by omega)) ?_
    intro v49 ev49
    have hv49 := congrArg Int32.toInt ev49
    intro v51 ev51
    have hv51 := congrArg Int32.toInt ev51
    intro v53 ev53
    have hv53 := congrArg Int32.toInt ev53
    intro v55 ev55
    have f56 : Int32.toInt (x2 + 1) = Int32.toInt x2 + Int32.toInt (1 : Int32) := aAD _ _ (by omega)
    rw [← ev55] at f56
    have f57 := aAT rJ
    have f58 := aAT pX
    have f59 := aAT v53
    exact hKn x1 v55 rJ pX v53 vQ aBK (by omega) (by omega)
set_option maxHeartbeats 8000000 in
set_option maxRecDepth 200000 in
theorem tb_X5_workSeconds_109 {post : Int32 → Int32 → Int32 → Int32 → (Nat → Int32) → Prop} (oY : Int32) (rD sG : Nat → Int32) (dN bD : Int32) (mX oE dY : Nat → Int32) (fY : Int32) (aAE : 0 ≤ Int32.toInt oY ∧ Int32.toInt oY ≤ 65535) (zR : ∀ k : Nat, 0 ≤ Int32.toInt (rD k) ∧ Int32.toInt (rD k) ≤ 65535) (aAX : ∀ k : Nat, 0 ≤ Int32.toInt (sG k) ∧ Int32.toInt (sG k) ≤ 99) (xL : 0 ≤ Int32.toInt dN ∧ Int32.toInt dN ≤ 16) (wX : 0 ≤ Int32.toInt bD ∧ Int32.toInt bD ≤ 8) (aAC : -1 ≤ Int32.toInt fY ∧ Int32.toInt fY ≤ 7) (hpost : ∀ (r : Int32) (aJV : Int32) (aGc : Int32) (aJU : Int32) (aLu : Nat → Int32), post r aJV aGc aJU aLu) : ∀ (n : Nat) (x1 x2 rJ pX rO : Int32) (vQ : Nat → Int32), (0 ≤ Int32.toInt x1 ∧ Int32.toInt x1 ≤ 255) → (0 ≤ Int32.toInt x2 ∧ Int32.toInt x2 ≤ 8) → (8 - Int32.toInt x2 < (n : Int)) → wb_X5_workSeconds_109 post oY rD sG dN bD mX oE dY fY n x1 x2 rJ pX rO vQ := by
  intro n
  induction n with
  | zero =>
    intro x1 x2 rJ pX rO vQ aBK aBN hm
    exfalso; omega
  | succ n ih =>
    intro x1 x2 rJ pX rO vQ aBK aBN hm
    exact ts_X5_workSeconds_109 oY rD sG dN bD mX oE dY fY aAE zR aAX xL wX aAC hpost ih x1 x2 rJ pX rO vQ aBK aBN (by omega)
set_option maxHeartbeats 8000000 in
set_option maxRecDepth 200000 in
theorem ts_X5_workSeconds_28 {post : Int32 → Int32 → Int32 → Int32 → (Nat → Int32) → Prop} {next : Int32 → Int32 → Int32 → Int32 → Int32 → (Nat → Int32) → Prop} {n28 : Int} (oY : Int32) (rD sG : Nat → Int32) (dN bD : Int32) (mX oE dY : Nat → Int32) (fY : Int32) (aAE : 0 ≤ Int32.toInt oY ∧ Int32.toInt oY ≤ 65535) (zR : ∀ k : Nat, 0 ≤ Int32.toInt (rD k) ∧ Int32.toInt (rD k) ≤ 65535) (aAX : ∀ k : Nat, 0 ≤ Int32.toInt (sG k) ∧ Int32.toInt (sG k) ≤ 99) (xL : 0 ≤ Int32.toInt dN ∧ Int32.toInt dN ≤ 16) (wX : 0 ≤ Int32.toInt bD ∧ Int32.toInt bD ≤ 8) (aAC : -1 ≤ Int32.toInt fY ∧ Int32.toInt fY ≤ 7) (hpost : ∀ (r : Int32) (aJV : Int32) (aGc : Int32) (aJU : Int32) (aLu : Nat → Int32), post r aJV aGc aJU aLu) (hKn : ∀ (x1 : Int32) (x2 : Int32) (rJ : Int32) (pX : Int32) (rO : Int32) (vQ : Nat → Int32), (0 ≤ Int32.toInt x1 ∧ Int32.toInt x1 ≤ 255) → (0 ≤ Int32.toInt x2 ∧ Int32.toInt x2 ≤ 16) → (16 - Int32.toInt x2 < n28) → next x1 x2 rJ pX rO vQ) (x1 x2 rJ pX rO : Int32) (vQ : Nat → Int32) (aBK : 0 ≤ Int32.toInt x1 ∧ Int32.toInt x1 ≤ 255) (aBN : 0 ≤ Int32.toInt x2 ∧ Int32.toInt x2 ≤ 16) (hn28 : 16 - Int32.toInt x2 ≤ n28) : ws_X5_workSeconds_28 post next oY rD sG dN bD mX oE dY fY x1 x2 rJ pX rO vQ := by
  have l0 := aI2
  have l1 := aE0
  have l2 := aEc
  refine And.intro (fun c60 => ?_) (fun c60 => ?_)
  · skip
    have c60 := (aAO _ _).mp c60
    have f61 := aAT rJ
    have f62 := aAT pX
    exact ⟨10, tb_X5_workSeconds_109 oY rD sG dN bD mX oE dY fY aAE zR aAX xL wX aAC hpost _ x1 0 rJ pX 0 vQ aBK (by omega) (by omega)⟩
  · skip
    have c60 := mt (aAO _ _).mpr c60
    intro v63 ev63
    have f64 := aRJ oY x2 (by omega)
    have hv63 := congrArg Int32.toInt ev63
    have f66 := aAQ v63 1 (by omega)
    have f67 := aBx v63 1 (by omega)
    refine And.intro (fun c65 => ?_) (fun c65 => ?_)
    · skip
      have c65 := (zJ _ _).mp c65
      have f68 := aAT rJ
      have f69 := aAT pX
      have f70 := aAT rO
      exact ts_X5_workSeconds_60 oY rD sG dN bD mX oE dY fY aAE zR aAX xL wX aAC hpost hKn x1 x2 (-1) rJ pX rO vQ aBK (by omega) (by omega) hn28
    · skip
      have c65 := mt (zJ _ _).mpr c65
      refine t_X5_quickest (by omega) aBK zR aAX wX (fun r71 h_r71 => ?_)
      have f72 := aAT rJ
      have f73 := aAT pX
      have f74 := aAT rO
      exact ts_X5_workSeconds_60 oY rD sG dN bD mX oE dY fY aAE zR aAX xL wX aAC hpost hKn x1 x2 r71 rJ pX rO vQ aBK (by omega) h_r71 hn28
set_option maxHeartbeats 8000000 in
set_option maxRecDepth 200000 in
theorem tb_X5_workSeconds_28 {post : Int32 → Int32 → Int32 → Int32 → (Nat → Int32) → Prop} (oY : Int32) (rD sG : Nat → Int32) (dN bD : Int32) (mX oE dY : Nat → Int32) (fY : Int32) (aAE : 0 ≤ Int32.toInt oY ∧ Int32.toInt oY ≤ 65535) (zR : ∀ k : Nat, 0 ≤ Int32.toInt (rD k) ∧ Int32.toInt (rD k) ≤ 65535) (aAX : ∀ k : Nat, 0 ≤ Int32.toInt (sG k) ∧ Int32.toInt (sG k) ≤ 99) (xL : 0 ≤ Int32.toInt dN ∧ Int32.toInt dN ≤ 16) (wX : 0 ≤ Int32.toInt bD ∧ Int32.toInt bD ≤ 8) (aAC : -1 ≤ Int32.toInt fY ∧ Int32.toInt fY ≤ 7) (hpost : ∀ (r : Int32) (aJV : Int32) (aGc : Int32) (aJU : Int32) (aLu : Nat → Int32), post r aJV aGc aJU aLu) : ∀ (n : Nat) (x1 x2 rJ pX rO : Int32) (vQ : Nat → Int32), (0 ≤ Int32.toInt x1 ∧ Int32.toInt x1 ≤ 255) → (0 ≤ Int32.toInt x2 ∧ Int32.toInt x2 ≤ 16) → (16 - Int32.toInt x2 < (n : Int)) → wb_X5_workSeconds_28 post oY rD sG dN bD mX oE dY fY n x1 x2 rJ pX rO vQ := by
  intro n
  induction n with
  | zero =>
    intro x1 x2 rJ pX rO vQ aBK aBN hm
    exfalso; omega
  | succ n ih =>
    intro x1 x2 rJ pX rO vQ aBK aBN hm
    exact ts_X5_workSeconds_28 oY rD sG dN bD mX oE dY fY aAE zR aAX xL wX aAC hpost ih x1 x2 rJ pX rO vQ aBK aBN (by omega)
set_option maxHeartbeats 8000000 in
set_option maxRecDepth 200000 in
theorem ts_X5_workSeconds_2 {post : Int32 → Int32 → Int32 → Int32 → (Nat → Int32) → Prop} {next : Int32 → Int32 → Int32 → Int32 → Int32 → (Nat → Int32) → Prop} {n2 : Int} (oY : Int32) (rD sG : Nat → Int32) (dN bD : Int32) (mX oE dY : Nat → Int32) (fY : Int32) (aAE : 0 ≤ Int32.toInt oY ∧ Int32.toInt oY ≤ 65535) (zR : ∀ k : Nat, 0 ≤ Int32.toInt (rD k) ∧ Int32.toInt (rD k) ≤ 65535) (aAX : ∀ k : Nat, 0 ≤ Int32.toInt (sG k) ∧ Int32.toInt (sG k) ≤ 99) (xL : 0 ≤ Int32.toInt dN ∧ Int32.toInt dN ≤ 16) (wX : 0 ≤ Int32.toInt bD ∧ Int32.toInt bD ≤ 8) (aAC : -1 ≤ Int32.toInt fY ∧ Int32.toInt fY ≤ 7) (hpost : ∀ (r : Int32) (aJV : Int32) (aGc : Int32) (aJU : Int32) (aLu : Nat → Int32), post r aJV aGc aJU aLu) (hKn : ∀ (x1 : Int32) (x2 : Int32) (rJ : Int32) (pX : Int32) (rO : Int32) (vQ : Nat → Int32), (0 ≤ Int32.toInt x1 ∧ Int32.toInt x1 ≤ 255) → (0 ≤ Int32.toInt x2 ∧ Int32.toInt x2 ≤ 8) → (8 - Int32.toInt x2 < n2) → next x1 x2 rJ pX rO vQ) (x1 x2 rJ pX rO : Int32) (vQ : Nat → Int32) (aBK : 0 ≤ Int32.toInt x1 ∧ Int32.toInt x1 ≤ 255) (aBN : 0 ≤ Int32.toInt x2 ∧ Int32.toInt x2 ≤ 8) (hn2 : 8 - Int32.toInt x2 ≤ n2) : ws_X5_workSeconds_2 post next oY rD sG dN bD mX oE dY fY x1 x2 rJ pX rO vQ := by
  have l0 := aE0
  have l1 := aEc
  have l2 := li_8
  refine And.intro (fun c75 => ?_) (fun c75 => ?_)
  · skip
    have c75 := (aAO _ _).mp c75
    have f76 := aAT rJ
    have f77 := aAT rO
    exact ⟨18, tb_X5_workSeconds_28 oY rD sG dN bD mX oE dY fY aAE zR aAX xL wX aAC hpost _ x1 0 rJ 0 rO vQ aBK (by omega) (by omega)⟩
  · skip
    have c75 := mt (aAO _ _).mpr c75
    refine And.intro (aBZ (by omega)) ?_
    intro v78 ev78
    have f79 : Int32.toInt (x2 + 1) = Int32.toInt x2 + Int32.toInt (1 : Int32) := aAD _ _ (by omega)
    rw [← ev78] at f79
    have f80 := aAT rJ
    have f81 := aAT pX
    have f82 := aAT rO
    exact hKn x1 v78 rJ pX rO (upd vQ x2.toNatClampNeg 0) aBK (by omega) (by omega)
set_option maxHeartbeats 8000000 in
set_option maxRecDepth 200000 in
theorem tb_X5_workSeconds_2 {post : Int32 → Int32 → Int32 → Int32 → (Nat → Int32) → Prop} (oY : Int32) (rD sG : Nat → Int32) (dN bD : Int32) (mX oE dY : Nat → Int32) (fY : Int32) (aAE : 0 ≤ Int32.toInt oY ∧ Int32.toInt oY ≤ 65535) (zR : ∀ k : Nat, 0 ≤ Int32.toInt (rD k) ∧ Int32.toInt (rD k) ≤ 65535) (aAX : ∀ k : Nat, 0 ≤ Int32.toInt (sG k) ∧ Int32.toInt (sG k) ≤ 99) (xL : 0 ≤ Int32.toInt dN ∧ Int32.toInt dN ≤ 16) (wX : 0 ≤ Int32.toInt bD ∧ Int32.toInt bD ≤ 8) (aAC : -1 ≤ Int32.toInt fY ∧ Int32.toInt fY ≤ 7) (hpost : ∀ (r : Int32) (aJV : Int32) (aGc : Int32) (aJU : Int32) (aLu : Nat → Int32), post r aJV aGc aJU aLu) : ∀ (n : Nat) (x1 x2 rJ pX rO : Int32) (vQ : Nat → Int32), (0 ≤ Int32.toInt x1 ∧ Int32.toInt x1 ≤ 255) → (0 ≤ Int32.toInt x2 ∧ Int32.toInt x2 ≤ 8) → (8 - Int32.toInt x2 < (n : Int)) → wb_X5_workSeconds_2 post oY rD sG dN bD mX oE dY fY n x1 x2 rJ pX rO vQ := by
  intro n
  induction n with
  | zero =>
    intro x1 x2 rJ pX rO vQ aBK aBN hm
    exfalso; omega
  | succ n ih =>
    intro x1 x2 rJ pX rO vQ aBK aBN hm
    exact ts_X5_workSeconds_2 oY rD sG dN bD mX oE dY fY aAE zR aAX xL wX aAC hpost ih x1 x2 rJ pX rO vQ aBK aBN (by omega)
set_option maxHeartbeats 8000000 in
set_option maxRecDepth 200000 in
theorem t_X5_workSeconds {post : Int32 → Int32 → Int32 → Int32 → (Nat → Int32) → Prop} {p0 oY rJ pX rO : Int32} {rD sG vQ : Nat → Int32} {dN bD : Int32} {mX oE dY : Nat → Int32} {fY : Int32} (h_p0 : 0 ≤ Int32.toInt p0 ∧ Int32.toInt p0 ≤ 255) (aAE : 0 ≤ Int32.toInt oY ∧ Int32.toInt oY ≤ 65535) (zR : ∀ k : Nat, 0 ≤ Int32.toInt (rD k) ∧ Int32.toInt (rD k) ≤ 65535) (aAX : ∀ k : Nat, 0 ≤ Int32.toInt (sG k) ∧ Int32.toInt (sG k) ≤ 99) (xL : 0 ≤ Int32.toInt dN ∧ Int32.toInt dN ≤ 16) (wX : 0 ≤ Int32.toInt bD ∧ Int32.toInt bD ≤ 8) (aAC : -1 ≤ Int32.toInt fY ∧ Int32.toInt fY ≤ 7) (hpost : ∀ (r : Int32) (aJV : Int32) (aGc : Int32) (aJU : Int32) (aLu : Nat → Int32), post r aJV aGc aJU aLu) : wp_X5_workSeconds post p0 oY rJ pX rO rD sG vQ dN bD mX oE dY fY := by
  have l0 := aE0
  have f83 := aAT rJ
  have f84 := aAT pX
  have f85 := aAT rO
  exact ⟨10, tb_X5_workSeconds_2 oY rD sG dN bD mX oE dY fY aAE zR aAX xL wX aAC hpost _ p0 0 rJ pX rO vQ h_p0 (by omega) (by omega)⟩
