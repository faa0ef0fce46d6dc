set_option maxHeartbeats 8000000 in
set_option maxRecDepth 200000 in
theorem ts_X3_readLine_28 {post : Int32 → Int32 → Int32 → Int32 → (Nat → Int32) → (Nat → Int32) → (Nat → Int32) → (Nat → Int32) → (Nat → Int32) → (Nat → Int32) → Prop} (rX : Int32) (qM : Nat → Int32) (aA2 : 0 ≤ Int32.toInt rX ∧ Int32.toInt rX ≤ 79) (aAI : ∀ k : Nat, 0 ≤ Int32.toInt (qM k) ∧ Int32.toInt (qM k) ≤ 65535) (hpost : ∀ (r : Int32) (aBS : Int32) (aCR : Int32) (aCc : Int32) (tr_x' : Nat → Int32) (aNV : Nat → Int32) (aJW : Nat → Int32) (aXi : Nat → Int32) (tr_foot' : Nat → Int32) (tr_fork' : Nat → Int32), (0 ≤ Int32.toInt r ∧ Int32.toInt r ≤ 1) → (0 ≤ Int32.toInt aBS ∧ Int32.toInt aBS ≤ 80) → (0 ≤ Int32.toInt aCR ∧ Int32.toInt aCR ≤ 16) → (0 ≤ Int32.toInt aCc ∧ Int32.toInt aCc ≤ 8) → post r aBS aCR aCc tr_x' aNV aJW aXi tr_foot' tr_fork') (qJ bJ aI : Int32) (uU gF pL qF mX oE : Nat → Int32) (aA0 : 0 ≤ Int32.toInt qJ ∧ Int32.toInt qJ ≤ 79) (aAU : 0 ≤ Int32.toInt bJ ∧ Int32.toInt bJ ≤ 16) (aAG : 0 ≤ Int32.toInt aI ∧ Int32.toInt aI ≤ 8) : ws_X3_readLine_28 post rX qM qJ bJ aI uU gF pL qF mX oE := by
  have l0 := aI2
  have l1 := aE0
  have l2 := aEc
  have l3 := li_115
  have l4 := li_2
  have l5 := li_44
  have l6 := li_8
  refine And.intro (fun c1 => ?_) (fun c1 => ?_)
  · skip
    have c1 := (aAO _ _).mp c1
    refine And.intro (fun _ => ?_) (fun h9 => absurd h9 (by decide))
    exact hpost _ _ _ _ _ _ _ _ _ _ (by omega) (by omega) aAU aAG
  · skip
    have c1 := mt (aAO _ _).mpr c1
    refine And.intro (aBZ (by omega)) ?_
    intro v2 ev2
    have f3 := aAI qJ.toNatClampNeg
    have hv2 := congrArg Int32.toInt ev2
    refine And.intro (fun c4 => ?_) (fun c4 => ?_)
    · skip
      have c4 := mt (zJ _ _).mpr c4
      exact hpost _ _ _ _ _ _ _ _ _ _ (by omega) (by omega) aAU aAG
    · skip
      have c4 := (zJ _ _).mp c4
      refine And.intro (fun c5 => ?_) (fun c5 => ?_)
      · skip
        have c5 := (aAO _ _).mp c5
        exact hpost _ _ _ _ _ _ _ _ _ _ (by omega) (by omega) aAU aAG
      · skip
        have c5 := mt (aAO _ _).mpr c5
        refine And.intro (fun c6 => ?_) (fun c6 => ?_)
        · skip
          have c6 := (aAO _ _).mp c6
          refine aXN (by omega) (by omega) (by omega) aAI (fun r8 tx_place_7 h_tx_place_7 => ?_)
          have f10 := aAT r8
          refine And.intro (fun c9 => ?_) (fun c9 => ?_)
          · skip
            have c9 := (zJ _ _).mp c9
            refine And.intro (fun h9 => absurd h9 (by decide)) (fun _ => ?_)
            refine And.intro (aHE (by omega)) ?_
            exact hpost _ _ _ _ _ _ _ _ _ _ (by omega) h_tx_place_7 aAU aAG
          · skip
            have c9 := mt (zJ _ _).mpr c9
            refine And.intro (fun c11 => ?_) (fun c11 => ?_)
            · skip
              have c11 := (aAO _ _).mp c11
              refine And.intro (fun h9 => absurd h9 (by decide)) (fun _ => ?_)
              refine And.intro (fun h9 => absurd h9 (by decide)) (fun _ => ?_)
              refine And.intro (fun h9 => absurd h9 (by decide)) (fun _ => ?_)
              refine And.intro (aHE (by omega)) ?_
              exact hpost _ _ _ _ _ _ _ _ _ _ (by omega) h_tx_place_7 aAU aAG
            · skip
              have c11 := mt (aAO _ _).mpr c11
              refine And.intro (aBZ (by omega)) ?_
              intro v12 ev12
              have f13 := aAI tx_place_7.toNatClampNeg
              have hv12 := congrArg Int32.toInt ev12
              refine And.intro (fun c14 => ?_) (fun c14 => ?_)
              · skip
                have c14 := (zJ _ _).mp c14
                intro v15 ev15
                have f16 : Int32.toInt (tx_place_7 + 1) = Int32.toInt tx_place_7 + Int32.toInt (1 : Int32) := aAD _ _ (by omega)
                rw [← ev15] at f16
                refine And.intro (fun _ => ?_) (fun h9 => absurd h9 (by decide))
                refine aXN (by omega) (by omega) (by omega) aAI (fun r18 tx_place_17 h_tx_place_17 => ?_)
                have f20 := aAT r18
                refine And.intro (fun c19 => ?_) (fun c19 => ?_)
                · skip
                  have c19 := (zJ _ _).mp c19
                  refine And.intro (fun h9 => absurd h9 (by decide)) (fun _ => ?_)
                  refine And.intro (aHE (by omega)) ?_
                  exact hpost _ _ _ _ _ _ _ _ _ _ (by omega) h_tx_place_17 aAU aAG
                · skip
                  have c19 := mt (zJ _ _).mpr c19
                  refine And.intro (fun c21 => ?_) (fun c21 => ?_)
                  · skip
                    have c21 := (aAd _ _).mp c21
                    exfalso; omega
                  · skip
                    have c21 := mt (aAd _ _).mpr c21
                    refine And.intro (fun c22 => ?_) (fun c22 => ?_)
                    · skip
                      have c22 := (aAO _ _).mp c22
                      exfalso; omega
                    · skip
                      have c22 := mt (aAO _ _).mpr c22
                      refine And.intro (fun c23 => ?_) (fun c23 => ?_)
                      · skip
                        have c23 := (aAd _ _).mp c23
                        refine And.intro (aBZ (by omega)) ?_
                        refine And.intro (aBZ (by omega)) ?_
                        refine And.intro (fun _ => ?_) (fun h9 => absurd h9 (by decide))
                        intro v24 ev24
                        have f25 : Int32.toInt (aI + 1) = Int32.toInt aI + Int32.toInt (1 : Int32) := aAD _ _ (by omega)
                        rw [← ev24] at f25
                        refine And.intro (aHE (by omega)) ?_
                        exact hpost _ _ _ _ _ _ _ _ _ _ (by omega) h_tx_place_17 aAU (by omega)
                      · skip
                        have c23 := mt (aAd _ _).mpr c23
                        exfalso; omega
              · skip
                have c14 := mt (zJ _ _).mpr c14
                refine And.intro (fun h9 => absurd h9 (by decide)) (fun _ => ?_)
                refine And.intro (fun h9 => absurd h9 (by decide)) (fun _ => ?_)
                refine And.intro (aHE (by omega)) ?_
                exact hpost _ _ _ _ _ _ _ _ _ _ (by omega) h_tx_place_7 aAU aAG
        · skip
          have c6 := mt (aAO _ _).mpr c6
          intro v26 ev26
          have f27 : Int32.toInt (qJ + 1) = Int32.toInt qJ + Int32.toInt (1 : Int32) := aAD _ _ (by omega)
          rw [← ev26] at f27
          refine aXN (by omega) (by omega) (by omega) aAI (fun r29 tx_place_28 h_tx_place_28 => ?_)
          have f31 := aAT r29
          refine And.intro (fun c30 => ?_) (fun c30 => ?_)
          · skip
            have c30 := (zJ _ _).mp c30
            refine And.intro (fun h9 => absurd h9 (by decide)) (fun _ => ?_)
            refine And.intro (aHE (by omega)) ?_
            exact hpost _ _ _ _ _ _ _ _ _ _ (by omega) h_tx_place_28 aAU aAG
          · skip
            have c30 := mt (zJ _ _).mpr c30
            refine And.intro (fun c32 => ?_) (fun c32 => ?_)
            · skip
              have c32 := (aAO _ _).mp c32
              refine And.intro (fun h9 => absurd h9 (by decide)) (fun _ => ?_)
              refine And.intro (fun h9 => absurd h9 (by decide)) (fun _ => ?_)
              refine And.intro (fun h9 => absurd h9 (by decide)) (fun _ => ?_)
              refine And.intro (aHE (by omega)) ?_
              exact hpost _ _ _ _ _ _ _ _ _ _ (by omega) h_tx_place_28 aAU aAG
            · skip
              have c32 := mt (aAO _ _).mpr c32
              refine And.intro (aBZ (by omega)) ?_
              intro v33 ev33
              have f34 := aAI tx_place_28.toNatClampNeg
              have hv33 := congrArg Int32.toInt ev33
              refine And.intro (fun c35 => ?_) (fun c35 => ?_)
              · skip
                have c35 := (zJ _ _).mp c35
                intro v36 ev36
                have f37 : Int32.toInt (tx_place_28 + 1) = Int32.toInt tx_place_28 + Int32.toInt (1 : Int32) := aAD _ _ (by omega)
                rw [← ev36] at f37
                refine And.intro (fun _ => ?_) (fun h9 => absurd h9 (by decide))
                refine aXN (by omega) (by omega) (by omega) aAI (fun r39 tx_place_38 h_tx_place_38 => ?_)
                have f41 := aAT r39
                refine And.intro (fun c40 => ?_) (fun c40 => ?_)
                · skip
                  have c40 := (zJ _ _).mp c40
                  refine And.intro (fun h9 => absurd h9 (by decide)) (fun _ => ?_)
                  refine And.intro (aHE (by omega)) ?_
                  exact hpost _ _ _ _ _ _ _ _ _ _ (by omega) h_tx_place_38 aAU aAG
                · skip
                  have c40 := mt (zJ _ _).mpr c40
                  refine And.intro (fun c42 => ?_) (fun c42 => ?_)
                  · skip
                    have c42 := (aAd _ _).mp c42
                    exfalso; omega
                  · skip
                    have c42 := mt (aAd _ _).mpr c42
                    refine And.intro (fun c43 => ?_) (fun c43 => ?_)
                    · skip
                      have c43 := (aAO _ _).mp c43
                      exfalso; omega
                    · skip
                      have c43 := mt (aAO _ _).mpr c43
                      refine And.intro (fun c44 => ?_) (fun c44 => ?_)
                      · skip
                        have c44 := (aAd _ _).mp c44
                        refine And.intro (aBZ (by omega)) ?_
                        refine And.intro (aBZ (by omega)) ?_
                        refine And.intro (fun _ => ?_) (fun h9 => absurd h9 (by decide))
                        intro v45 ev45
                        have f46 : Int32.toInt (aI + 1) = Int32.toInt aI + Int32.toInt (1 : Int32) := aAD _ _ (by omega)
                        rw [← ev45] at f46
                        refine And.intro (aHE (by omega)) ?_
                        exact hpost _ _ _ _ _ _ _ _ _ _ (by omega) h_tx_place_38 aAU (by omega)
                      · skip
                        have c44 := mt (aAd _ _).mpr c44
                        exfalso; omega
              · skip
                have c35 := mt (zJ _ _).mpr c35
                refine And.intro (fun h9 => absurd h9 (by decide)) (fun _ => ?_)
                refine And.intro (fun h9 => absurd h9 (by decide)) (fun _ => ?_)
                refine And.intro (aHE (by omega)) ?_
                exact hpost _ _ _ _ _ _ _ _ _ _ (by omega) h_tx_place_28 aAU aAG
set_option maxHeartbeats 8000000 in
set_option maxRecDepth 200000 in
theorem t_X3_readLine {post : Int32 → Int32 → Int32 → Int32 → (Nat → Int32) → (Nat → Int32) → (Nat → Int32) → (Nat → Int32) → (Nat → Int32) → (Nat → Int32) → Prop} {qJ rX : Int32} {qM : Nat → Int32} {bJ aI : Int32} {uU gF pL qF mX oE : Nat → Int32} (aA0 : 0 ≤ Int32.toInt qJ ∧ Int32.toInt qJ ≤ 79) (aA2 : 0 ≤ Int32.toInt rX ∧ Int32.toInt rX ≤ 79) (aAI : ∀ k : Nat, 0 ≤ Int32.toInt (qM k) ∧ Int32.toInt (qM k) ≤ 65535) (aAU : 0 ≤ Int32.toInt bJ ∧ Int32.toInt bJ ≤ 16) (aAG : 0 ≤ Int32.toInt aI ∧ Int32.toInt aI ≤ 8) (hpost : ∀ (r : Int32) (aBS : Int32) (aCR : Int32) (aCc : Int32) (tr_x' : Nat → Int32) (aNV : Nat → Int32) (aJW : Nat → Int32) (aXi : Nat → Int32) (tr_foot' : Nat → Int32) (tr_fork' : Nat → Int32), (0 ≤ Int32.toInt r ∧ Int32.toInt r ≤ 1) → (0 ≤ Int32.toInt aBS ∧ Int32.toInt aBS ≤ 80) → (0 ≤ Int32.toInt aCR ∧ Int32.toInt aCR ≤ 16) → (0 ≤ Int32.toInt aCc ∧ Int32.toInt aCc ≤ 8) → post r aBS aCR aCc tr_x' aNV aJW aXi tr_foot' tr_fork') : wp_X3_readLine post qJ rX qM bJ aI uU gF pL qF mX oE := by
  have l0 := aEc
  have l1 := li_102
  have l2 := li_16
  refine And.intro (fun c47 => ?_) (fun c47 => ?_)
  · skip
    have c47 := (aAO _ _).mp c47
    refine And.intro (fun _ => ?_) (fun h9 => absurd h9 (by decide))
    exact ts_X3_readLine_28 rX qM aA2 aAI hpost qJ bJ aI uU gF pL qF mX oE aA0 aAU aAG
  · skip
    have c47 := mt (aAO _ _).mpr c47
    refine And.intro (aBZ (by omega)) ?_
    intro v48 ev48
    have f49 := aAI qJ.toNatClampNeg
    have hv48 := congrArg Int32.toInt ev48
    refine And.intro (fun c50 => ?_) (fun c50 => ?_)
    · skip
      have c50 := mt (zJ _ _).mpr c50
      exact ts_X3_readLine_28 rX qM aA2 aAI hpost qJ bJ aI uU gF pL qF mX oE aA0 aAU aAG
    · skip
      have c50 := (zJ _ _).mp c50
      refine And.intro (fun c51 => ?_) (fun c51 => ?_)
      · skip
        have c51 := (aAO _ _).mp c51
        exact ts_X3_readLine_28 rX qM aA2 aAI hpost qJ bJ aI uU gF pL qF mX oE aA0 aAU aAG
      · skip
        have c51 := mt (aAO _ _).mpr c51
        refine And.intro (fun c52 => ?_) (fun c52 => ?_)
        · skip
          have c52 := (aAO _ _).mp c52
          refine t_X3_readFruit (by omega) (by omega) aAI (by omega) (fun r59 tx_place_53 tr_comingFruits_54 tr_x_55 tr_height_56 tr_worth_57 tr_ripe_58 h_r59 h_tx_place_53 h_tr_comingFruits_54 => ?_)
          refine And.intro (aHE (by omega)) ?_
          exact hpost _ _ _ _ _ _ _ _ _ _ h_r59 h_tx_place_53 h_tr_comingFruits_54 aAG
        · skip
          have c52 := mt (aAO _ _).mpr c52
          intro v60 ev60
          have f61 : Int32.toInt (qJ + 1) = Int32.toInt qJ + Int32.toInt (1 : Int32) := aAD _ _ (by omega)
          rw [← ev60] at f61
          refine t_X3_readFruit (by omega) (by omega) aAI (by omega) (fun r68 tx_place_62 tr_comingFruits_63 tr_x_64 tr_height_65 tr_worth_66 tr_ripe_67 h_r68 h_tx_place_62 h_tr_comingFruits_63 => ?_)
          refine And.intro (aHE (by omega)) ?_
          exact hpost _ _ _ _ _ _ _ _ _ _ h_r68 h_tx_place_62 h_tr_comingFruits_63 aAG
set_option maxHeartbeats 8000000 in
set_option maxRecDepth 200000 in
theorem ts_X3_readLines_18 {post next : Int32 → Int32 → Int32 → Int32 → (Nat → Int32) → (Nat → Int32) → (Nat → Int32) → (Nat → Int32) → (Nat → Int32) → (Nat → Int32) → Prop} {n18 : Int} (rX : Int32) (qM : Nat → Int32) (dN bD : Int32) (aA2 : 0 ≤ Int32.toInt rX ∧ Int32.toInt rX ≤ 79) (aAI : ∀ k : Nat, 0 ≤ Int32.toInt (qM k) ∧ Int32.toInt (qM k) ≤ 65535) (xL : 0 ≤ Int32.toInt dN ∧ Int32.toInt dN ≤ 16) (wX : 0 ≤ Int32.toInt bD ∧ Int32.toInt bD ≤ 8) (hpost : ∀ (r : Int32) (aBS : Int32) (aCR : Int32) (aCc : Int32) (tr_x' : Nat → Int32) (aNV : Nat → Int32) (aJW : Nat → Int32) (aXi : Nat → Int32) (tr_foot' : Nat → Int32) (tr_fork' : Nat → Int32), (-1 ≤ Int32.toInt r ∧ Int32.toInt r ≤ 79) → (0 ≤ Int32.toInt aBS ∧ Int32.toInt aBS ≤ 80) → (0 ≤ Int32.toInt aCR ∧ Int32.toInt aCR ≤ 16) → (0 ≤ Int32.toInt aCc ∧ Int32.toInt aCc ≤ 8) → post r aBS aCR aCc tr_x' aNV aJW aXi tr_foot' tr_fork') (hKn : ∀ (x2 : Int32) (qJ : Int32) (bJ : Int32) (aI : Int32) (uU : Nat → Int32) (gF : Nat → Int32) (pL : Nat → Int32) (qF : Nat → Int32) (mX : Nat → Int32) (oE : Nat → Int32), (1 ≤ Int32.toInt x2 ∧ Int32.toInt x2 ≤ 79) → (0 ≤ Int32.toInt qJ ∧ Int32.toInt qJ ≤ 79) → (0 ≤ Int32.toInt bJ ∧ Int32.toInt bJ ≤ 16) → (0 ≤ Int32.toInt aI ∧ Int32.toInt aI ≤ 8) → (79 - Int32.toInt x2 < n18) → next x2 qJ bJ aI uU gF pL qF mX oE) (x2 qJ bJ aI : Int32) (uU gF pL qF mX oE : Nat → Int32) (aBN : 1 ≤ Int32.toInt x2 ∧ Int32.toInt x2 ≤ 79) (aA0 : 0 ≤ Int32.toInt qJ ∧ Int32.toInt qJ ≤ 79) (aAU : 0 ≤ Int32.toInt bJ ∧ Int32.toInt bJ ≤ 16) (aAG : 0 ≤ Int32.toInt aI ∧ Int32.toInt aI ≤ 8) (hn18 : 79 - Int32.toInt x2 ≤ n18) : ws_X3_readLines_18 post next rX qM dN bD x2 qJ bJ aI uU gF pL qF mX oE := by
  have l0 := aI2
  have l1 := aE0
  have l2 := aEc
  have l3 := li_59
  have l4 := li_76
  refine And.intro (fun c1 => ?_) (fun c1 => ?_)
  · skip
    have c1 := (aAd _ _).mp c1
    exact hpost _ _ _ _ _ _ _ _ _ _ (by omega) (by omega) aAU aAG
  · skip
    have c1 := mt (aAd _ _).mpr c1
    refine t_X3_readLine aA0 aA2 aAI aAU aAG (fun r11 aCK aUz aOr tr_x_5 tr_height_6 tr_worth_7 tr_ripe_8 tr_foot_9 tr_fork_10 h_r11 h_tx_place_2 h_tr_comingFruits_3 h_tr_comingStandings_4 => ?_)
    refine And.intro (fun c12 => ?_) (fun c12 => ?_)
    · skip
      have c12 := mt (zJ _ _).mpr c12
      refine And.intro (fun c13 => ?_) (fun c13 => ?_)
      · skip
        have c13 := (aAO _ _).mp c13
        refine And.intro (fun h9 => absurd h9 (by decide)) (fun _ => ?_)
        refine And.intro (fun h9 => absurd h9 (by decide)) (fun _ => ?_)
        exact hpost _ _ _ _ _ _ _ _ _ _ (by omega) h_tx_place_2 h_tr_comingFruits_3 h_tr_comingStandings_4
      · skip
        have c13 := mt (aAO _ _).mpr c13
        refine And.intro (aBZ (by omega)) ?_
        intro v14 ev14
        have f15 := aAI aCK.toNatClampNeg
        have hv14 := congrArg Int32.toInt ev14
        refine And.intro (fun c16 => ?_) (fun c16 => ?_)
        · skip
          have c16 := (zJ _ _).mp c16
          intro v17 ev17
          have f18 : Int32.toInt (aCK + 1) = Int32.toInt aCK + Int32.toInt (1 : Int32) := aAD _ _ (by omega)
          rw [← ev17] at f18
          refine And.intro (fun _ => ?_) (fun h9 => absurd h9 (by decide))
          intro v19 ev19
          have f20 : Int32.toInt (x2 + 1) = Int32.toInt x2 + Int32.toInt (1 : Int32) := aAD _ _ (by omega)
          rw [← ev19] at f20
          exact hKn v19 v17 aUz aOr tr_x_5 tr_height_6 tr_worth_7 tr_ripe_8 tr_foot_9 tr_fork_10 (by omega) (by omega) h_tr_comingFruits_3 h_tr_comingStandings_4 (by omega)
        · skip
          have c16 := mt (zJ _ _).mpr c16
          refine And.intro (fun h9 => absurd h9 (by decide)) (fun _ => ?_)
          exact hpost _ _ _ _ _ _ _ _ _ _ (by omega) h_tx_place_2 h_tr_comingFruits_3 h_tr_comingStandings_4
    · skip
      have c12 := (zJ _ _).mp c12
      exact hpost _ _ _ _ _ _ _ _ _ _ (by omega) h_tx_place_2 h_tr_comingFruits_3 h_tr_comingStandings_4
set_option maxHeartbeats 8000000 in
set_option maxRecDepth 200000 in
theorem tb_X3_readLines_18 {post : Int32 → Int32 → Int32 → Int32 → (Nat → Int32) → (Nat → Int32) → (Nat → Int32) → (Nat → Int32) → (Nat → Int32) → (Nat → Int32) → Prop} (rX : Int32) (qM : Nat → Int32) (dN bD : Int32) (aA2 : 0 ≤ Int32.toInt rX ∧ Int32.toInt rX ≤ 79) (aAI : ∀ k : Nat, 0 ≤ Int32.toInt (qM k) ∧ Int32.toInt (qM k) ≤ 65535) (xL : 0 ≤ Int32.toInt dN ∧ Int32.toInt dN ≤ 16) (wX : 0 ≤ Int32.toInt bD ∧ Int32.toInt bD ≤ 8) (hpost : ∀ (r : Int32) (aBS : Int32) (aCR : Int32) (aCc : Int32) (tr_x' : Nat → Int32) (aNV : Nat → Int32) (aJW : Nat → Int32) (aXi : Nat → Int32) (tr_foot' : Nat → Int32) (tr_fork' : Nat → Int32), (-1 ≤ Int32.toInt r ∧ Int32.toInt r ≤ 79) → (0 ≤ Int32.toInt aBS ∧ Int32.toInt aBS ≤ 80) → (0 ≤ Int32.toInt aCR ∧ Int32.toInt aCR ≤ 16) → (0 ≤ Int32.toInt aCc ∧ Int32.toInt aCc ≤ 8) → post r aBS aCR aCc tr_x' aNV aJW aXi tr_foot' tr_fork') : ∀ (n : Nat) (x2 qJ bJ aI : Int32) (uU gF pL qF mX oE : Nat → Int32), (1 ≤ Int32.toInt x2 ∧ Int32.toInt x2 ≤ 79) → (0 ≤ Int32.toInt qJ ∧ Int32.toInt qJ ≤ 79) → (0 ≤ Int32.toInt bJ ∧ Int32.toInt bJ ≤ 16) → (0 ≤ Int32.toInt aI ∧ Int32.toInt aI ≤ 8) → (79 - Int32.toInt x2 < (n : Int)) → wb_X3_readLines_18 post rX qM dN bD n x2 qJ bJ aI uU gF pL qF mX oE := by
  intro n
  induction n with
  | zero =>
    intro x2 qJ bJ aI uU gF pL qF mX oE aBN aA0 aAU aAG hm
    exfalso; omega
  | succ n ih =>
    intro x2 qJ bJ aI uU gF pL qF mX oE aBN aA0 aAU aAG hm
    exact ts_X3_readLines_18 rX qM dN bD aA2 aAI xL wX hpost ih x2 qJ bJ aI uU gF pL qF mX oE aBN aA0 aAU aAG (by omega)
set_option maxHeartbeats 8000000 in
set_option maxRecDepth 200000 in
theorem t_X3_readLines {post : Int32 → Int32 → Int32 → Int32 → (Nat → Int32) → (Nat → Int32) → (Nat → Int32) → (Nat → Int32) → (Nat → Int32) → (Nat → Int32) → Prop} {qJ rX : Int32} {qM : Nat → Int32} {dN bD bJ aI : Int32} {uU gF pL qF mX oE : Nat → Int32} (aA0 : 0 ≤ Int32.toInt qJ ∧ Int32.toInt qJ ≤ 0) (aA2 : 0 ≤ Int32.toInt rX ∧ Int32.toInt rX ≤ 79) (aAI : ∀ k : Nat, 0 ≤ Int32.toInt (qM k) ∧ Int32.toInt (qM k) ≤ 65535) (xL : 0 ≤ Int32.toInt dN ∧ Int32.toInt dN ≤ 16) (wX : 0 ≤ Int32.toInt bD ∧ Int32.toInt bD ≤ 8) (aAU : 0 ≤ Int32.toInt bJ ∧ Int32.toInt bJ ≤ 16) (aAG : 0 ≤ Int32.toInt aI ∧ Int32.toInt aI ≤ 8) (hpost : ∀ (r : Int32) (aBS : Int32) (aCR : Int32) (aCc : Int32) (tr_x' : Nat → Int32) (aNV : Nat → Int32) (aJW : Nat → Int32) (aXi : Nat → Int32) (tr_foot' : Nat → Int32) (tr_fork' : Nat → Int32), (-1 ≤ Int32.toInt r ∧ Int32.toInt r ≤ 79) → (0 ≤ Int32.toInt aBS ∧ Int32.toInt aBS ≤ 80) → (0 ≤ Int32.toInt aCR ∧ Int32.toInt aCR ≤ 16) → (0 ≤ Int32.toInt aCc ∧ Int32.toInt aCc ≤ 8) → post r aBS aCR aCc tr_x' aNV aJW aXi tr_foot' tr_fork') : wp_X3_readLines post qJ rX qM dN bD bJ aI uU gF pL qF mX oE := by
  have l0 := aEc
  exact ⟨80, tb_X3_readLines_18 rX qM dN bD aA2 aAI xL wX hpost _ 1 qJ dN bD uU gF pL qF mX oE (by omega) (by omega) xL wX (by omega)⟩
set_option maxHeartbeats 8000000 in
set_option maxRecDepth 200000 in
theorem ts_X9_orchard_94 {post : Int32 → Int32 → Int32 → Int32 → Int32 → Int32 → Int32 → Int32 → (Nat → Int32) → (Nat → Int32) → (Nat → Int32) → (Nat → Int32) → (Nat → Int32) → (Nat → Int32) → Int32 → (Nat → Int32) → Prop} (qM : Nat → Int32) (aAI : ∀ k : Nat, 0 ≤ Int32.toInt (qM k) ∧ Int32.toInt (qM k) ≤ 65535) (hpost : ∀ (r : Int32) (aCZ : Int32) (aBS : Int32) (aGd : Int32) (aR4 : Int32) (aKJ : Int32) (aCR : Int32) (aCc : Int32) (tr_x' : Nat → Int32) (aNV : Nat → Int32) (aJW : Nat → Int32) (aXi : Nat → Int32) (tr_foot' : Nat → Int32) (tr_fork' : Nat → Int32) (aBa : Int32) (aHq : Nat → Int32), (-100 ≤ Int32.toInt r ∧ Int32.toInt r ≤ 79) → (0 ≤ Int32.toInt aCZ ∧ Int32.toInt aCZ ≤ 0) → (0 ≤ Int32.toInt aBS ∧ Int32.toInt aBS ≤ 80) → (0 ≤ Int32.toInt aGd ∧ Int32.toInt aGd ≤ 79) → (0 ≤ Int32.toInt aR4 ∧ Int32.toInt aR4 ≤ 16) → (0 ≤ Int32.toInt aKJ ∧ Int32.toInt aKJ ≤ 8) → (0 ≤ Int32.toInt aCR ∧ Int32.toInt aCR ≤ 16) → (0 ≤ Int32.toInt aCc ∧ Int32.toInt aCc ≤ 8) → (0 ≤ Int32.toInt aBa ∧ Int32.toInt aBa ≤ 12) → (∀ k : Nat, 0 ≤ Int32.toInt (aHq k) ∧ Int32.toInt (aHq k) ≤ 1) → post r aCZ aBS aGd aR4 aKJ aCR aCc tr_x' aNV aJW aXi tr_foot' tr_fork' aBa aHq) (x3 qL qJ rX dN bD bJ aI : Int32) (uU gF pL qF mX oE : Nat → Int32) (pR : Int32) (uF : Nat → Int32) (aCH : -100 ≤ Int32.toInt x3 ∧ Int32.toInt x3 ≤ 79) (aBH : 0 ≤ Int32.toInt qL ∧ Int32.toInt qL ≤ 80) (aA0 : 0 ≤ Int32.toInt qJ ∧ Int32.toInt qJ ≤ 80) (aA2 : 0 ≤ Int32.toInt rX ∧ Int32.toInt rX ≤ 79) (xL : 0 ≤ Int32.toInt dN ∧ Int32.toInt dN ≤ 16) (wX : 0 ≤ Int32.toInt bD ∧ Int32.toInt bD ≤ 8) (aAU : 0 ≤ Int32.toInt bJ ∧ Int32.toInt bJ ≤ 16) (aAG : 0 ≤ Int32.toInt aI ∧ Int32.toInt aI ≤ 8) (aAr : 0 ≤ Int32.toInt pR ∧ Int32.toInt pR ≤ 12) (aBU : ∀ k : Nat, 0 ≤ Int32.toInt (uF k) ∧ Int32.toInt (uF k) ≤ 1) : aDC post qM x3 qL qJ rX dN bD bJ aI uU gF pL qF mX oE pR uF := by
  have l0 := aE0
  exact hpost _ _ _ _ _ _ _ _ _ _ _ _ _ _ _ _ aCH (by omega) aA0 aA2 xL wX aAU aAG aAr aBU
set_option maxHeartbeats 8000000 in
set_option maxRecDepth 200000 in
theorem ts_X9_orchard_71 {post : Int32 → Int32 → Int32 → Int32 → Int32 → Int32 → Int32 → Int32 → (Nat → Int32) → (Nat → Int32) → (Nat → Int32) → (Nat → Int32) → (Nat → Int32) → (Nat → Int32) → Int32 → (Nat → Int32) → Prop} (qM : Nat → Int32) (aAI : ∀ k : Nat, 0 ≤ Int32.toInt (qM k) ∧ Int32.toInt (qM k) ≤ 65535) (hpost : ∀ (r : Int32) (aCZ : Int32) (aBS : Int32) (aGd : Int32) (aR4 : Int32) (aKJ : Int32) (aCR : Int32) (aCc : Int32) (tr_x' : Nat → Int32) (aNV : Nat → Int32) (aJW : Nat → Int32) (aXi : Nat → Int32) (tr_foot' : Nat → Int32) (tr_fork' : Nat → Int32) (aBa : Int32) (aHq : Nat → Int32), (-100 ≤ Int32.toInt r ∧ Int32.toInt r ≤ 79) → (0 ≤ Int32.toInt aCZ ∧ Int32.toInt aCZ ≤ 0) → (0 ≤ Int32.toInt aBS ∧ Int32.toInt aBS ≤ 80) → (0 ≤ Int32.toInt aGd ∧ Int32.toInt aGd ≤ 79) → (0 ≤ Int32.toInt aR4 ∧ Int32.toInt aR4 ≤ 16) → (0 ≤ Int32.toInt aKJ ∧ Int32.toInt aKJ ≤ 8) → (0 ≤ Int32.toInt aCR ∧ Int32.toInt aCR ≤ 16) → (0 ≤ Int32.toInt aCc ∧ Int32.toInt aCc ≤ 8) → (0 ≤ Int32.toInt aBa ∧ Int32.toInt aBa ≤ 12) → (∀ k : Nat, 0 ≤ Int32.toInt (aHq k) ∧ Int32.toInt (aHq k) ≤ 1) → post r aCZ aBS aGd aR4 aKJ aCR aCc tr_x' aNV aJW aXi tr_foot' tr_fork' aBa aHq) (x1 x2 k0 qL qJ rX dN bD bJ aI : Int32) (uU gF pL qF mX oE : Nat → Int32) (pR : Int32) (uF : Nat → Int32) (aBK : -1 ≤ Int32.toInt x1 ∧ Int32.toInt x1 ≤ 79) (aBN : 0 ≤ Int32.toInt x2 ∧ Int32.toInt x2 ≤ 1) (h_k0 : -100 ≤ Int32.toInt k0 ∧ Int32.toInt k0 ≤ 79) (aBH : 0 ≤ Int32.toInt qL ∧ Int32.toInt qL ≤ 80) (aA0 : 0 ≤ Int32.toInt qJ ∧ Int32.toInt qJ ≤ 80) (aA2 : 0 ≤ Int32.toInt rX ∧ Int32.toInt rX ≤ 79) (xL : 0 ≤ Int32.toInt dN ∧ Int32.toInt dN ≤ 16) (wX : 0 ≤ Int32.toInt bD ∧ Int32.toInt bD ≤ 8) (aAU : 0 ≤ Int32.toInt bJ ∧ Int32.toInt bJ ≤ 16) (aAG : 0 ≤ Int32.toInt aI ∧ Int32.toInt aI ≤ 8) (aAr : 0 ≤ Int32.toInt pR ∧ Int32.toInt pR ≤ 12) (aBU : ∀ k : Nat, 0 ≤ Int32.toInt (uF k) ∧ Int32.toInt (uF k) ≤ 1) : aLL post qM x1 x2 k0 qL qJ rX dN bD bJ aI uU gF pL qF mX oE pR uF := by
  have l0 := aE0
  refine And.intro (fun c1 => ?_) (fun c1 => ?_)
  · skip
    have c1 := (zJ _ _).mp c1
    exact ts_X9_orchard_94 qM aAI hpost k0 qL qJ rX dN bD bJ aI uU gF pL qF mX oE pR uF h_k0 aBH aA0 aA2 xL wX aAU aAG aAr aBU
  · skip
    have c1 := mt (zJ _ _).mpr c1
    refine And.intro (fun c2 => ?_) (fun c2 => ?_)
    · skip
      have c2 := (aAO _ _).mp c2
      exact ts_X9_orchard_94 qM aAI hpost k0 qL qJ rX dN bD bJ aI uU gF pL qF mX oE pR uF h_k0 aBH aA0 aA2 xL wX aAU aAG aAr aBU
    · skip
      have c2 := mt (aAO _ _).mpr c2
      refine t_X4_forgetAll aAr aBU (fun pa_undoable_3 pa_isKept_4 h_pa_undoable_3 h_pa_isKept_4 => ?_)
      exact ts_X9_orchard_94 qM aAI hpost k0 qL qJ rX bJ aI bJ aI uU gF pL qF mX oE pa_undoable_3 pa_isKept_4 h_k0 aBH aA0 aA2 aAU aAG aAU aAG (by omega) h_pa_isKept_4
set_option maxHeartbeats 8000000 in
set_option maxRecDepth 200000 in
theorem ts_X9_orchard_55 {post : Int32 → Int32 → Int32 → Int32 → Int32 → Int32 → Int32 → Int32 → (Nat → Int32) → (Nat → Int32) → (Nat → Int32) → (Nat → Int32) → (Nat → Int32) → (Nat → Int32) → Int32 → (Nat → Int32) → Prop} (qM : Nat → Int32) (aAI : ∀ k : Nat, 0 ≤ Int32.toInt (qM k) ∧ Int32.toInt (qM k) ≤ 65535) (hpost : ∀ (r : Int32) (aCZ : Int32) (aBS : Int32) (aGd : Int32) (aR4 : Int32) (aKJ : Int32) (aCR : Int32) (aCc : Int32) (tr_x' : Nat → Int32) (aNV : Nat → Int32) (aJW : Nat → Int32) (aXi : Nat → Int32) (tr_foot' : Nat → Int32) (tr_fork' : Nat → Int32) (aBa : Int32) (aHq : Nat → Int32), (-100 ≤ Int32.toInt r ∧ Int32.toInt r ≤ 79) → (0 ≤ Int32.toInt aCZ ∧ Int32.toInt aCZ ≤ 0) → (0 ≤ Int32.toInt aBS ∧ Int32.toInt aBS ≤ 80) → (0 ≤ Int32.toInt aGd ∧ Int32.toInt aGd ≤ 79) → (0 ≤ Int32.toInt aR4 ∧ Int32.toInt aR4 ≤ 16) → (0 ≤ Int32.toInt aKJ ∧ Int32.toInt aKJ ≤ 8) → (0 ≤ Int32.toInt aCR ∧ Int32.toInt aCR ≤ 16) → (0 ≤ Int32.toInt aCc ∧ Int32.toInt aCc ≤ 8) → (0 ≤ Int32.toInt aBa ∧ Int32.toInt aBa ≤ 12) → (∀ k : Nat, 0 ≤ Int32.toInt (aHq k) ∧ Int32.toInt (aHq k) ≤ 1) → post r aCZ aBS aGd aR4 aKJ aCR aCc tr_x' aNV aJW aXi tr_foot' tr_fork' aBa aHq) (x1 k0 qL qJ rX dN bD bJ aI : Int32) (uU gF pL qF mX oE : Nat → Int32) (pR : Int32) (uF : Nat → Int32) (aBK : -1 ≤ Int32.toInt x1 ∧ Int32.toInt x1 ≤ 79) (h_k0 : 0 ≤ Int32.toInt k0 ∧ Int32.toInt k0 ≤ 1) (aBH : 0 ≤ Int32.toInt qL ∧ Int32.toInt qL ≤ 80) (aA0 : 0 ≤ Int32.toInt qJ ∧ Int32.toInt qJ ≤ 80) (aA2 : 0 ≤ Int32.toInt rX ∧ Int32.toInt rX ≤ 79) (xL : 0 ≤ Int32.toInt dN ∧ Int32.toInt dN ≤ 16) (wX : 0 ≤ Int32.toInt bD ∧ Int32.toInt bD ≤ 8) (aAU : 0 ≤ Int32.toInt bJ ∧ Int32.toInt bJ ≤ 16) (aAG : 0 ≤ Int32.toInt aI ∧ Int32.toInt aI ≤ 8) (aAr : 0 ≤ Int32.toInt pR ∧ Int32.toInt pR ≤ 12) (aBU : ∀ k : Nat, 0 ≤ Int32.toInt (uF k) ∧ Int32.toInt (uF k) ≤ 1) : aXn post qM x1 k0 qL qJ rX dN bD bJ aI uU gF pL qF mX oE pR uF := by
  have l0 := aI2
  have l1 := aE0
  refine And.intro (fun c5 => ?_) (fun c5 => ?_)
  · skip
    have c5 := (zJ _ _).mp c5
    have f6 : Int32.toInt ((-1) - qJ) = Int32.toInt ((-1) : Int32) - Int32.toInt qJ := aCA _ _ (by omega)
    obtain ⟨w7, ew7⟩ : ∃ w9 : Int32, w9 = (-1) - qJ := ⟨_, rfl⟩
    rw [← ew7] at f6
    have key9 := ts_X9_orchard_71 qM aAI hpost x1 k0 w7 qL qJ rX dN bD bJ aI uU gF pL qF mX oE pR uF aBK h_k0 (by omega) aBH aA0 aA2 xL wX aAU aAG aAr aBU
    subst ew7
    exact key9
  · skip
    have c5 := mt (zJ _ _).mpr c5
    exact ts_X9_orchard_71 qM aAI hpost x1 k0 x1 qL qJ rX dN bD bJ aI uU gF pL qF mX oE pR uF aBK h_k0 (by omega) aBH aA0 aA2 xL wX aAU aAG aAr aBU
set_option maxHeartbeats 8000000 in
set_option maxRecDepth 200000 in
theorem ts_X9_orchard_54 {post : Int32 → Int32 → Int32 → Int32 → Int32 → Int32 → Int32 → Int32 → (Nat → Int32) → (Nat → Int32) → (Nat → Int32) → (Nat → Int32) → (Nat → Int32) → (Nat → Int32) → Int32 → (Nat → Int32) → Prop} (qM : Nat → Int32) (aAI : ∀ k : Nat, 0 ≤ Int32.toInt (qM k) ∧ Int32.toInt (qM k) ≤ 65535) (hpost : ∀ (r : Int32) (aCZ : Int32) (aBS : Int32) (aGd : Int32) (aR4 : Int32) (aKJ : Int32) (aCR : Int32) (aCc : Int32) (tr_x' : Nat → Int32) (aNV : Nat → Int32) (aJW : Nat → Int32) (aXi : Nat → Int32) (tr_foot' : Nat → Int32) (tr_fork' : Nat → Int32) (aBa : Int32) (aHq : Nat → Int32), (-100 ≤ Int32.toInt r ∧ Int32.toInt r ≤ 79) → (0 ≤ Int32.toInt aCZ ∧ Int32.toInt aCZ ≤ 0) → (0 ≤ Int32.toInt aBS ∧ Int32.toInt aBS ≤ 80) → (0 ≤ Int32.toInt aGd ∧ Int32.toInt aGd ≤ 79) → (0 ≤ Int32.toInt aR4 ∧ Int32.toInt aR4 ≤ 16) → (0 ≤ Int32.toInt aKJ ∧ Int32.toInt aKJ ≤ 8) → (0 ≤ Int32.toInt aCR ∧ Int32.toInt aCR ≤ 16) → (0 ≤ Int32.toInt aCc ∧ Int32.toInt aCc ≤ 8) → (0 ≤ Int32.toInt aBa ∧ Int32.toInt aBa ≤ 12) → (∀ k : Nat, 0 ≤ Int32.toInt (aHq k) ∧ Int32.toInt (aHq k) ≤ 1) → post r aCZ aBS aGd aR4 aKJ aCR aCc tr_x' aNV aJW aXi tr_foot' tr_fork' aBa aHq) (x1 qL qJ rX dN bD bJ aI : Int32) (uU gF pL qF mX oE : Nat → Int32) (pR : Int32) (uF : Nat → Int32) (aBK : -1 ≤ Int32.toInt x1 ∧ Int32.toInt x1 ≤ 79) (aBH : 0 ≤ Int32.toInt qL ∧ Int32.toInt qL ≤ 80) (aA0 : 0 ≤ Int32.toInt qJ ∧ Int32.toInt qJ ≤ 80) (aA2 : 0 ≤ Int32.toInt rX ∧ Int32.toInt rX ≤ 79) (xL : 0 ≤ Int32.toInt dN ∧ Int32.toInt dN ≤ 16) (wX : 0 ≤ Int32.toInt bD ∧ Int32.toInt bD ≤ 8) (aAU : 0 ≤ Int32.toInt bJ ∧ Int32.toInt bJ ≤ 16) (aAG : 0 ≤ Int32.toInt aI ∧ Int32.toInt aI ≤ 8) (aAr : 0 ≤ Int32.toInt pR ∧ Int32.toInt pR ≤ 12) (aBU : ∀ k : Nat, 0 ≤ Int32.toInt (uF k) ∧ Int32.toInt (uF k) ≤ 1) : bCb post qM x1 qL qJ rX dN bD bJ aI uU gF pL qF mX oE pR uF := by
  have l0 := aE0
  exact ts_X9_orchard_55 qM aAI hpost x1 0 qL qJ rX dN bD bJ aI uU gF pL qF mX oE pR uF aBK (by omega) aBH aA0 aA2 xL wX aAU aAG aAr aBU
set_option maxHeartbeats 8000000 in
set_option maxRecDepth 200000 in
theorem ts_X9_orchard_34 {post : Int32 → Int32 → Int32 → Int32 → Int32 → Int32 → Int32 → Int32 → (Nat → Int32) → (Nat → Int32) → (Nat → Int32) → (Nat → Int32) → (Nat → Int32) → (Nat → Int32) → Int32 → (Nat → Int32) → Prop} (qM : Nat → Int32) (aAI : ∀ k : Nat, 0 ≤ Int32.toInt (qM k) ∧ Int32.toInt (qM k) ≤ 65535) (hpost : ∀ (r : Int32) (aCZ : Int32) (aBS : Int32) (aGd : Int32) (aR4 : Int32) (aKJ : Int32) (aCR : Int32) (aCc : Int32) (tr_x' : Nat → Int32) (aNV : Nat → Int32) (aJW : Nat → Int32) (aXi : Nat → Int32) (tr_foot' : Nat → Int32) (tr_fork' : Nat → Int32) (aBa : Int32) (aHq : Nat → Int32), (-100 ≤ Int32.toInt r ∧ Int32.toInt r ≤ 79) → (0 ≤ Int32.toInt aCZ ∧ Int32.toInt aCZ ≤ 0) → (0 ≤ Int32.toInt aBS ∧ Int32.toInt aBS ≤ 80) → (0 ≤ Int32.toInt aGd ∧ Int32.toInt aGd ≤ 79) → (0 ≤ Int32.toInt aR4 ∧ Int32.toInt aR4 ≤ 16) → (0 ≤ Int32.toInt aKJ ∧ Int32.toInt aKJ ≤ 8) → (0 ≤ Int32.toInt aCR ∧ Int32.toInt aCR ≤ 16) → (0 ≤ Int32.toInt aCc ∧ Int32.toInt aCc ≤ 8) → (0 ≤ Int32.toInt aBa ∧ Int32.toInt aBa ≤ 12) → (∀ k : Nat, 0 ≤ Int32.toInt (aHq k) ∧ Int32.toInt (aHq k) ≤ 1) → post r aCZ aBS aGd aR4 aKJ aCR aCc tr_x' aNV aJW aXi tr_foot' tr_fork' aBa aHq) (k0 qL qJ rX dN bD bJ aI : Int32) (uU gF pL qF mX oE : Nat → Int32) (pR : Int32) (uF : Nat → Int32) (h_k0 : -1 ≤ Int32.toInt k0 ∧ Int32.toInt k0 ≤ 79) (aBH : 0 ≤ Int32.toInt qL ∧ Int32.toInt qL ≤ 80) (aA0 : 0 ≤ Int32.toInt qJ ∧ Int32.toInt qJ ≤ 80) (aA2 : 0 ≤ Int32.toInt rX ∧ Int32.toInt rX ≤ 79) (xL : 0 ≤ Int32.toInt dN ∧ Int32.toInt dN ≤ 16) (wX : 0 ≤ Int32.toInt bD ∧ Int32.toInt bD ≤ 8) (aAU : 0 ≤ Int32.toInt bJ ∧ Int32.toInt bJ ≤ 16) (aAG : 0 ≤ Int32.toInt aI ∧ Int32.toInt aI ≤ 8) (aAr : 0 ≤ Int32.toInt pR ∧ Int32.toInt pR ≤ 12) (aBU : ∀ k : Nat, 0 ≤ Int32.toInt (uF k) ∧ Int32.toInt (uF k) ≤ 1) : ws_X9_orchard_34 post qM k0 qL qJ rX dN bD bJ aI uU gF pL qF mX oE pR uF := by
  have l0 := aI2
  have l1 := aEc
  refine And.intro (fun c8 => ?_) (fun c8 => ?_)
  · skip
    have c8 := (zJ _ _).mp c8
    exact ts_X9_orchard_54 qM aAI hpost k0 qL qJ rX dN bD bJ aI uU gF pL qF mX oE pR uF h_k0 aBH aA0 aA2 xL wX aAU aAG aAr aBU
  · skip
    have c8 := mt (zJ _ _).mpr c8
    refine And.intro (fun c9 => ?_) (fun c9 => ?_)
    · skip
      have c9 := mt (zJ _ _).mpr c9
      refine And.intro (fun _ => ?_) (fun h9 => absurd h9 (by decide))
      exact ts_X9_orchard_54 qM aAI hpost k0 qL qJ rX dN bD bJ aI uU gF pL qF mX oE pR uF h_k0 aBH aA0 aA2 xL wX aAU aAG aAr aBU
    · skip
      have c9 := (zJ _ _).mp c9
      refine And.intro (fun h9 => absurd h9 (by decide)) (fun _ => ?_)
      exact ts_X9_orchard_55 qM aAI hpost k0 1 qL qJ rX dN bD bJ aI uU gF pL qF mX oE pR uF h_k0 (by omega) aBH aA0 aA2 xL wX aAU aAG aAr aBU
set_option maxHeartbeats 8000000 in
set_option maxRecDepth 200000 in
theorem t_X9_orchard {post : Int32 → Int32 → Int32 → Int32 → Int32 → Int32 → Int32 → Int32 → (Nat → Int32) → (Nat → Int32) → (Nat → Int32) → (Nat → Int32) → (Nat → Int32) → (Nat → Int32) → Int32 → (Nat → Int32) → Prop} {qL qJ rX : Int32} {qM : Nat → Int32} {dN bD bJ aI : Int32} {uU gF pL qF mX oE : Nat → Int32} {pR : Int32} {uF : Nat → Int32} (aBH : 0 ≤ Int32.toInt qL ∧ Int32.toInt qL ≤ 80) (aA0 : 0 ≤ Int32.toInt qJ ∧ Int32.toInt qJ ≤ 80) (aA2 : 0 ≤ Int32.toInt rX ∧ Int32.toInt rX ≤ 80) (aAI : ∀ k : Nat, 0 ≤ Int32.toInt (qM k) ∧ Int32.toInt (qM k) ≤ 65535) (xL : 0 ≤ Int32.toInt dN ∧ Int32.toInt dN ≤ 16) (wX : 0 ≤ Int32.toInt bD ∧ Int32.toInt bD ≤ 8) (aAU : 0 ≤ Int32.toInt bJ ∧ Int32.toInt bJ ≤ 16) (aAG : 0 ≤ Int32.toInt aI ∧ Int32.toInt aI ≤ 8) (aAr : 0 ≤ Int32.toInt pR ∧ Int32.toInt pR ≤ 12) (aBU : ∀ k : Nat, 0 ≤ Int32.toInt (uF k) ∧ Int32.toInt (uF k) ≤ 1) (hpost : ∀ (r : Int32) (aCZ : Int32) (aBS : Int32) (aGd : Int32) (aR4 : Int32) (aKJ : Int32) (aCR : Int32) (aCc : Int32) (tr_x' : Nat → Int32) (aNV : Nat → Int32) (aJW : Nat → Int32) (aXi : Nat → Int32) (tr_foot' : Nat → Int32) (tr_fork' : Nat → Int32) (aBa : Int32) (aHq : Nat → Int32), (-100 ≤ Int32.toInt r ∧ Int32.toInt r ≤ 79) → (0 ≤ Int32.toInt aCZ ∧ Int32.toInt aCZ ≤ 0) → (0 ≤ Int32.toInt aBS ∧ Int32.toInt aBS ≤ 80) → (0 ≤ Int32.toInt aGd ∧ Int32.toInt aGd ≤ 79) → (0 ≤ Int32.toInt aR4 ∧ Int32.toInt aR4 ≤ 16) → (0 ≤ Int32.toInt aKJ ∧ Int32.toInt aKJ ≤ 8) → (0 ≤ Int32.toInt aCR ∧ Int32.toInt aCR ≤ 16) → (0 ≤ Int32.toInt aCc ∧ Int32.toInt aCc ≤ 8) → (0 ≤ Int32.toInt aBa ∧ Int32.toInt aBa ≤ 12) → (∀ k : Nat, 0 ≤ Int32.toInt (aHq k) ∧ Int32.toInt (aHq k) ≤ 1) → post r aCZ aBS aGd aR4 aKJ aCR aCc tr_x' aNV aJW aXi tr_foot' tr_fork' aBa aHq) : wp_X9_orchard post qL qJ rX qM dN bD bJ aI uU gF pL qF mX oE pR uF := by
  have l0 := aE0
  have l1 := li_76
  intro v10 ev10
  have f11 := ti_min qL (76 : Int32)
  have hv10 := congrArg Int32.toInt ev10
  refine And.intro (fun c12 => ?_) (fun c12 => ?_)
  · skip
    have c12 := mt (zJ _ _).mpr c12
    refine t_X3_readLines (by omega) (by omega) aAI xL wX aAU aAG (fun r22 tx_place_13 tr_comingFruits_14 tr_comingStandings_15 tr_x_16 tr_height_17 tr_worth_18 tr_ripe_19 tr_foot_20 tr_fork_21 h_r22 h_tx_place_13 h_tr_comingFruits_14 h_tr_comingStandings_15 => ?_)
    exact ts_X9_orchard_34 qM aAI hpost r22 qL tx_place_13 v10 dN bD tr_comingFruits_14 tr_comingStandings_15 tr_x_16 tr_height_17 tr_worth_18 tr_ripe_19 tr_foot_20 tr_fork_21 pR uF h_r22 aBH h_tx_place_13 (by omega) xL wX h_tr_comingFruits_14 h_tr_comingStandings_15 aAr aBU
  · skip
    have c12 := (zJ _ _).mp c12
    exact ts_X9_orchard_34 qM aAI hpost 0 qL 0 v10 dN bD bJ aI uU gF pL qF mX oE pR uF (by omega) aBH (by omega) (by omega) xL wX aAU aAG aAr aBU
