def MonoT (W : aOw) : Prop := ∀ ⦃P Q : Int32 → Int32 → Int32 → Prop⦄ ⦃a : Int32⦄ ⦃b : Nat⦄ ⦃c1 c2 c3 c4 c5 c6 c7 c8 c9 : Int32⦄ ⦃f1 f2 f3 f4 f5 f6 f7 : Nat → Int32⦄, W P a b c1 c2 c3 c4 c5 c6 c7 c8 c9 f1 f2 f3 f4 f5 f6 f7 → (∀ r x y : Int32, P r x y → Q r x y) → W Q a b c1 c2 c3 c4 c5 c6 c7 c8 c9 f1 f2 f3 f4 f5 f6 f7
set_option maxRecDepth 10000 in
theorem mn_X10_thing {WT WH : aOw} (hT : MonoT WT) (hH : MonoT WH) {P Q : Int32 → Int32 → Int32 → Prop} {p0 : Int32} {jD : Nat} {m_length oF rP dQ bZ aR aE bI aW : Int32} {m_x gR pW nG oO qO qQ : Nat → Int32} (h : wp_X10_thing WT WH P p0 jD m_length oF rP dQ bZ aR aE bI aW m_x gR pW nG oO qO qQ) (hq : ∀ (o0 : Int32) (o1 : Int32) (o2 : Int32), P o0 o1 o2 → Q o0 o1 o2) : wp_X10_thing WT WH Q p0 jD m_length oF rP dQ bZ aR aE bI aW m_x gR pW nG oO qO qQ := by
  unfold wp_X10_thing at h ⊢
  refine du_X10_passes h ?_
  intro h
  refine And.intro (fun c3 => ?_) (fun c3 => ?_)
  · have h := And.left h c3
    refine du_X10_fine h ?_
    intro h
    refine And.intro (fun c5 => ?_) (fun c5 => ?_)
    · have h := And.left h c5
      refine du_X10_here h ?_
      intro h
      refine And.intro (fun c7 => ?_) (fun c7 => ?_)
      · have h := And.left h c7
        unfold ws_X10_thing_67 at h ⊢
        refine du_X10_in h ?_
        intro h
        refine And.intro (fun c9 => ?_) (fun c9 => ?_)
        · have h := And.left h c9
          refine And.intro (fun c10 => ?_) (fun c10 => ?_)
          · have h := And.left h c10
            unfold aJK at h ⊢
            refine ae ?_
            have h := h _ rfl
            refine And.intro (fun c11 => ?_) (fun c11 => ?_)
            · have h := And.left h c11
              exact hq _ _ _ h
            · have h := And.right h c11
              refine du_X10_valueOf h ?_
              intro h
              exact hq _ _ _ h
          · have h := And.right h c10
            refine And.intro (fun c13 => ?_) (fun c13 => ?_)
            · have h := And.left h c13
              unfold aJK at h ⊢
              refine ae ?_
              have h := h _ rfl
              refine And.intro (fun c14 => ?_) (fun c14 => ?_)
              · have h := And.left h c14
                exact hq _ _ _ h
              · have h := And.right h c14
                refine du_X10_valueOf h ?_
                intro h
                exact hq _ _ _ h
            · have h := And.right h c13
              refine And.intro (fun c16 => ?_) (fun c16 => ?_)
              · have h := And.left h c16
                unfold aJK at h ⊢
                refine ae ?_
                have h := h _ rfl
                refine And.intro (fun c17 => ?_) (fun c17 => ?_)
                · have h := And.left h c17
                  exact hq _ _ _ h
                · have h := And.right h c17
                  refine du_X10_valueOf h ?_
                  intro h
                  exact hq _ _ _ h
              · have h := And.right h c16
                refine And.intro (fun c19 => ?_) (fun c19 => ?_)
                · have h := And.left h c19
                  unfold aJK at h ⊢
                  refine ae ?_
                  have h := h _ rfl
                  refine And.intro (fun c20 => ?_) (fun c20 => ?_)
                  · have h := And.left h c20
                    exact hq _ _ _ h
                  · have h := And.right h c20
                    refine du_X10_valueOf h ?_
                    intro h
                    exact hq _ _ _ h
                · have h := And.right h c19
                  refine And.intro (fun c22 => ?_) (fun c22 => ?_)
                  · have h := And.left h c22
                    unfold aJK at h ⊢
                    refine ae ?_
                    have h := h _ rfl
                    refine And.intro (fun c23 => ?_) (fun c23 => ?_)
                    · have h := And.left h c23
                      exact hq _ _ _ h
                    · have h := And.right h c23
                      refine du_X10_valueOf h ?_
                      intro h
                      exact hq _ _ _ h
                  · have h := And.right h c22
                    refine And.intro (fun c25 => ?_) (fun c25 => ?_)
                    · have h := And.left h c25
                      unfold aJK at h ⊢
                      refine ae ?_
                      have h := h _ rfl
                      refine And.intro (fun c26 => ?_) (fun c26 => ?_)
                      · have h := And.left h c26
                        exact hq _ _ _ h
                      · have h := And.right h c26
                        refine du_X10_valueOf h ?_
                        intro h
                        exact hq _ _ _ h
                    · have h := And.right h c25
                      refine And.intro (fun c28 => ?_) (fun c28 => ?_)
                      · have h := And.left h c28
                        unfold aJK at h ⊢
                        refine ae ?_
                        have h := h _ rfl
                        refine And.intro (fun c29 => ?_) (fun c29 => ?_)
                        · have h := And.left h c29
                          exact hq _ _ _ h
                        · have h := And.right h c29
                          refine du_X10_valueOf h ?_
                          intro h
                          exact hq _ _ _ h
                      · have h := And.right h c28
                        refine du_X10_fault h ?_
                        intro h
                        exact hq _ _ _ h
        · have h := And.right h c9
          refine aEu (by decide) h ?_
          intro h
          exact hq _ _ _ h
      · have h := And.right h c7
        refine And.intro (fun c35 => ?_) (fun c35 => ?_)
        · have h := And.left h c35
          unfold ws_X10_thing_67 at h ⊢
          refine du_X10_in h ?_
          intro h
          refine And.intro (fun c37 => ?_) (fun c37 => ?_)
          · have h := And.left h c37
            refine And.intro (fun c38 => ?_) (fun c38 => ?_)
            · have h := And.left h c38
              unfold aJK at h ⊢
              refine ae ?_
              have h := h _ rfl
              refine And.intro (fun c39 => ?_) (fun c39 => ?_)
              · have h := And.left h c39
                exact hq _ _ _ h
              · have h := And.right h c39
                refine du_X10_valueOf h ?_
                intro h
                exact hq _ _ _ h
            · have h := And.right h c38
              refine And.intro (fun c41 => ?_) (fun c41 => ?_)
              · have h := And.left h c41
                unfold aJK at h ⊢
                refine ae ?_
                have h := h _ rfl
                refine And.intro (fun c42 => ?_) (fun c42 => ?_)
                · have h := And.left h c42
                  exact hq _ _ _ h
                · have h := And.right h c42
                  refine du_X10_valueOf h ?_
                  intro h
                  exact hq _ _ _ h
              · have h := And.right h c41
                refine And.intro (fun c44 => ?_) (fun c44 => ?_)
                · have h := And.left h c44
                  unfold aJK at h ⊢
                  refine ae ?_
                  have h := h _ rfl
                  refine And.intro (fun c45 => ?_) (fun c45 => ?_)
                  · have h := And.left h c45
                    exact hq _ _ _ h
                  · have h := And.right h c45
                    refine du_X10_valueOf h ?_
                    intro h
                    exact hq _ _ _ h
                · have h := And.right h c44
                  refine And.intro (fun c47 => ?_) (fun c47 => ?_)
                  · have h := And.left h c47
                    unfold aJK at h ⊢
                    refine ae ?_
                    have h := h _ rfl
                    refine And.intro (fun c48 => ?_) (fun c48 => ?_)
                    · have h := And.left h c48
                      exact hq _ _ _ h
                    · have h := And.right h c48
                      refine du_X10_valueOf h ?_
                      intro h
                      exact hq _ _ _ h
                  · have h := And.right h c47
                    refine And.intro (fun c50 => ?_) (fun c50 => ?_)
                    · have h := And.left h c50
                      unfold aJK at h ⊢
                      refine ae ?_
                      have h := h _ rfl
                      refine And.intro (fun c51 => ?_) (fun c51 => ?_)
                      · have h := And.left h c51
                        exact hq _ _ _ h
                      · have h := And.right h c51
                        refine du_X10_valueOf h ?_
                        intro h
                        exact hq _ _ _ h
                    · have h := And.right h c50
                      refine And.intro (fun c53 => ?_) (fun c53 => ?_)
                      · have h := And.left h c53
                        unfold aJK at h ⊢
                        refine ae ?_
                        have h := h _ rfl
                        refine And.intro (fun c54 => ?_) (fun c54 => ?_)
                        · have h := And.left h c54
                          exact hq _ _ _ h
                        · have h := And.right h c54
                          refine du_X10_valueOf h ?_
                          intro h
                          exact hq _ _ _ h
                      · have h := And.right h c53
                        refine And.intro (fun c56 => ?_) (fun c56 => ?_)
                        · have h := And.left h c56
                          unfold aJK at h ⊢
                          refine ae ?_
                          have h := h _ rfl
                          refine And.intro (fun c57 => ?_) (fun c57 => ?_)
                          · have h := And.left h c57
                            exact hq _ _ _ h
                          · have h := And.right h c57
                            refine du_X10_valueOf h ?_
                            intro h
                            exact hq _ _ _ h
                        · have h := And.right h c56
                          refine du_X10_fault h ?_
                          intro h
                          exact hq _ _ _ h
          · have h := And.right h c37
            refine aEu (by decide) h ?_
            intro h
            exact hq _ _ _ h
        · have h := And.right h c35
          refine ae ?_
          have h := h _ rfl
          refine ae ?_
          have h := h _ rfl
          refine hH h ?_
          intro z63 z64 z65 h
          refine du_X10_need h ?_
          intro h
          exact hq _ _ _ h
    · have h := And.right h c5
      exact hq _ _ _ h
  · have h := And.right h c3
    refine hT h ?_
    intro z68 z69 z70 h
    exact hq _ _ _ h
set_option maxRecDepth 10000 in
theorem ml_X10_product_6 {WT WH : aOw} (hT : MonoT WT) (hH : MonoT WH) {P Q : Int32 → Int32 → Int32 → Prop} {jD : Nat} {m_length oF bZ aR aE bI aW : Int32} {m_x gR pW nG oO qO qQ : Nat → Int32} (hq : ∀ (o0 : Int32) (o1 : Int32) (o2 : Int32), P o0 o1 o2 → Q o0 o1 o2) : ∀ (n : Nat) (x1 x2 rP dQ : Int32), wb_X10_product_6 WT WH P jD m_length oF bZ aR aE bI aW m_x gR pW nG oO qO qQ n x1 x2 rP dQ → wb_X10_product_6 WT WH Q jD m_length oF bZ aR aE bI aW m_x gR pW nG oO qO qQ n x1 x2 rP dQ := by
  intro n
  induction n with
  | zero => intro x1 x2 rP dQ h; exact False.elim h
  | succ n ih =>
    intro x1 x2 rP dQ h
    have h : ws_X10_product_6 WT WH P (wb_X10_product_6 WT WH P jD m_length oF bZ aR aE bI aW m_x gR pW nG oO qO qQ n) jD m_length oF bZ aR aE bI aW m_x gR pW nG oO qO qQ x1 x2 rP dQ := h
    show ws_X10_product_6 WT WH Q (wb_X10_product_6 WT WH Q jD m_length oF bZ aR aE bI aW m_x gR pW nG oO qO qQ n) jD m_length oF bZ aR aE bI aW m_x gR pW nG oO qO qQ x1 x2 rP dQ
    unfold ws_X10_product_6 at h ⊢
    refine du_X10_fine h ?_
    intro h
    refine And.intro (fun c2 => ?_) (fun c2 => ?_)
    · have h := And.left h c2
      exact hq _ _ _ h
    · have h := And.right h c2
      refine du_X10_here h ?_
      intro h
      refine And.intro (fun c4 => ?_) (fun c4 => ?_)
      · have h := And.left h c4
        unfold ws_X10_product_31 at h ⊢
        refine du_X10_here h ?_
        intro h
        refine And.intro (fun c6 => ?_) (fun c6 => ?_)
        · have h := And.left h c6
          unfold ws_X10_product_45 at h ⊢
          refine ae ?_
          have h := h _ rfl
          refine mn_X10_thing hT hH h ?_
          intro z7 z8 z9 h
          refine And.intro (fun c10 => ?_) (fun c10 => ?_)
          · have h := And.left h c10
            refine And.intro (fun c11 => ?_) (fun c11 => ?_)
            · have h := And.left h c11
              refine And.intro (And.left h) ?_
              have h := And.right h
              refine ae ?_
              have h := h _ rfl
              unfold aNM at h ⊢
              exact ih _ _ _ _ h
            · have h := And.right h c11
              unfold aNM at h ⊢
              exact ih _ _ _ _ h
          · have h := And.right h c10
            refine ae ?_
            have h := h _ rfl
            unfold aNM at h ⊢
            exact ih _ _ _ _ h
        · have h := And.right h c6
          unfold ws_X10_product_45 at h ⊢
          refine ae ?_
          have h := h _ rfl
          refine mn_X10_thing hT hH h ?_
          intro z12 z13 z14 h
          refine And.intro (fun c15 => ?_) (fun c15 => ?_)
          · have h := And.left h c15
            refine And.intro (fun c16 => ?_) (fun c16 => ?_)
            · have h := And.left h c16
              refine And.intro (And.left h) ?_
              have h := And.right h
              refine ae ?_
              have h := h _ rfl
              unfold aNM at h ⊢
              exact ih _ _ _ _ h
            · have h := And.right h c16
              unfold aNM at h ⊢
              exact ih _ _ _ _ h
          · have h := And.right h c15
            refine ae ?_
            have h := h _ rfl
            unfold aNM at h ⊢
            exact ih _ _ _ _ h
      · have h := And.right h c4
        refine du_X10_here h ?_
        intro h
        refine And.intro (fun c18 => ?_) (fun c18 => ?_)
        · have h := And.left h c18
          exact hq _ _ _ h
        · have h := And.right h c18
          unfold ws_X10_product_31 at h ⊢
          refine du_X10_here h ?_
          intro h
          refine And.intro (fun c20 => ?_) (fun c20 => ?_)
          · have h := And.left h c20
            unfold ws_X10_product_45 at h ⊢
            refine ae ?_
            have h := h _ rfl
            refine mn_X10_thing hT hH h ?_
            intro z21 z22 z23 h
            refine And.intro (fun c24 => ?_) (fun c24 => ?_)
            · have h := And.left h c24
              refine And.intro (fun c25 => ?_) (fun c25 => ?_)
              · have h := And.left h c25
                refine And.intro (And.left h) ?_
                have h := And.right h
                refine ae ?_
                have h := h _ rfl
                unfold aNM at h ⊢
                exact ih _ _ _ _ h
              · have h := And.right h c25
                unfold aNM at h ⊢
                exact ih _ _ _ _ h
            · have h := And.right h c24
              refine ae ?_
              have h := h _ rfl
              unfold aNM at h ⊢
              exact ih _ _ _ _ h
          · have h := And.right h c20
            unfold ws_X10_product_45 at h ⊢
            refine ae ?_
            have h := h _ rfl
            refine mn_X10_thing hT hH h ?_
            intro z26 z27 z28 h
            refine And.intro (fun c29 => ?_) (fun c29 => ?_)
            · have h := And.left h c29
              refine And.intro (fun c30 => ?_) (fun c30 => ?_)
              · have h := And.left h c30
                refine And.intro (And.left h) ?_
                have h := And.right h
                refine ae ?_
                have h := h _ rfl
                unfold aNM at h ⊢
                exact ih _ _ _ _ h
              · have h := And.right h c30
                unfold aNM at h ⊢
                exact ih _ _ _ _ h
            · have h := And.right h c29
              refine ae ?_
              have h := h _ rfl
              unfold aNM at h ⊢
              exact ih _ _ _ _ h
set_option maxRecDepth 10000 in
theorem mn_X10_product {WT WH : aOw} (hT : MonoT WT) (hH : MonoT WH) {P Q : Int32 → Int32 → Int32 → Prop} {p0 : Int32} {jD : Nat} {m_length oF rP dQ bZ aR aE bI aW : Int32} {m_x gR pW nG oO qO qQ : Nat → Int32} (h : wp_X10_product WT WH P p0 jD m_length oF rP dQ bZ aR aE bI aW m_x gR pW nG oO qO qQ) (hq : ∀ (o0 : Int32) (o1 : Int32) (o2 : Int32), P o0 o1 o2 → Q o0 o1 o2) : wp_X10_product WT WH Q p0 jD m_length oF rP dQ bZ aR aE bI aW m_x gR pW nG oO qO qQ := by
  unfold wp_X10_product at h ⊢
  refine mn_X10_thing hT hH h ?_
  intro z1 z2 z3 h
  obtain ⟨n4, h⟩ := h
  exact ⟨n4, ml_X10_product_6 hT hH hq n4 _ _ _ _ h⟩
set_option maxRecDepth 10000 in
theorem ml_X10_sum_6 {WT WH : aOw} (hT : MonoT WT) (hH : MonoT WH) {P Q : Int32 → Int32 → Int32 → Prop} {jD : Nat} {m_length oF bZ aR aE bI aW : Int32} {m_x gR pW nG oO qO qQ : Nat → Int32} (hq : ∀ (o0 : Int32) (o1 : Int32) (o2 : Int32), P o0 o1 o2 → Q o0 o1 o2) : ∀ (n : Nat) (x1 x2 rP dQ : Int32), wb_X10_sum_6 WT WH P jD m_length oF bZ aR aE bI aW m_x gR pW nG oO qO qQ n x1 x2 rP dQ → wb_X10_sum_6 WT WH Q jD m_length oF bZ aR aE bI aW m_x gR pW nG oO qO qQ n x1 x2 rP dQ := by
  intro n
  induction n with
  | zero => intro x1 x2 rP dQ h; exact False.elim h
  | succ n ih =>
    intro x1 x2 rP dQ h
    have h : ws_X10_sum_6 WT WH P (wb_X10_sum_6 WT WH P jD m_length oF bZ aR aE bI aW m_x gR pW nG oO qO qQ n) jD m_length oF bZ aR aE bI aW m_x gR pW nG oO qO qQ x1 x2 rP dQ := h
    show ws_X10_sum_6 WT WH Q (wb_X10_sum_6 WT WH Q jD m_length oF bZ aR aE bI aW m_x gR pW nG oO qO qQ n) jD m_length oF bZ aR aE bI aW m_x gR pW nG oO qO qQ x1 x2 rP dQ
    unfold ws_X10_sum_6 at h ⊢
    refine du_X10_fine h ?_
    intro h
    refine And.intro (fun c2 => ?_) (fun c2 => ?_)
    · have h := And.left h c2
      exact hq _ _ _ h
    · have h := And.right h c2
      refine du_X10_here h ?_
      intro h
      refine And.intro (fun c4 => ?_) (fun c4 => ?_)
      · have h := And.left h c4
        unfold ws_X10_sum_31 at h ⊢
        refine du_X10_here h ?_
        intro h
        refine And.intro (fun c6 => ?_) (fun c6 => ?_)
        · have h := And.left h c6
          unfold ws_X10_sum_45 at h ⊢
          refine ae ?_
          have h := h _ rfl
          refine mn_X10_product hT hH h ?_
          intro z7 z8 z9 h
          refine And.intro (fun c10 => ?_) (fun c10 => ?_)
          · have h := And.left h c10
            refine ae ?_
            have h := h _ rfl
            unfold ws_X10_sum_78 at h ⊢
            exact ih _ _ _ _ h
          · have h := And.right h c10
            refine ae ?_
            have h := h _ rfl
            unfold ws_X10_sum_78 at h ⊢
            exact ih _ _ _ _ h
        · have h := And.right h c6
          unfold ws_X10_sum_45 at h ⊢
          refine ae ?_
          have h := h _ rfl
          refine mn_X10_product hT hH h ?_
          intro z11 z12 z13 h
          refine And.intro (fun c14 => ?_) (fun c14 => ?_)
          · have h := And.left h c14
            refine ae ?_
            have h := h _ rfl
            unfold ws_X10_sum_78 at h ⊢
            exact ih _ _ _ _ h
          · have h := And.right h c14
            refine ae ?_
            have h := h _ rfl
            unfold ws_X10_sum_78 at h ⊢
            exact ih _ _ _ _ h
      · have h := And.right h c4
        refine du_X10_here h ?_
        intro h
        refine And.intro (fun c16 => ?_) (fun c16 => ?_)
        · have h := And.left h c16
          exact hq _ _ _ h
        · have h := And.right h c16
          unfold ws_X10_sum_31 at h ⊢
          refine du_X10_here h ?_
          intro h
          refine And.intro (fun c18 => ?_) (fun c18 => ?_)
          · have h := And.left h c18
            unfold ws_X10_sum_45 at h ⊢
            refine ae ?_
            have h := h _ rfl
            refine mn_X10_product hT hH h ?_
            intro z19 z20 z21 h
            refine And.intro (fun c22 => ?_) (fun c22 => ?_)
            · have h := And.left h c22
              refine ae ?_
              have h := h _ rfl
              unfold ws_X10_sum_78 at h ⊢
              exact ih _ _ _ _ h
            · have h := And.right h c22
              refine ae ?_
              have h := h _ rfl
              unfold ws_X10_sum_78 at h ⊢
              exact ih _ _ _ _ h
          · have h := And.right h c18
            unfold ws_X10_sum_45 at h ⊢
            refine ae ?_
            have h := h _ rfl
            refine mn_X10_product hT hH h ?_
            intro z23 z24 z25 h
            refine And.intro (fun c26 => ?_) (fun c26 => ?_)
            · have h := And.left h c26
              refine ae ?_
              have h := h _ rfl
              unfold ws_X10_sum_78 at h ⊢
              exact ih _ _ _ _ h
            · have h := And.right h c26
              refine ae ?_
              have h := h _ rfl
              unfold ws_X10_sum_78 at h ⊢
              exact ih _ _ _ _ h
set_option maxRecDepth 10000 in
theorem mn_X10_sum {WT WH : aOw} (hT : MonoT WT) (hH : MonoT WH) {P Q : Int32 → Int32 → Int32 → Prop} {p0 : Int32} {jD : Nat} {m_length oF rP dQ bZ aR aE bI aW : Int32} {m_x gR pW nG oO qO qQ : Nat → Int32} (h : wp_X10_sum WT WH P p0 jD m_length oF rP dQ bZ aR aE bI aW m_x gR pW nG oO qO qQ) (hq : ∀ (o0 : Int32) (o1 : Int32) (o2 : Int32), P o0 o1 o2 → Q o0 o1 o2) : wp_X10_sum WT WH Q p0 jD m_length oF rP dQ bZ aR aE bI aW m_x gR pW nG oO qO qQ := by
  unfold wp_X10_sum at h ⊢
  refine mn_X10_product hT hH h ?_
  intro z1 z2 z3 h
  obtain ⟨n4, h⟩ := h
  exact ⟨n4, ml_X10_sum_6 hT hH hq n4 _ _ _ _ h⟩
set_option maxRecDepth 10000 in
theorem mn_X10_held {WT WH : aOw} (hT : MonoT WT) (hH : MonoT WH) {P Q : Int32 → Int32 → Int32 → Prop} {p0 : Int32} {jD : Nat} {m_length oF rP dQ bZ aR aE bI aW : Int32} {m_x gR pW nG oO qO qQ : Nat → Int32} (h : wp_X10_held WT WH P p0 jD m_length oF rP dQ bZ aR aE bI aW m_x gR pW nG oO qO qQ) (hq : ∀ (o0 : Int32) (o1 : Int32) (o2 : Int32), P o0 o1 o2 → Q o0 o1 o2) : wp_X10_held WT WH Q p0 jD m_length oF rP dQ bZ aR aE bI aW m_x gR pW nG oO qO qQ := by
  unfold wp_X10_held at h ⊢
  refine mn_X10_sum hT hH h ?_
  intro z1 z2 z3 h
  refine du_X10_passes h ?_
  intro h
  refine And.intro (fun c6 => ?_) (fun c6 => ?_)
  · have h := And.left h c6
    refine du_X10_passes h ?_
    intro h
    refine And.intro (fun c9 => ?_) (fun c9 => ?_)
    · have h := And.left h c9
      refine du_X10_passes h ?_
      intro h
      refine And.intro (fun c12 => ?_) (fun c12 => ?_)
      · have h := And.left h c12
        exact hq _ _ _ h
      · have h := And.right h c12
        refine mn_X10_sum hT hH h ?_
        intro z13 z14 z15 h
        refine And.intro (fun c16 => ?_) (fun c16 => ?_)
        · have h := And.left h c16
          exact hq _ _ _ h
        · have h := And.right h c16
          exact hq _ _ _ h
    · have h := And.right h c9
      refine mn_X10_sum hT hH h ?_
      intro z17 z18 z19 h
      refine And.intro (fun c20 => ?_) (fun c20 => ?_)
      · have h := And.left h c20
        exact hq _ _ _ h
      · have h := And.right h c20
        exact hq _ _ _ h
  · have h := And.right h c6
    refine mn_X10_sum hT hH h ?_
    intro z21 z22 z23 h
    refine And.intro (fun c24 => ?_) (fun c24 => ?_)
    · have h := And.left h c24
      exact hq _ _ _ h
    · have h := And.right h c24
      exact hq _ _ _ h
theorem rr_mono : ∀ n : Nat, MonoT (rr_X10 n).1 ∧ MonoT (rr_X10 n).2 := by
  intro n
  induction n with
  | zero => exact ⟨by intro P Q a b c1 c2 c3 c4 c5 c6 c7 c8 c9 f1 f2 f3 f4 f5 f6 f7 h hq; exact False.elim h, by intro P Q a b c1 c2 c3 c4 c5 c6 c7 c8 c9 f1 f2 f3 f4 f5 f6 f7 h hq; exact False.elim h⟩
  | succ n ih => exact ⟨by intro P Q a b c1 c2 c3 c4 c5 c6 c7 c8 c9 f1 f2 f3 f4 f5 f6 f7 h hq; exact mn_X10_thing ih.1 ih.2 h hq, by intro P Q a b c1 c2 c3 c4 c5 c6 c7 c8 c9 f1 f2 f3 f4 f5 f6 f7 h hq; exact mn_X10_held ih.1 ih.2 h hq⟩
theorem mn_X10_heldR {P Q : Int32 → Int32 → Int32 → Prop} {p0 : Int32} {jD : Nat} {m_length oF rP dQ bZ aR aE bI aW : Int32} {m_x gR pW nG oO qO qQ : Nat → Int32} (h : wp_X10_heldR P p0 jD m_length oF rP dQ bZ aR aE bI aW m_x gR pW nG oO qO qQ) (hq : ∀ r x y : Int32, P r x y → Q r x y) : wp_X10_heldR Q p0 jD m_length oF rP dQ bZ aR aE bI aW m_x gR pW nG oO qO qQ :=
  mn_X10_held (rr_mono 43).1 (rr_mono 43).2 h hq
set_option maxRecDepth 10000 in
theorem mn_X10_secondsOf {P Q : Int32 → Nat → Int32 → Int32 → Int32 → Int32 → Int32 → Int32 → Int32 → Int32 → Int32 → Prop} {p0 p1 p2 p3 : Int32} {jD : Nat} {m_length oF rP dQ bW bZ aR aE bI aW : Int32} {m_x gR pW nG oO qO qQ : Nat → Int32} (h : aXm P p0 p1 p2 p3 jD m_length oF rP dQ bW bZ aR aE bI aW m_x gR pW nG oO qO qQ) (hq : ∀ (o0 : Int32) (o1 : Nat) (o2 : Int32) (o3 : Int32) (o4 : Int32) (o5 : Int32) (o6 : Int32) (o7 : Int32) (o8 : Int32) (o9 : Int32) (o10 : Int32), P o0 o1 o2 o3 o4 o5 o6 o7 o8 o9 o10 → Q o0 o1 o2 o3 o4 o5 o6 o7 o8 o9 o10) : aXm Q p0 p1 p2 p3 jD m_length oF rP dQ bW bZ aR aE bI aW m_x gR pW nG oO qO qQ := by
  unfold aXm at h ⊢
  refine du_X10_far h ?_
  intro h
  refine ae ?_
  have h := h _ rfl
  refine du_X10_above h ?_
  intro h
  refine ae ?_
  have h := h _ rfl
  refine And.intro (fun c3 => ?_) (fun c3 => ?_)
  · have h := And.left h c3
    unfold ws_X10_secondsOf_80 at h ⊢
    refine ae ?_
    have h := h _ rfl
    refine ae ?_
    have h := h _ rfl
    exact hq _ _ _ _ _ _ _ _ _ _ _ h
  · have h := And.right h c3
    refine du_X10_begin_b2 h ?_
    intro h
    refine mn_X10_heldR h ?_
    intro z9 z10 z11 h
    unfold ws_X10_secondsOf_80 at h ⊢
    refine ae ?_
    have h := h _ rfl
    refine ae ?_
    have h := h _ rfl
    exact hq _ _ _ _ _ _ _ _ _ _ _ h
