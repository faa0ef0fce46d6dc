set_option maxHeartbeats 200000 in
set_option maxRecDepth 10000 in
theorem dl_X9_doActs_21 {P Q : Int32 → Int32 → Int32 → Int32 → Int32 → Int32 → Int32 → Int32 → Int32 → (Nat → Int32) → (Nat → Int32) → Int32 → Int32 → (Nat → Int32) → Int32 → (Nat → Int32) → Prop} {vZ : Nat → Int32} {bZ bD : Int32} {wD gF pE qA nJ nY dQ : Nat → Int32} {pG : Int32} {oF : Nat → Int32} {R : Type} {po : Int32 → Int32 → Int32 → Int32 → Int32 → Int32 → Int32 → Int32 → Int32 → (Nat → Int32) → (Nat → Int32) → Int32 → Int32 → (Nat → Int32) → Int32 → (Nat → Int32) → R} {d : Int32 → Int32 → Int32 → Int32 → Int32 → Int32 → Int32 → Int32 → Int32 → Int32 → Int32 → Int32 → Int32 → (Nat → Int32) → (Nat → Int32) → Int32 → Int32 → (Nat → Int32) → Int32 → (Nat → Int32) → R} : ∀ (n m : Nat) (x1 x2 x3 x4 x5 jC eO eW dO fJ fY jD nG : Int32) (qO qQ : Nat → Int32) (oE uF : Int32) (sG : Nat → Int32) (qF : Int32) (jJ : Nat → Int32), 0 ≤ Int32.toInt x5 ∧ Int32.toInt x5 ≤ 30 → 30 - Int32.toInt x5 < (m : Int) → wb_X9_doActs_21 P vZ bZ bD wD gF pE qA nJ nY dQ pG oF n x1 x2 x3 x4 x5 jC eO eW dO fJ fY jD nG qO qQ oE uF sG qF jJ → (∀ (b0 b1 b2 b3 b4 b5 b6 b7 b8 : Int32) (b9 b10 : Nat → Int32) (b11 b12 : Int32) (b13 : Nat → Int32) (b14 : Int32) (b15 : Nat → Int32), po b0 b1 b2 b3 b4 b5 b6 b7 b8 b9 b10 b11 b12 b13 b14 b15 = flp (fs_X9_doActs_21 po vZ bZ bD wD gF pE qA nJ nY dQ pG oF) d m x1 x2 x3 x4 x5 jC eO eW dO fJ fY jD nG qO qQ oE uF sG qF jJ → P b0 b1 b2 b3 b4 b5 b6 b7 b8 b9 b10 b11 b12 b13 b14 b15 → Q b0 b1 b2 b3 b4 b5 b6 b7 b8 b9 b10 b11 b12 b13 b14 b15) → wb_X9_doActs_21 Q vZ bZ bD wD gF pE qA nJ nY dQ pG oF n x1 x2 x3 x4 x5 jC eO eW dO fJ fY jD nG qO qQ oE uF sG qF jJ := by
  have l1 : Int32.toInt (1 : Int32) = 1 := by decide
  have l30 : Int32.toInt (30 : Int32) = 30 := by decide
  intro n
  induction n with
  | zero => intro m x1 x2 x3 x4 x5 jC eO eW dO fJ fY jD nG qO qQ oE uF sG qF jJ hv hm h hq; exact False.elim h
  | succ n ih =>
    intro m x1 x2 x3 x4 x5 jC eO eW dO fJ fY jD nG qO qQ oE uF sG qF jJ hv hm h hq
    cases m with
    | zero => exfalso; omega
    | succ m =>
      rw [flp_s, fs_X9_doActs_21] at hq
      have h : ws_X9_doActs_21 P (wb_X9_doActs_21 P vZ bZ bD wD gF pE qA nJ nY dQ pG oF n) vZ bZ bD wD gF pE qA nJ nY dQ pG oF x1 x2 x3 x4 x5 jC eO eW dO fJ fY jD nG qO qQ oE uF sG qF jJ := h
      show ws_X9_doActs_21 Q (wb_X9_doActs_21 Q vZ bZ bD wD gF pE qA nJ nY dQ pG oF n) vZ bZ bD wD gF pE qA nJ nY dQ pG oF x1 x2 x3 x4 x5 jC eO eW dO fJ fY jD nG qO qQ oE uF sG qF jJ
      unfold ws_X9_doActs_21 at h ⊢
      refine And.intro (fun c1 => ?_) (fun c1 => ?_)
      · have h := And.left h c1
        rw [if_pos c1] at hq
        have dc1 := (fa_le _ _).mp c1
        rw [j_X9_doActs_107] at hq
        unfold ws_X9_doActs_107 at h ⊢
        refine And.intro (fun c2 => ?_) (fun c2 => ?_)
        · have h := And.left h c2
          rw [if_pos c2] at hq
          have dc2 := (fa_le _ _).mp c2
          rw [j_X9_doActs_118] at hq
          unfold ws_X9_doActs_118 at h ⊢
          refine du_X9_tell_ h ?_
          intro h
          exact hq _ _ _ _ _ _ _ _ _ _ _ _ _ _ _ _ rfl h
        · have h := And.right h c2
          rw [if_neg c2] at hq
          have dc2 := mt (fa_le _ _).mpr c2
          refine du_X4_hold h ?_
          intro h
          rw [j_X9_doActs_118] at hq
          unfold ws_X9_doActs_118 at h ⊢
          refine du_X9_tell_ h ?_
          intro h
          exact hq _ _ _ _ _ _ _ _ _ _ _ _ _ _ _ _ rfl h
      · have h := And.right h c1
        rw [if_neg c1] at hq
        have dc1 := mt (fa_le _ _).mpr c1
        refine And.intro (fun c3 => ?_) (fun c3 => ?_)
        · have h := And.left h c3
          rw [if_pos c3] at hq
          have dc3 := (fa_le _ _).mp c3
          rw [j_X9_doActs_107] at hq
          unfold ws_X9_doActs_107 at h ⊢
          refine And.intro (fun c4 => ?_) (fun c4 => ?_)
          · have h := And.left h c4
            rw [if_pos c4] at hq
            have dc4 := (fa_le _ _).mp c4
            rw [j_X9_doActs_118] at hq
            unfold ws_X9_doActs_118 at h ⊢
            refine du_X9_tell_ h ?_
            intro h
            exact hq _ _ _ _ _ _ _ _ _ _ _ _ _ _ _ _ rfl h
          · have h := And.right h c4
            rw [if_neg c4] at hq
            have dc4 := mt (fa_le _ _).mpr c4
            refine du_X4_hold h ?_
            intro h
            rw [j_X9_doActs_118] at hq
            unfold ws_X9_doActs_118 at h ⊢
            refine du_X9_tell_ h ?_
            intro h
            exact hq _ _ _ _ _ _ _ _ _ _ _ _ _ _ _ _ rfl h
        · have h := And.right h c3
          rw [if_neg c3] at hq
          have dc3 := mt (fa_le _ _).mpr c3
          refine And.intro (fun c5 => ?_) (fun c5 => ?_)
          · have h := And.left h c5
            rw [if_neg c5] at hq
            have dc5 := mt (fa_eq _ _).mpr c5
            rw [j_X9_doActs_107] at hq
            unfold ws_X9_doActs_107 at h ⊢
            refine And.intro (fun c6 => ?_) (fun c6 => ?_)
            · have h := And.left h c6
              rw [if_pos c6] at hq
              have dc6 := (fa_le _ _).mp c6
              rw [j_X9_doActs_118] at hq
              unfold ws_X9_doActs_118 at h ⊢
              refine du_X9_tell_ h ?_
              intro h
              exact hq _ _ _ _ _ _ _ _ _ _ _ _ _ _ _ _ rfl h
            · have h := And.right h c6
              rw [if_neg c6] at hq
              have dc6 := mt (fa_le _ _).mpr c6
              refine du_X4_hold h ?_
              intro h
              rw [j_X9_doActs_118] at hq
              unfold ws_X9_doActs_118 at h ⊢
              refine du_X9_tell_ h ?_
              intro h
              exact hq _ _ _ _ _ _ _ _ _ _ _ _ _ _ _ _ rfl h
          · have h := And.right h c5
            rw [if_pos c5] at hq
            have dc5 := (fa_eq _ _).mp c5
            refine And.intro (And.left h) ?_
            have h := And.right h
            refine ae ?_
            have h := h _ rfl
            refine ae ?_
            have h := h _ rfl
            refine And.intro (And.left h) ?_
            have h := And.right h
            refine ae ?_
            have h := h _ rfl
            refine ae ?_
            have h := h _ rfl
            refine du_X9_doAct h ?_
            intro h
            refine And.intro (fun c7 => ?_) (fun c7 => ?_)
            · have h := And.left h c7
              rw [if_pos c7] at hq
              have dc7 := (fa_le _ _).mp c7
              refine ae ?_
              have h := h _ rfl
              refine And.intro (fun c8 => ?_) (fun c8 => ?_)
              · have h := And.left h c8
                rw [if_pos c8] at hq
                have dc8 := (fa_eq _ _).mp c8
                rw [j_X9_doActs_94] at hq
                unfold ws_X9_doActs_94 at h ⊢
                rw [j_X9_doActs_99] at hq
                unfold ws_X9_doActs_99 at h ⊢
                refine ae ?_
                have h := h _ rfl
                rw [j_X9_doActs_101] at hq
                unfold ws_X9_doActs_101 at h ⊢
                refine ae ?_
                have h := h _ rfl
                have f9 := ta_add x5 1 (by omega)
                exact ih m _ _ _ _ _ _ _ _ _ _ _ _ _ _ _ _ _ _ _ _ (by omega) (by omega) h hq
              · have h := And.right h c8
                rw [if_neg c8] at hq
                have dc8 := mt (fa_eq _ _).mpr c8
                refine And.intro (fun c9 => ?_) (fun c9 => ?_)
                · have h := And.left h c9
                  rw [if_neg c9] at hq
                  have dc9 := mt (fa_eq _ _).mpr c9
                  rw [j_X9_doActs_99] at hq
                  unfold ws_X9_doActs_99 at h ⊢
                  refine ae ?_
                  have h := h _ rfl
                  rw [j_X9_doActs_101] at hq
                  unfold ws_X9_doActs_101 at h ⊢
                  refine ae ?_
                  have h := h _ rfl
                  have f9 := ta_add x5 1 (by omega)
                  exact ih m _ _ _ _ _ _ _ _ _ _ _ _ _ _ _ _ _ _ _ _ (by omega) (by omega) h hq
                · have h := And.right h c9
                  rw [if_pos c9] at hq
                  have dc9 := (fa_eq _ _).mp c9
                  rw [j_X9_doActs_94] at hq
                  unfold ws_X9_doActs_94 at h ⊢
                  rw [j_X9_doActs_99] at hq
                  unfold ws_X9_doActs_99 at h ⊢
                  refine ae ?_
                  have h := h _ rfl
                  rw [j_X9_doActs_101] at hq
                  unfold ws_X9_doActs_101 at h ⊢
                  refine ae ?_
                  have h := h _ rfl
                  have f9 := ta_add x5 1 (by omega)
                  exact ih m _ _ _ _ _ _ _ _ _ _ _ _ _ _ _ _ _ _ _ _ (by omega) (by omega) h hq
            · have h := And.right h c7
              rw [if_neg c7] at hq
              have dc7 := mt (fa_le _ _).mpr c7
              rw [j_X9_doActs_101] at hq
              unfold ws_X9_doActs_101 at h ⊢
              refine ae ?_
              have h := h _ rfl
              have f9 := ta_add x5 1 (by omega)
              exact ih m _ _ _ _ _ _ _ _ _ _ _ _ _ _ _ _ _ _ _ _ (by omega) (by omega) h hq
noncomputable def F_X9_doActs (p0 : Int32) (vZ : Nat → Int32) (bZ bD : Int32) (wD gF pE qA nJ nY dQ : Nat → Int32) (jC eO eW dO fJ fY jD nG pG : Int32) (qO qQ oF : Nat → Int32) (oE uF : Int32) (sG : Nat → Int32) (qF : Int32) (jJ : Nat → Int32) : Int32 × Int32 × Int32 × Int32 × Int32 × Int32 × Int32 × Int32 × Int32 × (Nat → Int32) × (Nat → Int32) × Int32 × Int32 × (Nat → Int32) × Int32 × (Nat → Int32) := flp (fs_X9_doActs_21 (fun o0 o1 o2 o3 o4 o5 o6 o7 o8 o9 o10 o11 o12 o13 o14 o15 => (o0, o1, o2, o3, o4, o5, o6, o7, o8, o9, o10, o11, o12, o13, o14, o15)) vZ bZ bD wD gF pE qA nJ nY dQ pG oF) (fun _ _ _ _ _ _ _ _ _ _ _ _ _ _ _ _ _ _ _ _ => (0, 0, 0, 0, 0, 0, 0, 0, 0, (fun _ => 0), (fun _ => 0), 0, 0, (fun _ => 0), 0, (fun _ => 0))) 31 p0 0 0 0 0 jC eO eW dO fJ fY jD nG qO qQ oE uF (F_X4_note jC eO eW dO fJ fY jD nG uF sG) qF jJ
set_option maxHeartbeats 200000 in
set_option maxRecDepth 10000 in
theorem dt_X9_doActs {P Q : Int32 → Int32 → Int32 → Int32 → Int32 → Int32 → Int32 → Int32 → Int32 → (Nat → Int32) → (Nat → Int32) → Int32 → Int32 → (Nat → Int32) → Int32 → (Nat → Int32) → Prop} {p0 : Int32} {vZ : Nat → Int32} {bZ bD : Int32} {wD gF pE qA nJ nY dQ : Nat → Int32} {jC eO eW dO fJ fY jD nG pG : Int32} {qO qQ oF : Nat → Int32} {oE uF : Int32} {sG : Nat → Int32} {qF : Int32} {jJ : Nat → Int32} (h : wp_X9_doActs P p0 vZ bZ bD wD gF pE qA nJ nY dQ jC eO eW dO fJ fY jD nG pG qO qQ oF oE uF sG qF jJ) (hq : ∀ o : Int32 × Int32 × Int32 × Int32 × Int32 × Int32 × Int32 × Int32 × Int32 × (Nat → Int32) × (Nat → Int32) × Int32 × Int32 × (Nat → Int32) × Int32 × (Nat → Int32), o = F_X9_doActs p0 vZ bZ bD wD gF pE qA nJ nY dQ jC eO eW dO fJ fY jD nG pG qO qQ oF oE uF sG qF jJ → P o.1 o.2.1 o.2.2.1 o.2.2.2.1 o.2.2.2.2.1 o.2.2.2.2.2.1 o.2.2.2.2.2.2.1 o.2.2.2.2.2.2.2.1 o.2.2.2.2.2.2.2.2.1 o.2.2.2.2.2.2.2.2.2.1 o.2.2.2.2.2.2.2.2.2.2.1 o.2.2.2.2.2.2.2.2.2.2.2.1 o.2.2.2.2.2.2.2.2.2.2.2.2.1 o.2.2.2.2.2.2.2.2.2.2.2.2.2.1 o.2.2.2.2.2.2.2.2.2.2.2.2.2.2.1 o.2.2.2.2.2.2.2.2.2.2.2.2.2.2.2 → Q o.1 o.2.1 o.2.2.1 o.2.2.2.1 o.2.2.2.2.1 o.2.2.2.2.2.1 o.2.2.2.2.2.2.1 o.2.2.2.2.2.2.2.1 o.2.2.2.2.2.2.2.2.1 o.2.2.2.2.2.2.2.2.2.1 o.2.2.2.2.2.2.2.2.2.2.1 o.2.2.2.2.2.2.2.2.2.2.2.1 o.2.2.2.2.2.2.2.2.2.2.2.2.1 o.2.2.2.2.2.2.2.2.2.2.2.2.2.1 o.2.2.2.2.2.2.2.2.2.2.2.2.2.2.1 o.2.2.2.2.2.2.2.2.2.2.2.2.2.2.2) : wp_X9_doActs Q p0 vZ bZ bD wD gF pE qA nJ nY dQ jC eO eW dO fJ fY jD nG pG qO qQ oF oE uF sG qF jJ := by
  rw [F_X9_doActs] at hq
  refine du_X4_note h ?_
  intro h
  obtain ⟨n1, h⟩ := h
  exact ⟨n1, dl_X9_doActs_21 n1 31 _ _ _ _ _ _ _ _ _ _ _ _ _ _ _ _ _ _ _ _ (by decide) (by decide) h (fun b0 b1 b2 b3 b4 b5 b6 b7 b8 b9 b10 b11 b12 b13 b14 b15 e9 h9 => hq (b0, b1, b2, b3, b4, b5, b6, b7, b8, b9, b10, b11, b12, b13, b14, b15) e9 h9)⟩
theorem du_X9_doActs {P Q : Int32 → Int32 → Int32 → Int32 → Int32 → Int32 → Int32 → Int32 → Int32 → (Nat → Int32) → (Nat → Int32) → Int32 → Int32 → (Nat → Int32) → Int32 → (Nat → Int32) → Prop} {p0 : Int32} {vZ : Nat → Int32} {bZ bD : Int32} {wD gF pE qA nJ nY dQ : Nat → Int32} {jC eO eW dO fJ fY jD nG pG : Int32} {qO qQ oF : Nat → Int32} {oE uF : Int32} {sG : Nat → Int32} {qF : Int32} {jJ : Nat → Int32} (h : wp_X9_doActs P p0 vZ bZ bD wD gF pE qA nJ nY dQ jC eO eW dO fJ fY jD nG pG qO qQ oF oE uF sG qF jJ) (hq : P (F_X9_doActs p0 vZ bZ bD wD gF pE qA nJ nY dQ jC eO eW dO fJ fY jD nG pG qO qQ oF oE uF sG qF jJ).1 (F_X9_doActs p0 vZ bZ bD wD gF pE qA nJ nY dQ jC eO eW dO fJ fY jD nG pG qO qQ oF oE uF sG qF jJ).2.1 (F_X9_doActs p0 vZ bZ bD wD gF pE qA nJ nY dQ jC eO eW dO fJ fY jD nG pG qO qQ oF oE uF sG qF jJ).2.2.1 (F_X9_doActs p0 vZ bZ bD wD gF pE qA nJ nY dQ jC eO eW dO fJ fY jD nG pG qO qQ oF oE uF sG qF jJ).2.2.2.1 (F_X9_doActs p0 vZ bZ bD wD gF pE qA nJ nY dQ jC eO eW dO fJ fY jD nG pG qO qQ oF oE uF sG qF jJ).2.2.2.2.1 (F_X9_doActs p0 vZ bZ bD wD gF pE qA nJ nY dQ jC eO eW dO fJ fY jD nG pG qO qQ oF oE uF sG qF jJ).2.2.2.2.2.1 (F_X9_doActs p0 vZ bZ bD wD gF pE qA nJ nY dQ jC eO eW dO fJ fY jD nG pG qO qQ oF oE uF sG qF jJ).2.2.2.2.2.2.1 (F_X9_doActs p0 vZ bZ bD wD gF pE qA nJ nY dQ jC eO eW dO fJ fY jD nG pG qO qQ oF oE uF sG qF jJ).2.2.2.2.2.2.2.1 (F_X9_doActs p0 vZ bZ bD wD gF pE qA nJ nY dQ jC eO eW dO fJ fY jD nG pG qO qQ oF oE uF sG qF jJ).2.2.2.2.2.2.2.2.1 (F_X9_doActs p0 vZ bZ bD wD gF pE qA nJ nY dQ jC eO eW dO fJ fY jD nG pG qO qQ oF oE uF sG qF jJ).2.2.2.2.2.2.2.2.2.1 (F_X9_doActs p0 vZ bZ bD wD gF pE qA nJ nY dQ jC eO eW dO fJ fY jD nG pG qO qQ oF oE uF sG qF jJ).2.2.2.2.2.2.2.2.2.2.1 (F_X9_doActs p0 vZ bZ bD wD gF pE qA nJ nY dQ jC eO eW dO fJ fY jD nG pG qO qQ oF oE uF sG qF jJ).2.2.2.2.2.2.2.2.2.2.2.1 (F_X9_doActs p0 vZ bZ bD wD gF pE qA nJ nY dQ jC eO eW dO fJ fY jD nG pG qO qQ oF oE uF sG qF jJ).2.2.2.2.2.2.2.2.2.2.2.2.1 (F_X9_doActs p0 vZ bZ bD wD gF pE qA nJ nY dQ jC eO eW dO fJ fY jD nG pG qO qQ oF oE uF sG qF jJ).2.2.2.2.2.2.2.2.2.2.2.2.2.1 (F_X9_doActs p0 vZ bZ bD wD gF pE qA nJ nY dQ jC eO eW dO fJ fY jD nG pG qO qQ oF oE uF sG qF jJ).2.2.2.2.2.2.2.2.2.2.2.2.2.2.1 (F_X9_doActs p0 vZ bZ bD wD gF pE qA nJ nY dQ jC eO eW dO fJ fY jD nG pG qO qQ oF oE uF sG qF jJ).2.2.2.2.2.2.2.2.2.2.2.2.2.2.2 → Q (F_X9_doActs p0 vZ bZ bD wD gF pE qA nJ nY dQ jC eO eW dO fJ fY jD nG pG qO qQ oF oE uF sG qF jJ).1 (F_X9_doActs p0 vZ bZ bD wD gF pE qA nJ nY dQ jC eO eW dO fJ fY jD nG pG qO qQ oF oE uF sG qF jJ).2.1 (F_X9_doActs p0 vZ bZ bD wD gF pE qA nJ nY dQ jC eO eW dO fJ fY jD nG pG qO qQ oF oE uF sG qF jJ).2.2.1 (F_X9_doActs p0 vZ bZ bD wD gF pE qA nJ nY dQ jC eO eW dO fJ fY jD nG pG qO qQ oF oE uF sG qF jJ).2.2.2.1 (F_X9_doActs p0 vZ bZ bD wD gF pE qA nJ nY dQ jC eO eW dO fJ fY jD nG pG qO qQ oF oE uF sG qF jJ).2.2.2.2.1 (F_X9_doActs p0 vZ bZ bD wD gF pE qA nJ nY dQ jC eO eW dO fJ fY jD nG pG qO qQ oF oE uF sG qF jJ).2.2.2.2.2.1 (F_X9_doActs p0 vZ bZ bD wD gF pE qA nJ nY dQ jC eO eW dO fJ fY jD nG pG qO qQ oF oE uF sG qF jJ).2.2.2.2.2.2.1 (F_X9_doActs p0 vZ bZ bD wD gF pE qA nJ nY dQ jC eO eW dO fJ fY jD nG pG qO qQ oF oE uF sG qF jJ).2.2.2.2.2.2.2.1 (F_X9_doActs p0 vZ bZ bD wD gF pE qA nJ nY dQ jC eO eW dO fJ fY jD nG pG qO qQ oF oE uF sG qF jJ).2.2.2.2.2.2.2.2.1 (F_X9_doActs p0 vZ bZ bD wD gF pE qA nJ nY dQ jC eO eW dO fJ fY jD nG pG qO qQ oF oE uF sG qF jJ).2.2.2.2.2.2.2.2.2.1 (F_X9_doActs p0 vZ bZ bD wD gF pE qA nJ nY dQ jC eO eW dO fJ fY jD nG pG qO qQ oF oE uF sG qF jJ).2.2.2.2.2.2.2.2.2.2.1 (F_X9_doActs p0 vZ bZ bD wD gF pE qA nJ nY dQ jC eO eW dO fJ fY jD nG pG qO qQ oF oE uF sG qF jJ).2.2.2.2.2.2.2.2.2.2.2.1 (F_X9_doActs p0 vZ bZ bD wD gF pE qA nJ nY dQ jC eO eW dO fJ fY jD nG pG qO qQ oF oE uF sG qF jJ).2.2.2.2.2.2.2.2.2.2.2.2.1 (F_X9_doActs p0 vZ bZ bD wD gF pE qA nJ nY dQ jC eO eW dO fJ fY jD nG pG qO qQ oF oE uF sG qF jJ).2.2.2.2.2.2.2.2.2.2.2.2.2.1 (F_X9_doActs p0 vZ bZ bD wD gF pE qA nJ nY dQ jC eO eW dO fJ fY jD nG pG qO qQ oF oE uF sG qF jJ).2.2.2.2.2.2.2.2.2.2.2.2.2.2.1 (F_X9_doActs p0 vZ bZ bD wD gF pE qA nJ nY dQ jC eO eW dO fJ fY jD nG pG qO qQ oF oE uF sG qF jJ).2.2.2.2.2.2.2.2.2.2.2.2.2.2.2) : wp_X9_doActs Q p0 vZ bZ bD wD gF pE qA nJ nY dQ jC eO eW dO fJ fY jD nG pG qO qQ oF oE uF sG qF jJ := dt_X9_doActs h (fun o eo => by rw [eo]; exact hq)
theorem dw_X9_doActs {Q : Int32 → Int32 → Int32 → Int32 → Int32 → Int32 → Int32 → Int32 → Int32 → (Nat → Int32) → (Nat → Int32) → Int32 → Int32 → (Nat → Int32) → Int32 → (Nat → Int32) → Prop} {p0 : Int32} {vZ : Nat → Int32} {bZ bD : Int32} {wD gF pE qA nJ nY dQ : Nat → Int32} {jC eO eW dO fJ fY jD nG pG : Int32} {qO qQ oF : Nat → Int32} {oE uF : Int32} {sG : Nat → Int32} {qF : Int32} {jJ : Nat → Int32} (h : wp_X9_doActs (fun o0 o1 o2 o3 o4 o5 o6 o7 o8 o9 o10 o11 o12 o13 o14 o15 => (o0, o1, o2, o3, o4, o5, o6, o7, o8, o9, o10, o11, o12, o13, o14, o15) = F_X9_doActs p0 vZ bZ bD wD gF pE qA nJ nY dQ jC eO eW dO fJ fY jD nG pG qO qQ oF oE uF sG qF jJ → Q o0 o1 o2 o3 o4 o5 o6 o7 o8 o9 o10 o11 o12 o13 o14 o15) p0 vZ bZ bD wD gF pE qA nJ nY dQ jC eO eW dO fJ fY jD nG pG qO qQ oF oE uF sG qF jJ) : wp_X9_doActs Q p0 vZ bZ bD wD gF pE qA nJ nY dQ jC eO eW dO fJ fY jD nG pG qO qQ oF oE uF sG qF jJ := dt_X9_doActs h (fun o eo hp => hp eo)
noncomputable def j_X9_readAct_143 {R : Type} (po : Int32 → Int32 → R) (rY : Int32) (qM : Nat → Int32) (x1 x2 qJ : Int32) : R := if x2 = 0 then (po (x1 * 100) (F_X8_skip qJ rY)) else (if (F_X8_readNumber x2 (F_X8_skip qJ rY) rY qM).1 = (-1) then (po (-1) ((F_X8_readNumber x2 (F_X8_skip qJ rY) rY qM).2)) else (po ((x1 * 100) + (F_X8_readNumber x2 (F_X8_skip qJ rY) rY qM).1) ((F_X8_readNumber x2 (F_X8_skip qJ rY) rY qM).2)))
noncomputable def j_X9_readAct_138 {R : Type} (po : Int32 → Int32 → R) (rY : Int32) (qM : Nat → Int32) (x1 x2 qJ : Int32) : R := j_X9_readAct_143 po rY qM x1 x2 qJ
noncomputable def j_X9_readAct_133 {R : Type} (po : Int32 → Int32 → R) (rY : Int32) (qM : Nat → Int32) (x1 qJ : Int32) : R := j_X9_readAct_143 po rY qM x1 2 qJ
noncomputable def F_X9_readAct (qJ rY : Int32) (qM : Nat → Int32) : Int32 × Int32 := if (F_X8_here qJ rY qM) = 97 then (j_X9_readAct_138 (fun o0 o1 => (o0, o1)) rY qM (F_X8_here qJ rY qM) 0 qJ) else (if (F_X8_here qJ rY qM) = 100 then (j_X9_readAct_138 (fun o0 o1 => (o0, o1)) rY qM (F_X8_here qJ rY qM) 0 qJ) else (if (F_X8_here qJ rY qM) = 104 then (j_X9_readAct_133 (fun o0 o1 => (o0, o1)) rY qM (F_X8_here qJ rY qM) qJ) else (if (F_X8_here qJ rY qM) = 107 then (j_X9_readAct_138 (fun o0 o1 => (o0, o1)) rY qM (F_X8_here qJ rY qM) 0 qJ) else (if (F_X8_here qJ rY qM) = 109 then (j_X9_readAct_143 (fun o0 o1 => (o0, o1)) rY qM (F_X8_here qJ rY qM) 1 qJ) else (if (F_X8_here qJ rY qM) = 111 then (j_X9_readAct_138 (fun o0 o1 => (o0, o1)) rY qM (F_X8_here qJ rY qM) 0 qJ) else (if (F_X8_here qJ rY qM) = 112 then (j_X9_readAct_133 (fun o0 o1 => (o0, o1)) rY qM (F_X8_here qJ rY qM) qJ) else (if (F_X8_here qJ rY qM) = 122 then (j_X9_readAct_138 (fun o0 o1 => (o0, o1)) rY qM (F_X8_here qJ rY qM) 0 qJ) else ((-1), qJ))))))))
set_option maxHeartbeats 200000 in
set_option maxRecDepth 10000 in
theorem dt_X9_readAct {P Q : Int32 → Int32 → Prop} {qJ rY : Int32} {qM : Nat → Int32} (h : wp_X9_readAct P qJ rY qM) (hq : ∀ o : Int32 × Int32, o = F_X9_readAct qJ rY qM → P o.1 o.2 → Q o.1 o.2) : wp_X9_readAct Q qJ rY qM := by
  rw [F_X9_readAct] at hq
  refine du_X8_here h ?_
  intro h
  refine (And.intro (fun c1 => ?_) (And.intro (fun c2 => ?_) (And.intro (fun c3 => ?_) (And.intro (fun c4 => ?_) (And.intro (fun c5 => ?_) (And.intro (fun c6 => ?_) (And.intro (fun c7 => ?_) (And.intro (fun c8 => ?_) (fun c1 c2 c3 c4 c5 c6 c7 c8 => ?_)))))))))
  · have h := And.left h c1
    rw [if_pos c1] at hq
    rw [j_X9_readAct_138] at hq
    unfold ws_X9_readAct_138 at h ⊢
    rw [j_X9_readAct_143] at hq
    unfold ws_X9_readAct_143 at h ⊢
    refine du_X8_skip h ?_
    intro h
    refine And.intro (fun c9 => ?_) (fun c9 => ?_)
    · have h := And.left h c9
      rw [if_neg c9] at hq
      refine du_X8_readNumber (by decide) h ?_
      intro h
      refine And.intro (fun c10 => ?_) (fun c10 => ?_)
      · have h := And.left h c10
        rw [if_neg c10] at hq
        refine ae ?_
        have h := h _ rfl
        have q9 := hq _ rfl
        dsimp only at q9
        exact q9 h
      · have h := And.right h c10
        rw [if_pos c10] at hq
        have q9 := hq _ rfl
        dsimp only at q9
        exact q9 h
    · have h := And.right h c9
      rw [if_pos c9] at hq
      have q9 := hq _ rfl
      dsimp only at q9
      exact q9 h
  · have h := And.left (And.right h) c2
    rw [if_neg (fun e9 => absurd (e9.symm.trans c2) (by decide)), if_pos c2] at hq
    rw [j_X9_readAct_138] at hq
    unfold ws_X9_readAct_138 at h ⊢
    rw [j_X9_readAct_143] at hq
    unfold ws_X9_readAct_143 at h ⊢
    refine du_X8_skip h ?_
    intro h
    refine And.intro (fun c11 => ?_) (fun c11 => ?_)
    · have h := And.left h c11
      rw [if_neg c11] at hq
      refine du_X8_readNumber (by decide) h ?_
      intro h
      refine And.intro (fun c12 => ?_) (fun c12 => ?_)
      · have h := And.left h c12
        rw [if_neg c12] at hq
        refine ae ?_
        have h := h _ rfl
        have q9 := hq _ rfl
        dsimp only at q9
        exact q9 h
      · have h := And.right h c12
        rw [if_pos c12] at hq
        have q9 := hq _ rfl
        dsimp only at q9
        exact q9 h
    · have h := And.right h c11
      rw [if_pos c11] at hq
      have q9 := hq _ rfl
      dsimp only at q9
      exact q9 h
  · have h := And.left (And.right (And.right h)) c3
    rw [if_neg (fun e9 => absurd (e9.symm.trans c3) (by decide)), if_neg (fun e9 => absurd (e9.symm.trans c3) (by decide)), if_pos c3] at hq
    rw [j_X9_readAct_133] at hq
    unfold ws_X9_readAct_133 at h ⊢
    rw [j_X9_readAct_143] at hq
    unfold ws_X9_readAct_143 at h ⊢
    refine du_X8_skip h ?_
    intro h
    refine And.intro (fun c13 => ?_) (fun c13 => ?_)
    · have h := And.left h c13
      rw [if_neg c13] at hq
      refine du_X8_readNumber (by decide) h ?_
      intro h
      refine And.intro (fun c14 => ?_) (fun c14 => ?_)
      · have h := And.left h c14
        rw [if_neg c14] at hq
        refine ae ?_
        have h := h _ rfl
        have q9 := hq _ rfl
        dsimp only at q9
        exact q9 h
      · have h := And.right h c14
        rw [if_pos c14] at hq
        have q9 := hq _ rfl
        dsimp only at q9
        exact q9 h
    · have h := And.right h c13
      rw [if_pos c13] at hq
      have q9 := hq _ rfl
      dsimp only at q9
      exact q9 h
  · have h := And.left (And.right (And.right (And.right h))) c4
    rw [if_neg (fun e9 => absurd (e9.symm.trans c4) (by decide)), if_neg (fun e9 => absurd (e9.symm.trans c4) (by decide)), if_neg (fun e9 => absurd (e9.symm.trans c4) (by decide)), if_pos c4] at hq
    rw [j_X9_readAct_138] at hq
    unfold ws_X9_readAct_138 at h ⊢
    rw [j_X9_readAct_143] at hq
    unfold ws_X9_readAct_143 at h ⊢
    refine du_X8_skip h ?_
    intro h
    refine And.intro (fun c15 => ?_) (fun c15 => ?_)
    · have h := And.left h c15
      rw [if_neg c15] at hq
      refine du_X8_readNumber (by decide) h ?_
      intro h
      refine And.intro (fun c16 => ?_) (fun c16 => ?_)
      · have h := And.left h c16
        rw [if_neg c16] at hq
        refine ae ?_
        have h := h _ rfl
        have q9 := hq _ rfl
        dsimp only at q9
        exact q9 h
      · have h := And.right h c16
        rw [if_pos c16] at hq
        have q9 := hq _ rfl
        dsimp only at q9
        exact q9 h
    · have h := And.right h c15
      rw [if_pos c15] at hq
      have q9 := hq _ rfl
      dsimp only at q9
      exact q9 h
  · have h := And.left (And.right (And.right (And.right (And.right h)))) c5
    rw [if_neg (fun e9 => absurd (e9.symm.trans c5) (by decide)), if_neg (fun e9 => absurd (e9.symm.trans c5) (by decide)), if_neg (fun e9 => absurd (e9.symm.trans c5) (by decide)), if_neg (fun e9 => absurd (e9.symm.trans c5) (by decide)), if_pos c5] at hq
    rw [j_X9_readAct_143] at hq
    unfold ws_X9_readAct_143 at h ⊢
    refine du_X8_skip h ?_
    intro h
    refine And.intro (fun c17 => ?_) (fun c17 => ?_)
    · have h := And.left h c17
      rw [if_neg c17] at hq
      refine du_X8_readNumber (by decide) h ?_
      intro h
      refine And.intro (fun c18 => ?_) (fun c18 => ?_)
      · have h := And.left h c18
        rw [if_neg c18] at hq
        refine ae ?_
        have h := h _ rfl
        have q9 := hq _ rfl
        dsimp only at q9
        exact q9 h
      · have h := And.right h c18
        rw [if_pos c18] at hq
        have q9 := hq _ rfl
        dsimp only at q9
        exact q9 h
    · have h := And.right h c17
      rw [if_pos c17] at hq
      have q9 := hq _ rfl
      dsimp only at q9
      exact q9 h
  · have h := And.left (And.right (And.right (And.right (And.right (And.right h))))) c6
    rw [if_neg (fun e9 => absurd (e9.symm.trans c6) (by decide)), if_neg (fun e9 => absurd (e9.symm.trans c6) (by decide)), if_neg (fun e9 => absurd (e9.symm.trans c6) (by decide)), if_neg (fun e9 => absurd (e9.symm.trans c6) (by decide)), if_neg (fun e9 => absurd (e9.symm.trans c6) (by decide)), if_pos c6] at hq
    rw [j_X9_readAct_138] at hq
    unfold ws_X9_readAct_138 at h ⊢
    rw [j_X9_readAct_143] at hq
    unfold ws_X9_readAct_143 at h ⊢
    refine du_X8_skip h ?_
    intro h
    refine And.intro (fun c19 => ?_) (fun c19 => ?_)
    · have h := And.left h c19
      rw [if_neg c19] at hq
      refine du_X8_readNumber (by decide) h ?_
      intro h
      refine And.intro (fun c20 => ?_) (fun c20 => ?_)
      · have h := And.left h c20
        rw [if_neg c20] at hq
        refine ae ?_
        have h := h _ rfl
        have q9 := hq _ rfl
        dsimp only at q9
        exact q9 h
      · have h := And.right h c20
        rw [if_pos c20] at hq
        have q9 := hq _ rfl
        dsimp only at q9
        exact q9 h
    · have h := And.right h c19
      rw [if_pos c19] at hq
      have q9 := hq _ rfl
      dsimp only at q9
      exact q9 h
  · have h := And.left (And.right (And.right (And.right (And.right (And.right (And.right h)))))) c7
    rw [if_neg (fun e9 => absurd (e9.symm.trans c7) (by decide)), if_neg (fun e9 => absurd (e9.symm.trans c7) (by decide)), if_neg (fun e9 => absurd (e9.symm.trans c7) (by decide)), if_neg (fun e9 => absurd (e9.symm.trans c7) (by decide)), if_neg (fun e9 => absurd (e9.symm.trans c7) (by decide)), if_neg (fun e9 => absurd (e9.symm.trans c7) (by decide)), if_pos c7] at hq
    rw [j_X9_readAct_133] at hq
    unfold ws_X9_readAct_133 at h ⊢
    rw [j_X9_readAct_143] at hq
    unfold ws_X9_readAct_143 at h ⊢
    refine du_X8_skip h ?_
    intro h
    refine And.intro (fun c21 => ?_) (fun c21 => ?_)
    · have h := And.left h c21
      rw [if_neg c21] at hq
      refine du_X8_readNumber (by decide) h ?_
      intro h
      refine And.intro (fun c22 => ?_) (fun c22 => ?_)
      · have h := And.left h c22
        rw [if_neg c22] at hq
        refine ae ?_
        have h := h _ rfl
        have q9 := hq _ rfl
        dsimp only at q9
        exact q9 h
      · have h := And.right h c22
        rw [if_pos c22] at hq
        have q9 := hq _ rfl
        dsimp only at q9
        exact q9 h
    · have h := And.right h c21
      rw [if_pos c21] at hq
      have q9 := hq _ rfl
      dsimp only at q9
      exact q9 h
  · have h := And.left (And.right (And.right (And.right (And.right (And.right (And.right (And.right h))))))) c8
    rw [if_neg (fun e9 => absurd (e9.symm.trans c8) (by decide)), if_neg (fun e9 => absurd (e9.symm.trans c8) (by decide)), if_neg (fun e9 => absurd (e9.symm.trans c8) (by decide)), if_neg (fun e9 => absurd (e9.symm.trans c8) (by decide)), if_neg (fun e9 => absurd (e9.symm.trans c8) (by decide)), if_neg (fun e9 => absurd (e9.symm.trans c8) (by decide)), if_neg (fun e9 => absurd (e9.symm.trans c8) (by decide)), if_pos c8] at hq
    rw [j_X9_readAct_138] at hq
    unfold ws_X9_readAct_138 at h ⊢
    rw [j_X9_readAct_143] at hq
    unfold ws_X9_readAct_143 at h ⊢
    refine du_X8_skip h ?_
    intro h
    refine And.intro (fun c23 => ?_) (fun c23 => ?_)
    · have h := And.left h c23
      rw [if_neg c23] at hq
      refine du_X8_readNumber (by decide) h ?_
      intro h
      refine And.intro (fun c24 => ?_) (fun c24 => ?_)
      · have h := And.left h c24
        rw [if_neg c24] at hq
        refine ae ?_
        have h := h _ rfl
        have q9 := hq _ rfl
        dsimp only at q9
        exact q9 h
      · have h := And.right h c24
        rw [if_pos c24] at hq
        have q9 := hq _ rfl
        dsimp only at q9
        exact q9 h
    · have h := And.right h c23
      rw [if_pos c23] at hq
      have q9 := hq _ rfl
      dsimp only at q9
      exact q9 h
  · have h := And.right (And.right (And.right (And.right (And.right (And.right (And.right (And.right h))))))) c1 c2 c3 c4 c5 c6 c7 c8
    rw [if_neg c1, if_neg c2, if_neg c3, if_neg c4, if_neg c5, if_neg c6, if_neg c7, if_neg c8] at hq
    have q9 := hq _ rfl
    dsimp only at q9
    exact q9 h
theorem du_X9_readAct {P Q : Int32 → Int32 → Prop} {qJ rY : Int32} {qM : Nat → Int32} (h : wp_X9_readAct P qJ rY qM) (hq : P (F_X9_readAct qJ rY qM).1 (F_X9_readAct qJ rY qM).2 → Q (F_X9_readAct qJ rY qM).1 (F_X9_readAct qJ rY qM).2) : wp_X9_readAct Q qJ rY qM := dt_X9_readAct h (fun o eo => by rw [eo]; exact hq)
theorem dw_X9_readAct {Q : Int32 → Int32 → Prop} {qJ rY : Int32} {qM : Nat → Int32} (h : wp_X9_readAct (fun o0 o1 => (o0, o1) = F_X9_readAct qJ rY qM → Q o0 o1) qJ rY qM) : wp_X9_readAct Q qJ rY qM := dt_X9_readAct h (fun o eo hp => hp eo)
noncomputable def fs_X9_readActs_2 {R : Type} (po : Int32 → (Nat → Int32) → Int32 → R) (rY : Int32) (qM : Nat → Int32) (nx : Int32 → (Nat → Int32) → Int32 → R) (x1 : Int32) (vZ : Nat → Int32) (qJ : Int32) : R := if 30 ≤ x1 then (po (-1) vZ qJ) else (if (F_X9_readAct qJ rY qM).1 = (-1) then (po (-1) vZ ((F_X9_readAct qJ rY qM).2)) else (if (F_X8_take 59 (F_X9_readAct qJ rY qM).2 rY qM).1 = 0 then (po (x1 + 1) (upd vZ x1.toNatClampNeg (F_X9_readAct qJ rY qM).1) ((F_X8_take 59 (F_X9_readAct qJ rY qM).2 rY qM).2)) else (nx (x1 + 1) (upd vZ x1.toNatClampNeg (F_X9_readAct qJ rY qM).1) ((F_X8_take 59 (F_X9_readAct qJ rY qM).2 rY qM).2))))
set_option maxHeartbeats 200000 in
set_option maxRecDepth 10000 in
theorem dl_X9_readActs_2 {P Q : Int32 → (Nat → Int32) → Int32 → Prop} {rY : Int32} {qM : Nat → Int32} {R : Type} {po d : Int32 → (Nat → Int32) → Int32 → R} : ∀ (n m : Nat) (x1 : Int32) (vZ : Nat → Int32) (qJ : Int32), 0 ≤ Int32.toInt x1 ∧ Int32.toInt x1 ≤ 30 → 30 - Int32.toInt x1 < (m : Int) → wb_X9_readActs_2 P rY qM n x1 vZ qJ → (∀ (b0 : Int32) (b1 : Nat → Int32) (b2 : Int32), po b0 b1 b2 = flp (fs_X9_readActs_2 po rY qM) d m x1 vZ qJ → P b0 b1 b2 → Q b0 b1 b2) → wb_X9_readActs_2 Q rY qM n x1 vZ qJ := by
  have l1 : Int32.toInt (1 : Int32) = 1 := by decide
  have l30 : Int32.toInt (30 : Int32) = 30 := by decide
  intro n
  induction n with
  | zero => intro m x1 vZ qJ hv hm h hq; exact False.elim h
  | succ n ih =>
    intro m x1 vZ qJ hv hm h hq
    cases m with
    | zero => exfalso; omega
    | succ m =>
      rw [flp_s, fs_X9_readActs_2] at hq
      have h : ws_X9_readActs_2 P (wb_X9_readActs_2 P rY qM n) rY qM x1 vZ qJ := h
      show ws_X9_readActs_2 Q (wb_X9_readActs_2 Q rY qM n) rY qM x1 vZ qJ
      unfold ws_X9_readActs_2 at h ⊢
      refine And.intro (fun c1 => ?_) (fun c1 => ?_)
      · have h := And.left h c1
        rw [if_pos c1] at hq
        have dc1 := (fa_le _ _).mp c1
        exact hq _ _ _ rfl h
      · have h := And.right h c1
        rw [if_neg c1] at hq
        have dc1 := mt (fa_le _ _).mpr c1
        refine du_X9_readAct h ?_
        intro h
        refine And.intro (fun c2 => ?_) (fun c2 => ?_)
        · have h := And.left h c2
          rw [if_neg c2] at hq
          have dc2 := mt (fa_eq _ _).mpr c2
          refine And.intro (And.left h) ?_
          have h := And.right h
          refine du_X8_take h ?_
          intro h
          refine And.intro (fun c3 => ?_) (fun c3 => ?_)
          · have h := And.left h c3
            rw [if_neg c3] at hq
            have dc3 := mt (fa_eq _ _).mpr c3
            refine ae ?_
            have h := h _ rfl
            have f9 := ta_add x1 1 (by omega)
            exact ih m _ _ _ (by omega) (by omega) h hq
          · have h := And.right h c3
            rw [if_pos c3] at hq
            have dc3 := (fa_eq _ _).mp c3
            exact hq _ _ _ rfl h
        · have h := And.right h c2
          rw [if_pos c2] at hq
          have dc2 := (fa_eq _ _).mp c2
          exact hq _ _ _ rfl h
noncomputable def F_X9_readActs (vZ : Nat → Int32) (qJ rY : Int32) (qM : Nat → Int32) : Int32 × (Nat → Int32) × Int32 := flp (fs_X9_readActs_2 (fun o0 o1 o2 => (o0, o1, o2)) rY qM) (fun _ _ _ => (0, (fun _ => 0), 0)) 31 0 vZ qJ
set_option maxHeartbeats 200000 in
set_option maxRecDepth 10000 in
theorem dt_X9_readActs {P Q : Int32 → (Nat → Int32) → Int32 → Prop} {vZ : Nat → Int32} {qJ rY : Int32} {qM : Nat → Int32} (h : wp_X9_readActs P vZ qJ rY qM) (hq : ∀ o : Int32 × (Nat → Int32) × Int32, o = F_X9_readActs vZ qJ rY qM → P o.1 o.2.1 o.2.2 → Q o.1 o.2.1 o.2.2) : wp_X9_readActs Q vZ qJ rY qM := by
  rw [F_X9_readActs] at hq
  obtain ⟨n1, h⟩ := h
  exact ⟨n1, dl_X9_readActs_2 n1 31 _ _ _ (by decide) (by decide) h (fun b0 b1 b2 e9 h9 => hq (b0, b1, b2) e9 h9)⟩
theorem du_X9_readActs {P Q : Int32 → (Nat → Int32) → Int32 → Prop} {vZ : Nat → Int32} {qJ rY : Int32} {qM : Nat → Int32} (h : wp_X9_readActs P vZ qJ rY qM) (hq : P (F_X9_readActs vZ qJ rY qM).1 (F_X9_readActs vZ qJ rY qM).2.1 (F_X9_readActs vZ qJ rY qM).2.2 → Q (F_X9_readActs vZ qJ rY qM).1 (F_X9_readActs vZ qJ rY qM).2.1 (F_X9_readActs vZ qJ rY qM).2.2) : wp_X9_readActs Q vZ qJ rY qM := dt_X9_readActs h (fun o eo => by rw [eo]; exact hq)
theorem dw_X9_readActs {Q : Int32 → (Nat → Int32) → Int32 → Prop} {vZ : Nat → Int32} {qJ rY : Int32} {qM : Nat → Int32} (h : wp_X9_readActs (fun o0 o1 o2 => (o0, o1, o2) = F_X9_readActs vZ qJ rY qM → Q o0 o1 o2) vZ qJ rY qM) : wp_X9_readActs Q vZ qJ rY qM := dt_X9_readActs h (fun o eo hp => hp eo)
noncomputable def j_X9_day_68 {R : Type} (po : Int32 → (Nat → Int32) → Int32 → Int32 → Int32 → Int32 → Int32 → Int32 → Int32 → Int32 → Int32 → Int32 → Int32 → (Nat → Int32) → (Nat → Int32) → Int32 → Int32 → (Nat → Int32) → Int32 → (Nat → Int32) → R) (qM : Nat → Int32) (bZ bD : Int32) (wD gF pE qA nJ nY dQ : Nat → Int32) (pG : Int32) (oF : Nat → Int32) (k0 : Int32) (vZ : Nat → Int32) (qI qJ rY jC eO eW dO fJ fY jD nG : Int32) (qO qQ : Nat → Int32) (oE uF : Int32) (sG : Nat → Int32) (qF : Int32) (jJ : Nat → Int32) : R := po k0 vZ (F_X8_clear qI) qJ rY jC eO eW dO fJ fY jD nG qO qQ oE uF sG qF jJ
noncomputable def j_X9_day_48 {R : Type} (po : Int32 → (Nat → Int32) → Int32 → Int32 → Int32 → Int32 → Int32 → Int32 → Int32 → Int32 → Int32 → Int32 → Int32 → (Nat → Int32) → (Nat → Int32) → Int32 → Int32 → (Nat → Int32) → Int32 → (Nat → Int32) → R) (qM : Nat → Int32) (bZ bD : Int32) (wD gF pE qA nJ nY dQ : Nat → Int32) (pG : Int32) (oF : Nat → Int32) (x1 k0 : Int32) (vZ : Nat → Int32) (qI qJ rY jC eO eW dO fJ fY jD nG : Int32) (qO qQ : Nat → Int32) (oE uF : Int32) (sG : Nat → Int32) (qF : Int32) (jJ : Nat → Int32) : R := if k0 = 0 then (j_X9_day_68 po qM bZ bD wD gF pE qA nJ nY dQ pG oF (F_X8_wrong qJ) vZ qI qJ rY jC eO eW dO fJ fY jD nG qO qQ oE uF sG qF jJ) else (j_X9_day_68 po qM bZ bD wD gF pE qA nJ nY dQ pG oF ((F_X9_doActs x1 vZ bZ bD wD gF pE qA nJ nY dQ jC eO eW dO fJ fY jD nG pG qO qQ oF oE uF sG qF jJ).1) vZ qI qJ rY ((F_X9_doActs x1 vZ bZ bD wD gF pE qA nJ nY dQ jC eO eW dO fJ fY jD nG pG qO qQ oF oE uF sG qF jJ).2.1) ((F_X9_doActs x1 vZ bZ bD wD gF pE qA nJ nY dQ jC eO eW dO fJ fY jD nG pG qO qQ oF oE uF sG qF jJ).2.2.1) ((F_X9_doActs x1 vZ bZ bD wD gF pE qA nJ nY dQ jC eO eW dO fJ fY jD nG pG qO qQ oF oE uF sG qF jJ).2.2.2.1) ((F_X9_doActs x1 vZ bZ bD wD gF pE qA nJ nY dQ jC eO eW dO fJ fY jD nG pG qO qQ oF oE uF sG qF jJ).2.2.2.2.1) ((F_X9_doActs x1 vZ bZ bD wD gF pE qA nJ nY dQ jC eO eW dO fJ fY jD nG pG qO qQ oF oE uF sG qF jJ).2.2.2.2.2.1) ((F_X9_doActs x1 vZ bZ bD wD gF pE qA nJ nY dQ jC eO eW dO fJ fY jD nG pG qO qQ oF oE uF sG qF jJ).2.2.2.2.2.2.1) ((F_X9_doActs x1 vZ bZ bD wD gF pE qA nJ nY dQ jC eO eW dO fJ fY jD nG pG qO qQ oF oE uF sG qF jJ).2.2.2.2.2.2.2.1) ((F_X9_doActs x1 vZ bZ bD wD gF pE qA nJ nY dQ jC eO eW dO fJ fY jD nG pG qO qQ oF oE uF sG qF jJ).2.2.2.2.2.2.2.2.1) ((F_X9_doActs x1 vZ bZ bD wD gF pE qA nJ nY dQ jC eO eW dO fJ fY jD nG pG qO qQ oF oE uF sG qF jJ).2.2.2.2.2.2.2.2.2.1) ((F_X9_doActs x1 vZ bZ bD wD gF pE qA nJ nY dQ jC eO eW dO fJ fY jD nG pG qO qQ oF oE uF sG qF jJ).2.2.2.2.2.2.2.2.2.2.1) ((F_X9_doActs x1 vZ bZ bD wD gF pE qA nJ nY dQ jC eO eW dO fJ fY jD nG pG qO qQ oF oE uF sG qF jJ).2.2.2.2.2.2.2.2.2.2.2.1) ((F_X9_doActs x1 vZ bZ bD wD gF pE qA nJ nY dQ jC eO eW dO fJ fY jD nG pG qO qQ oF oE uF sG qF jJ).2.2.2.2.2.2.2.2.2.2.2.2.1) ((F_X9_doActs x1 vZ bZ bD wD gF pE qA nJ nY dQ jC eO eW dO fJ fY jD nG pG qO qQ oF oE uF sG qF jJ).2.2.2.2.2.2.2.2.2.2.2.2.2.1) ((F_X9_doActs x1 vZ bZ bD wD gF pE qA nJ nY dQ jC eO eW dO fJ fY jD nG pG qO qQ oF oE uF sG qF jJ).2.2.2.2.2.2.2.2.2.2.2.2.2.2.1) ((F_X9_doActs x1 vZ bZ bD wD gF pE qA nJ nY dQ jC eO eW dO fJ fY jD nG pG qO qQ oF oE uF sG qF jJ).2.2.2.2.2.2.2.2.2.2.2.2.2.2.2))
noncomputable def j_X9_day_47 {R : Type} (po : Int32 → (Nat → Int32) → Int32 → Int32 → Int32 → Int32 → Int32 → Int32 → Int32 → Int32 → Int32 → Int32 → Int32 → (Nat → Int32) → (Nat → Int32) → Int32 → Int32 → (Nat → Int32) → Int32 → (Nat → Int32) → R) (qM : Nat → Int32) (bZ bD : Int32) (wD gF pE qA nJ nY dQ : Nat → Int32) (pG : Int32) (oF : Nat → Int32) (x1 : Int32) (vZ : Nat → Int32) (qI qJ rY jC eO eW dO fJ fY jD nG : Int32) (qO qQ : Nat → Int32) (oE uF : Int32) (sG : Nat → Int32) (qF : Int32) (jJ : Nat → Int32) : R := j_X9_day_48 po qM bZ bD wD gF pE qA nJ nY dQ pG oF x1 0 vZ qI qJ rY jC eO eW dO fJ fY jD nG qO qQ oE uF sG qF jJ
noncomputable def j_X9_day_27 {R : Type} (po : Int32 → (Nat → Int32) → Int32 → Int32 → Int32 → Int32 → Int32 → Int32 → Int32 → Int32 → Int32 → Int32 → Int32 → (Nat → Int32) → (Nat → Int32) → Int32 → Int32 → (Nat → Int32) → Int32 → (Nat → Int32) → R) (qM : Nat → Int32) (bZ bD : Int32) (wD gF pE qA nJ nY dQ : Nat → Int32) (pG : Int32) (oF : Nat → Int32) (k0 : Int32) (vZ : Nat → Int32) (qI qJ rY jC eO eW dO fJ fY jD nG : Int32) (qO qQ : Nat → Int32) (oE uF : Int32) (sG : Nat → Int32) (qF : Int32) (jJ : Nat → Int32) : R := if k0 = (-1) then (j_X9_day_47 po qM bZ bD wD gF pE qA nJ nY dQ pG oF k0 vZ qI qJ rY jC eO eW dO fJ fY jD nG qO qQ oE uF sG qF jJ) else (if (F_X8_isThrough qI qJ) = 0 then (j_X9_day_47 po qM bZ bD wD gF pE qA nJ nY dQ pG oF k0 vZ qI qJ rY jC eO eW dO fJ fY jD nG qO qQ oE uF sG qF jJ) else (j_X9_day_48 po qM bZ bD wD gF pE qA nJ nY dQ pG oF k0 1 vZ qI qJ rY jC eO eW dO fJ fY jD nG qO qQ oE uF sG qF jJ))
noncomputable def F_X9_day (vZ : Nat → Int32) (qI qJ rY : Int32) (qM : Nat → Int32) (bZ bD : Int32) (wD gF pE qA nJ nY dQ : Nat → Int32) (jC eO eW dO fJ fY jD nG pG : Int32) (qO qQ oF : Nat → Int32) (oE uF : Int32) (sG : Nat → Int32) (qF : Int32) (jJ : Nat → Int32) : Int32 × (Nat → Int32) × Int32 × Int32 × Int32 × Int32 × Int32 × Int32 × Int32 × Int32 × Int32 × Int32 × Int32 × (Nat → Int32) × (Nat → Int32) × Int32 × Int32 × (Nat → Int32) × Int32 × (Nat → Int32) := if qI = 0 then (j_X9_day_27 (fun o0 o1 o2 o3 o4 o5 o6 o7 o8 o9 o10 o11 o12 o13 o14 o15 o16 o17 o18 o19 => (o0, o1, o2, o3, o4, o5, o6, o7, o8, o9, o10, o11, o12, o13, o14, o15, o16, o17, o18, o19)) qM bZ bD wD gF pE qA nJ nY dQ pG oF 0 vZ qI ((F_X8_open 60 qI qJ rY).1) ((F_X8_open 60 qI qJ rY).2) jC eO eW dO fJ fY jD nG qO qQ oE uF sG qF jJ) else (j_X9_day_27 (fun o0 o1 o2 o3 o4 o5 o6 o7 o8 o9 o10 o11 o12 o13 o14 o15 o16 o17 o18 o19 => (o0, o1, o2, o3, o4, o5, o6, o7, o8, o9, o10, o11, o12, o13, o14, o15, o16, o17, o18, o19)) qM bZ bD wD gF pE qA nJ nY dQ pG oF ((F_X9_readActs vZ (F_X8_open 60 qI qJ rY).1 (F_X8_open 60 qI qJ rY).2 qM).1) ((F_X9_readActs vZ (F_X8_open 60 qI qJ rY).1 (F_X8_open 60 qI qJ rY).2 qM).2.1) qI ((F_X9_readActs vZ (F_X8_open 60 qI qJ rY).1 (F_X8_open 60 qI qJ rY).2 qM).2.2) ((F_X8_open 60 qI qJ rY).2) jC eO eW dO fJ fY jD nG qO qQ oE uF sG qF jJ)
set_option maxHeartbeats 200000 in
set_option maxRecDepth 10000 in
theorem dt_X9_day {P Q : Int32 → (Nat → Int32) → Int32 → Int32 → Int32 → Int32 → Int32 → Int32 → Int32 → Int32 → Int32 → Int32 → Int32 → (Nat → Int32) → (Nat → Int32) → Int32 → Int32 → (Nat → Int32) → Int32 → (Nat → Int32) → Prop} {vZ : Nat → Int32} {qI qJ rY : Int32} {qM : Nat → Int32} {bZ bD : Int32} {wD gF pE qA nJ nY dQ : Nat → Int32} {jC eO eW dO fJ fY jD nG pG : Int32} {qO qQ oF : Nat → Int32} {oE uF : Int32} {sG : Nat → Int32} {qF : Int32} {jJ : Nat → Int32} (h : wp_X9_day P vZ qI qJ rY qM bZ bD wD gF pE qA nJ nY dQ jC eO eW dO fJ fY jD nG pG qO qQ oF oE uF sG qF jJ) (hq : ∀ o : Int32 × (Nat → Int32) × Int32 × Int32 × Int32 × Int32 × Int32 × Int32 × Int32 × Int32 × Int32 × Int32 × Int32 × (Nat → Int32) × (Nat → Int32) × Int32 × Int32 × (Nat → Int32) × Int32 × (Nat → Int32), o = F_X9_day vZ qI qJ rY qM bZ bD wD gF pE qA nJ nY dQ jC eO eW dO fJ fY jD nG pG qO qQ oF oE uF sG qF jJ → P o.1 o.2.1 o.2.2.1 o.2.2.2.1 o.2.2.2.2.1 o.2.2.2.2.2.1 o.2.2.2.2.2.2.1 o.2.2.2.2.2.2.2.1 o.2.2.2.2.2.2.2.2.1 o.2.2.2.2.2.2.2.2.2.1 o.2.2.2.2.2.2.2.2.2.2.1 o.2.2.2.2.2.2.2.2.2.2.2.1 o.2.2.2.2.2.2.2.2.2.2.2.2.1 o.2.2.2.2.2.2.2.2.2.2.2.2.2.1 o.2.2.2.2.2.2.2.2.2.2.2.2.2.2.1 o.2.2.2.2.2.2.2.2.2.2.2.2.2.2.2.1 o.2.2.2.2.2.2.2.2.2.2.2.2.2.2.2.2.1 o.2.2.2.2.2.2.2.2.2.2.2.2.2.2.2.2.2.1 o.2.2.2.2.2.2.2.2.2.2.2.2.2.2.2.2.2.2.1 o.2.2.2.2.2.2.2.2.2.2.2.2.2.2.2.2.2.2.2 → Q o.1 o.2.1 o.2.2.1 o.2.2.2.1 o.2.2.2.2.1 o.2.2.2.2.2.1 o.2.2.2.2.2.2.1 o.2.2.2.2.2.2.2.1 o.2.2.2.2.2.2.2.2.1 o.2.2.2.2.2.2.2.2.2.1 o.2.2.2.2.2.2.2.2.2.2.1 o.2.2.2.2.2.2.2.2.2.2.2.1 o.2.2.2.2.2.2.2.2.2.2.2.2.1 o.2.2.2.2.2.2.2.2.2.2.2.2.2.1 o.2.2.2.2.2.2.2.2.2.2.2.2.2.2.1 o.2.2.2.2.2.2.2.2.2.2.2.2.2.2.2.1 o.2.2.2.2.2.2.2.2.2.2.2.2.2.2.2.2.1 o.2.2.2.2.2.2.2.2.2.2.2.2.2.2.2.2.2.1 o.2.2.2.2.2.2.2.2.2.2.2.2.2.2.2.2.2.2.1 o.2.2.2.2.2.2.2.2.2.2.2.2.2.2.2.2.2.2.2) : wp_X9_day Q vZ qI qJ rY qM bZ bD wD gF pE qA nJ nY dQ jC eO eW dO fJ fY jD nG pG qO qQ oF oE uF sG qF jJ := by
  rw [F_X9_day] at hq
  refine du_X8_open h ?_
  intro h
  refine And.intro (fun c1 => ?_) (fun c1 => ?_)
  · have h := And.left h c1
    rw [if_neg c1] at hq
    refine du_X9_readActs h ?_
    intro h
    rw [j_X9_day_27] at hq
    unfold ws_X9_day_27 at h ⊢
    refine And.intro (fun c2 => ?_) (fun c2 => ?_)
    · have h := And.left h c2
      rw [if_pos c2] at hq
      rw [j_X9_day_47] at hq
      unfold ws_X9_day_47 at h ⊢
      rw [j_X9_day_48] at hq
      unfold ws_X9_day_48 at h ⊢
      refine And.intro (fun c3 => ?_) (fun c3 => ?_)
      · have h := And.left h c3
        rw [if_pos c3] at hq
        refine du_X8_wrong h ?_
        intro h
        rw [j_X9_day_68] at hq
        unfold ws_X9_day_68 at h ⊢
        refine du_X8_clear h ?_
        intro h
        have q9 := hq _ rfl
        dsimp only at q9
        exact q9 h
      · have h := And.right h c3
        rw [if_neg c3] at hq
        refine du_X9_doActs h ?_
        intro h
        rw [j_X9_day_68] at hq
        unfold ws_X9_day_68 at h ⊢
        refine du_X8_clear h ?_
        intro h
        have q9 := hq _ rfl
        dsimp only at q9
        exact q9 h
    · have h := And.right h c2
      rw [if_neg c2] at hq
      refine du_X8_isThrough h ?_
      intro h
      refine And.intro (fun c4 => ?_) (fun c4 => ?_)
      · have h := And.left h c4
        rw [if_pos c4] at hq
        rw [j_X9_day_47] at hq
        unfold ws_X9_day_47 at h ⊢
        rw [j_X9_day_48] at hq
        unfold ws_X9_day_48 at h ⊢
        refine And.intro (fun c5 => ?_) (fun c5 => ?_)
        · have h := And.left h c5
          rw [if_pos c5] at hq
          refine du_X8_wrong h ?_
          intro h
          rw [j_X9_day_68] at hq
          unfold ws_X9_day_68 at h ⊢
          refine du_X8_clear h ?_
          intro h
          have q9 := hq _ rfl
          dsimp only at q9
          exact q9 h
        · have h := And.right h c5
          rw [if_neg c5] at hq
          refine du_X9_doActs h ?_
          intro h
          rw [j_X9_day_68] at hq
          unfold ws_X9_day_68 at h ⊢
          refine du_X8_clear h ?_
          intro h
          have q9 := hq _ rfl
          dsimp only at q9
          exact q9 h
      · have h := And.right h c4
        rw [if_neg c4] at hq
        rw [j_X9_day_48] at hq
        unfold ws_X9_day_48 at h ⊢
        refine And.intro (fun c6 => ?_) (fun c6 => ?_)
        · have h := And.left h c6
          rw [if_pos c6] at hq
          refine du_X8_wrong h ?_
          intro h
          rw [j_X9_day_68] at hq
          unfold ws_X9_day_68 at h ⊢
          refine du_X8_clear h ?_
          intro h
          have q9 := hq _ rfl
          dsimp only at q9
          exact q9 h
        · have h := And.right h c6
          rw [if_neg c6] at hq
          refine du_X9_doActs h ?_
          intro h
          rw [j_X9_day_68] at hq
          unfold ws_X9_day_68 at h ⊢
          refine du_X8_clear h ?_
          intro h
          have q9 := hq _ rfl
          dsimp only at q9
          exact q9 h
  · have h := And.right h c1
    rw [if_pos c1] at hq
    rw [j_X9_day_27] at hq
    unfold ws_X9_day_27 at h ⊢
    refine And.intro (fun c7 => ?_) (fun c7 => ?_)
    · have h := And.left h c7
      rw [if_pos c7] at hq
      rw [j_X9_day_47] at hq
      unfold ws_X9_day_47 at h ⊢
      rw [j_X9_day_48] at hq
      unfold ws_X9_day_48 at h ⊢
      refine And.intro (fun c8 => ?_) (fun c8 => ?_)
      · have h := And.left h c8
        rw [if_pos c8] at hq
        refine du_X8_wrong h ?_
        intro h
        rw [j_X9_day_68] at hq
        unfold ws_X9_day_68 at h ⊢
        refine du_X8_clear h ?_
        intro h
        have q9 := hq _ rfl
        dsimp only at q9
        exact q9 h
      · have h := And.right h c8
        rw [if_neg c8] at hq
        refine du_X9_doActs h ?_
        intro h
        rw [j_X9_day_68] at hq
        unfold ws_X9_day_68 at h ⊢
        refine du_X8_clear h ?_
        intro h
        have q9 := hq _ rfl
        dsimp only at q9
        exact q9 h
    · have h := And.right h c7
      rw [if_neg c7] at hq
      refine du_X8_isThrough h ?_
      intro h
      refine And.intro (fun c9 => ?_) (fun c9 => ?_)
      · have h := And.left h c9
        rw [if_pos c9] at hq
        rw [j_X9_day_47] at hq
        unfold ws_X9_day_47 at h ⊢
        rw [j_X9_day_48] at hq
        unfold ws_X9_day_48 at h ⊢
        refine And.intro (fun c10 => ?_) (fun c10 => ?_)
        · have h := And.left h c10
          rw [if_pos c10] at hq
          refine du_X8_wrong h ?_
          intro h
          rw [j_X9_day_68] at hq
          unfold ws_X9_day_68 at h ⊢
          refine du_X8_clear h ?_
          intro h
          have q9 := hq _ rfl
          dsimp only at q9
          exact q9 h
        · have h := And.right h c10
          rw [if_neg c10] at hq
          refine du_X9_doActs h ?_
          intro h
          rw [j_X9_day_68] at hq
          unfold ws_X9_day_68 at h ⊢
          refine du_X8_clear h ?_
          intro h
          have q9 := hq _ rfl
          dsimp only at q9
          exact q9 h
      · have h := And.right h c9
        rw [if_neg c9] at hq
        rw [j_X9_day_48] at hq
        unfold ws_X9_day_48 at h ⊢
        refine And.intro (fun c11 => ?_) (fun c11 => ?_)
        · have h := And.left h c11
          rw [if_pos c11] at hq
          refine du_X8_wrong h ?_
          intro h
          rw [j_X9_day_68] at hq
          unfold ws_X9_day_68 at h ⊢
          refine du_X8_clear h ?_
          intro h
          have q9 := hq _ rfl
          dsimp only at q9
          exact q9 h
        · have h := And.right h c11
          rw [if_neg c11] at hq
          refine du_X9_doActs h ?_
          intro h
          rw [j_X9_day_68] at hq
          unfold ws_X9_day_68 at h ⊢
          refine du_X8_clear h ?_
          intro h
          have q9 := hq _ rfl
          dsimp only at q9
          exact q9 h
theorem du_X9_day {P Q : Int32 → (Nat → Int32) → Int32 → Int32 → Int32 → Int32 → Int32 → Int32 → Int32 → Int32 → Int32 → Int32 → Int32 → (Nat → Int32) → (Nat → Int32) → Int32 → Int32 → (Nat → Int32) → Int32 → (Nat → Int32) → Prop} {vZ : Nat → Int32} {qI qJ rY : Int32} {qM : Nat → Int32} {bZ bD : Int32} {wD gF pE qA nJ nY dQ : Nat → Int32} {jC eO eW dO fJ fY jD nG pG : Int32} {qO qQ oF : Nat → Int32} {oE uF : Int32} {sG : Nat → Int32} {qF : Int32} {jJ : Nat → Int32} (h : wp_X9_day P vZ qI qJ rY qM bZ bD wD gF pE qA nJ nY dQ jC eO eW dO fJ fY jD nG pG qO qQ oF oE uF sG qF jJ) (hq : P (F_X9_day vZ qI qJ rY qM bZ bD wD gF pE qA nJ nY dQ jC eO eW dO fJ fY jD nG pG qO qQ oF oE uF sG qF jJ).1 (F_X9_day vZ qI qJ rY qM bZ bD wD gF pE qA nJ nY dQ jC eO eW dO fJ fY jD nG pG qO qQ oF oE uF sG qF jJ).2.1 (F_X9_day vZ qI qJ rY qM bZ bD wD gF pE qA nJ nY dQ jC eO eW dO fJ fY jD nG pG qO qQ oF oE uF sG qF jJ).2.2.1 (F_X9_day vZ qI qJ rY qM bZ bD wD gF pE qA nJ nY dQ jC eO eW dO fJ fY jD nG pG qO qQ oF oE uF sG qF jJ).2.2.2.1 (F_X9_day vZ qI qJ rY qM bZ bD wD gF pE qA nJ nY dQ jC eO eW dO fJ fY jD nG pG qO qQ oF oE uF sG qF jJ).2.2.2.2.1 (F_X9_day vZ qI qJ rY qM bZ bD wD gF pE qA nJ nY dQ jC eO eW dO fJ fY jD nG pG qO qQ oF oE uF sG qF jJ).2.2.2.2.2.1 (F_X9_day vZ qI qJ rY qM bZ bD wD gF pE qA nJ nY dQ jC eO eW dO fJ fY jD nG pG qO qQ oF oE uF sG qF jJ).2.2.2.2.2.2.1 (F_X9_day vZ qI qJ rY qM bZ bD wD gF pE qA nJ nY dQ jC eO eW dO fJ fY jD nG pG qO qQ oF oE uF sG qF jJ).2.2.2.2.2.2.2.1 (F_X9_day vZ qI qJ rY qM bZ bD wD gF pE qA nJ nY dQ jC eO eW dO fJ fY jD nG pG qO qQ oF oE uF sG qF jJ).2.2.2.2.2.2.2.2.1 (F_X9_day vZ qI qJ rY qM bZ bD wD gF pE qA nJ nY dQ jC eO eW dO fJ fY jD nG pG qO qQ oF oE uF sG qF jJ).2.2.2.2.2.2.2.2.2.1 (F_X9_day vZ qI qJ rY qM bZ bD wD gF pE qA nJ nY dQ jC eO eW dO fJ fY jD nG pG qO qQ oF oE uF sG qF jJ).2.2.2.2.2.2.2.2.2.2.1 (F_X9_day vZ qI qJ rY qM bZ bD wD gF pE qA nJ nY dQ jC eO eW dO fJ fY jD nG pG qO qQ oF oE uF sG qF jJ).2.2.2.2.2.2.2.2.2.2.2.1 (F_X9_day vZ qI qJ rY qM bZ bD wD gF pE qA nJ nY dQ jC eO eW dO fJ fY jD nG pG qO qQ oF oE uF sG qF jJ).2.2.2.2.2.2.2.2.2.2.2.2.1 (F_X9_day vZ qI qJ rY qM bZ bD wD gF pE qA nJ nY dQ jC eO eW dO fJ fY jD nG pG qO qQ oF oE uF sG qF jJ).2.2.2.2.2.2.2.2.2.2.2.2.2.1 (F_X9_day vZ qI qJ rY qM bZ bD wD gF pE qA nJ nY dQ jC eO eW dO fJ fY jD nG pG qO qQ oF oE uF sG qF jJ).2.2.2.2.2.2.2.2.2.2.2.2.2.2.1 (F_X9_day vZ qI qJ rY qM bZ bD wD gF pE qA nJ nY dQ jC eO eW dO fJ fY jD nG pG qO qQ oF oE uF sG qF jJ).2.2.2.2.2.2.2.2.2.2.2.2.2.2.2.1 (F_X9_day vZ qI qJ rY qM bZ bD wD gF pE qA nJ nY dQ jC eO eW dO fJ fY jD nG pG qO qQ oF oE uF sG qF jJ).2.2.2.2.2.2.2.2.2.2.2.2.2.2.2.2.1 (F_X9_day vZ qI qJ rY qM bZ bD wD gF pE qA nJ nY dQ jC eO eW dO fJ fY jD nG pG qO qQ oF oE uF sG qF jJ).2.2.2.2.2.2.2.2.2.2.2.2.2.2.2.2.2.1 (F_X9_day vZ qI qJ rY qM bZ bD wD gF pE qA nJ nY dQ jC eO eW dO fJ fY jD nG pG qO qQ oF oE uF sG qF jJ).2.2.2.2.2.2.2.2.2.2.2.2.2.2.2.2.2.2.1 (F_X9_day vZ qI qJ rY qM bZ bD wD gF pE qA nJ nY dQ jC eO eW dO fJ fY jD nG pG qO qQ oF oE uF sG qF jJ).2.2.2.2.2.2.2.2.2.2.2.2.2.2.2.2.2.2.2 → Q (F_X9_day vZ qI qJ rY qM bZ bD wD gF pE qA nJ nY dQ jC eO eW dO fJ fY jD nG pG qO qQ oF oE uF sG qF jJ).1 (F_X9_day vZ qI qJ rY qM bZ bD wD gF pE qA nJ nY dQ jC eO eW dO fJ fY jD nG pG qO qQ oF oE uF sG qF jJ).2.1 (F_X9_day vZ qI qJ rY qM bZ bD wD gF pE qA nJ nY dQ jC eO eW dO fJ fY jD nG pG qO qQ oF oE uF sG qF jJ).2.2.1 (F_X9_day vZ qI qJ rY qM bZ bD wD gF pE qA nJ nY dQ jC eO eW dO fJ fY jD nG pG qO qQ oF oE uF sG qF jJ).2.2.2.1 (F_X9_day vZ qI qJ rY qM bZ bD wD gF pE qA nJ nY dQ jC eO eW dO fJ fY jD nG pG qO qQ oF oE uF sG qF jJ).2.2.2.2.1 (F_X9_day vZ qI qJ rY qM bZ bD wD gF pE qA nJ nY dQ jC eO eW dO fJ fY jD nG pG qO qQ oF oE uF sG qF jJ).2.2.2.2.2.1 (F_X9_day vZ qI qJ rY qM bZ bD wD gF pE qA nJ nY dQ jC eO eW dO fJ fY jD nG pG qO qQ oF oE uF sG qF jJ).2.2.2.2.2.2.1 (F_X9_day vZ qI qJ rY qM bZ bD wD gF pE qA nJ nY dQ jC eO eW dO fJ fY jD nG pG qO qQ oF oE uF sG qF jJ).2.2.2.2.2.2.2.1 (F_X9_day vZ qI qJ rY qM bZ bD wD gF pE qA nJ nY dQ jC eO eW dO fJ fY jD nG pG qO qQ oF oE uF sG qF jJ).2.2.2.2.2.2.2.2.1 (F_X9_day vZ qI qJ rY qM bZ bD wD gF pE qA nJ nY dQ jC eO eW dO fJ fY jD nG pG qO qQ oF oE uF sG qF jJ).2.2.2.2.2.2.2.2.2.1 (F_X9_day vZ qI qJ rY qM bZ bD wD gF pE qA nJ nY dQ jC eO eW dO fJ fY jD nG pG qO qQ oF oE uF sG qF jJ).2.2.2.2.2.2.2.2.2.2.1 (F_X9_day vZ qI qJ rY qM bZ bD wD gF pE qA nJ nY dQ jC eO eW dO fJ fY jD nG pG qO qQ oF oE uF sG qF jJ).2.2.2.2.2.2.2.2.2.2.2.1 (F_X9_day vZ qI qJ rY qM bZ bD wD gF pE qA nJ nY dQ jC eO eW dO fJ fY jD nG pG qO qQ oF oE uF sG qF jJ).2.2.2.2.2.2.2.2.2.2.2.2.1 (F_X9_day vZ qI qJ rY qM bZ bD wD gF pE qA nJ nY dQ jC eO eW dO fJ fY jD nG pG qO qQ oF oE uF sG qF jJ).2.2.2.2.2.2.2.2.2.2.2.2.2.1 (F_X9_day vZ qI qJ rY qM bZ bD wD gF pE qA nJ nY dQ jC eO eW dO fJ fY jD nG pG qO qQ oF oE uF sG qF jJ).2.2.2.2.2.2.2.2.2.2.2.2.2.2.1 (F_X9_day vZ qI qJ rY qM bZ bD wD gF pE qA nJ nY dQ jC eO eW dO fJ fY jD nG pG qO qQ oF oE uF sG qF jJ).2.2.2.2.2.2.2.2.2.2.2.2.2.2.2.1 (F_X9_day vZ qI qJ rY qM bZ bD wD gF pE qA nJ nY dQ jC eO eW dO fJ fY jD nG pG qO qQ oF oE uF sG qF jJ).2.2.2.2.2.2.2.2.2.2.2.2.2.2.2.2.1 (F_X9_day vZ qI qJ rY qM bZ bD wD gF pE qA nJ nY dQ jC eO eW dO fJ fY jD nG pG qO qQ oF oE uF sG qF jJ).2.2.2.2.2.2.2.2.2.2.2.2.2.2.2.2.2.1 (F_X9_day vZ qI qJ rY qM bZ bD wD gF pE qA nJ nY dQ jC eO eW dO fJ fY jD nG pG qO qQ oF oE uF sG qF jJ).2.2.2.2.2.2.2.2.2.2.2.2.2.2.2.2.2.2.1 (F_X9_day vZ qI qJ rY qM bZ bD wD gF pE qA nJ nY dQ jC eO eW dO fJ fY jD nG pG qO qQ oF oE uF sG qF jJ).2.2.2.2.2.2.2.2.2.2.2.2.2.2.2.2.2.2.2) : wp_X9_day Q vZ qI qJ rY qM bZ bD wD gF pE qA nJ nY dQ jC eO eW dO fJ fY jD nG pG qO qQ oF oE uF sG qF jJ := dt_X9_day h (fun o eo => by rw [eo]; exact hq)
theorem dw_X9_day {Q : Int32 → (Nat → Int32) → Int32 → Int32 → Int32 → Int32 → Int32 → Int32 → Int32 → Int32 → Int32 → Int32 → Int32 → (Nat → Int32) → (Nat → Int32) → Int32 → Int32 → (Nat → Int32) → Int32 → (Nat → Int32) → Prop} {vZ : Nat → Int32} {qI qJ rY : Int32} {qM : Nat → Int32} {bZ bD : Int32} {wD gF pE qA nJ nY dQ : Nat → Int32} {jC eO eW dO fJ fY jD nG pG : Int32} {qO qQ oF : Nat → Int32} {oE uF : Int32} {sG : Nat → Int32} {qF : Int32} {jJ : Nat → Int32} (h : wp_X9_day (fun o0 o1 o2 o3 o4 o5 o6 o7 o8 o9 o10 o11 o12 o13 o14 o15 o16 o17 o18 o19 => (o0, o1, o2, o3, o4, o5, o6, o7, o8, o9, o10, o11, o12, o13, o14, o15, o16, o17, o18, o19) = F_X9_day vZ qI qJ rY qM bZ bD wD gF pE qA nJ nY dQ jC eO eW dO fJ fY jD nG pG qO qQ oF oE uF sG qF jJ → Q o0 o1 o2 o3 o4 o5 o6 o7 o8 o9 o10 o11 o12 o13 o14 o15 o16 o17 o18 o19) vZ qI qJ rY qM bZ bD wD gF pE qA nJ nY dQ jC eO eW dO fJ fY jD nG pG qO qQ oF oE uF sG qF jJ) : wp_X9_day Q vZ qI qJ rY qM bZ bD wD gF pE qA nJ nY dQ jC eO eW dO fJ fY jD nG pG qO qQ oF oE uF sG qF jJ := dt_X9_day h (fun o eo hp => hp eo)
noncomputable def F_X2_read (p1 jC eO eW dO fJ fY jD nG : Int32) (sG : Nat → Int32) : Int32 × Int32 × Int32 × Int32 × Int32 × Int32 × Int32 × Int32 := if p1 < 0 then (jC, eO, eW, dO, fJ, fY, jD, nG) else (if p1 ≤ (104 - 8) then ((sG p1.toNatClampNeg), (sG (p1 + 1).toNatClampNeg), (sG (p1 + 2).toNatClampNeg), (sG (p1 + 3).toNatClampNeg), (sG (p1 + 4).toNatClampNeg), (sG (p1 + 5).toNatClampNeg), (sG (p1 + 6).toNatClampNeg), (sG (p1 + 7).toNatClampNeg)) else (jC, eO, eW, dO, fJ, fY, jD, nG))
set_option maxHeartbeats 200000 in
set_option maxRecDepth 10000 in
theorem dt_X2_read {P Q : Int32 → Int32 → Int32 → Int32 → Int32 → Int32 → Int32 → Int32 → Prop} {p1 jC eO eW dO fJ fY jD nG : Int32} {sG : Nat → Int32} (h : wp_X2_read P p1 jC eO eW dO fJ fY jD nG sG) (hq : ∀ o : Int32 × Int32 × Int32 × Int32 × Int32 × Int32 × Int32 × Int32, o = F_X2_read p1 jC eO eW dO fJ fY jD nG sG → P o.1 o.2.1 o.2.2.1 o.2.2.2.1 o.2.2.2.2.1 o.2.2.2.2.2.1 o.2.2.2.2.2.2.1 o.2.2.2.2.2.2.2 → Q o.1 o.2.1 o.2.2.1 o.2.2.2.1 o.2.2.2.2.1 o.2.2.2.2.2.1 o.2.2.2.2.2.2.1 o.2.2.2.2.2.2.2) : wp_X2_read Q p1 jC eO eW dO fJ fY jD nG sG := by
  rw [F_X2_read] at hq
  refine And.intro (fun c1 => ?_) (fun c1 => ?_)
  · have h := And.left h c1
    rw [if_pos c1] at hq
    have q9 := hq _ rfl
    dsimp only at q9
    exact q9 h
  · have h := And.right h c1
    rw [if_neg c1] at hq
    refine And.intro (fun c2 => ?_) (fun c2 => ?_)
    · have h := And.left h c2
      rw [if_pos c2] at hq
      refine And.intro (And.left h) ?_
      have h := And.right h
      refine ae ?_
      have h := h _ rfl
      refine ae ?_
      have h := h _ rfl
      refine And.intro (And.left h) ?_
      have h := And.right h
      refine ae ?_
      have h := h _ rfl
      refine ae ?_
      have h := h _ rfl
      refine And.intro (And.left h) ?_
      have h := And.right h
      refine ae ?_
      have h := h _ rfl
      refine ae ?_
      have h := h _ rfl
      refine And.intro (And.left h) ?_
      have h := And.right h
      refine ae ?_
      have h := h _ rfl
      refine ae ?_
      have h := h _ rfl
      refine And.intro (And.left h) ?_
      have h := And.right h
      refine ae ?_
      have h := h _ rfl
      refine ae ?_
      have h := h _ rfl
      refine And.intro (And.left h) ?_
      have h := And.right h
      refine ae ?_
      have h := h _ rfl
      refine ae ?_
      have h := h _ rfl
      refine And.intro (And.left h) ?_
      have h := And.right h
      refine ae ?_
      have h := h _ rfl
      refine ae ?_
      have h := h _ rfl
      refine And.intro (And.left h) ?_
      have h := And.right h
      refine ae ?_
      have h := h _ rfl
      have q9 := hq _ rfl
      dsimp only at q9
      exact q9 h
    · have h := And.right h c2
      rw [if_neg c2] at hq
      have q9 := hq _ rfl
      dsimp only at q9
      exact q9 h
theorem du_X2_read {P Q : Int32 → Int32 → Int32 → Int32 → Int32 → Int32 → Int32 → Int32 → Prop} {p1 jC eO eW dO fJ fY jD nG : Int32} {sG : Nat → Int32} (h : wp_X2_read P p1 jC eO eW dO fJ fY jD nG sG) (hq : P (F_X2_read p1 jC eO eW dO fJ fY jD nG sG).1 (F_X2_read p1 jC eO eW dO fJ fY jD nG sG).2.1 (F_X2_read p1 jC eO eW dO fJ fY jD nG sG).2.2.1 (F_X2_read p1 jC eO eW dO fJ fY jD nG sG).2.2.2.1 (F_X2_read p1 jC eO eW dO fJ fY jD nG sG).2.2.2.2.1 (F_X2_read p1 jC eO eW dO fJ fY jD nG sG).2.2.2.2.2.1 (F_X2_read p1 jC eO eW dO fJ fY jD nG sG).2.2.2.2.2.2.1 (F_X2_read p1 jC eO eW dO fJ fY jD nG sG).2.2.2.2.2.2.2 → Q (F_X2_read p1 jC eO eW dO fJ fY jD nG sG).1 (F_X2_read p1 jC eO eW dO fJ fY jD nG sG).2.1 (F_X2_read p1 jC eO eW dO fJ fY jD nG sG).2.2.1 (F_X2_read p1 jC eO eW dO fJ fY jD nG sG).2.2.2.1 (F_X2_read p1 jC eO eW dO fJ fY jD nG sG).2.2.2.2.1 (F_X2_read p1 jC eO eW dO fJ fY jD nG sG).2.2.2.2.2.1 (F_X2_read p1 jC eO eW dO fJ fY jD nG sG).2.2.2.2.2.2.1 (F_X2_read p1 jC eO eW dO fJ fY jD nG sG).2.2.2.2.2.2.2) : wp_X2_read Q p1 jC eO eW dO fJ fY jD nG sG := dt_X2_read h (fun o eo => by rw [eo]; exact hq)
noncomputable def F_X4_goBack (jC eO eW dO fJ fY jD nG oE uF : Int32) (sG : Nat → Int32) : Int32 × Int32 × Int32 × Int32 × Int32 × Int32 × Int32 × Int32 × Int32 × Int32 := ((F_X2_read ((((uF + 13) - 1) - ((uF + 13) - 1) / 13 * 13) * 8) jC eO eW dO fJ fY jD nG sG).1, (F_X2_read ((((uF + 13) - 1) - ((uF + 13) - 1) / 13 * 13) * 8) jC eO eW dO fJ fY jD nG sG).2.1, (F_X2_read ((((uF + 13) - 1) - ((uF + 13) - 1) / 13 * 13) * 8) jC eO eW dO fJ fY jD nG sG).2.2.1, (F_X2_read ((((uF + 13) - 1) - ((uF + 13) - 1) / 13 * 13) * 8) jC eO eW dO fJ fY jD nG sG).2.2.2.1, (F_X2_read ((((uF + 13) - 1) - ((uF + 13) - 1) / 13 * 13) * 8) jC eO eW dO fJ fY jD nG sG).2.2.2.2.1, (F_X2_read ((((uF + 13) - 1) - ((uF + 13) - 1) / 13 * 13) * 8) jC eO eW dO fJ fY jD nG sG).2.2.2.2.2.1, (F_X2_read ((((uF + 13) - 1) - ((uF + 13) - 1) / 13 * 13) * 8) jC eO eW dO fJ fY jD nG sG).2.2.2.2.2.2.1, (F_X2_read ((((uF + 13) - 1) - ((uF + 13) - 1) / 13 * 13) * 8) jC eO eW dO fJ fY jD nG sG).2.2.2.2.2.2.2, (oE - 1), (((uF + 13) - 1) - ((uF + 13) - 1) / 13 * 13))
set_option maxHeartbeats 200000 in
set_option maxRecDepth 10000 in
theorem dt_X4_goBack {P Q : Int32 → Int32 → Int32 → Int32 → Int32 → Int32 → Int32 → Int32 → Int32 → Int32 → Prop} {jC eO eW dO fJ fY jD nG oE uF : Int32} {sG : Nat → Int32} (h : wp_X4_goBack P jC eO eW dO fJ fY jD nG oE uF sG) (hq : ∀ o : Int32 × Int32 × Int32 × Int32 × Int32 × Int32 × Int32 × Int32 × Int32 × Int32, o = F_X4_goBack jC eO eW dO fJ fY jD nG oE uF sG → P o.1 o.2.1 o.2.2.1 o.2.2.2.1 o.2.2.2.2.1 o.2.2.2.2.2.1 o.2.2.2.2.2.2.1 o.2.2.2.2.2.2.2.1 o.2.2.2.2.2.2.2.2.1 o.2.2.2.2.2.2.2.2.2 → Q o.1 o.2.1 o.2.2.1 o.2.2.2.1 o.2.2.2.2.1 o.2.2.2.2.2.1 o.2.2.2.2.2.2.1 o.2.2.2.2.2.2.2.1 o.2.2.2.2.2.2.2.2.1 o.2.2.2.2.2.2.2.2.2) : wp_X4_goBack Q jC eO eW dO fJ fY jD nG oE uF sG := by
  rw [F_X4_goBack] at hq
  refine ae ?_
  have h := h _ rfl
  refine ae ?_
  have h := h _ rfl
  refine ae ?_
  have h := h _ rfl
  refine ae ?_
  have h := h _ rfl
  refine ae ?_
  have h := h _ rfl
  refine du_X2_read h ?_
  intro h
  have q9 := hq _ rfl
  dsimp only at q9
  exact q9 h
theorem du_X4_goBack {P Q : Int32 → Int32 → Int32 → Int32 → Int32 → Int32 → Int32 → Int32 → Int32 → Int32 → Prop} {jC eO eW dO fJ fY jD nG oE uF : Int32} {sG : Nat → Int32} (h : wp_X4_goBack P jC eO eW dO fJ fY jD nG oE uF sG) (hq : P (F_X4_goBack jC eO eW dO fJ fY jD nG oE uF sG).1 (F_X4_goBack jC eO eW dO fJ fY jD nG oE uF sG).2.1 (F_X4_goBack jC eO eW dO fJ fY jD nG oE uF sG).2.2.1 (F_X4_goBack jC eO eW dO fJ fY jD nG oE uF sG).2.2.2.1 (F_X4_goBack jC eO eW dO fJ fY jD nG oE uF sG).2.2.2.2.1 (F_X4_goBack jC eO eW dO fJ fY jD nG oE uF sG).2.2.2.2.2.1 (F_X4_goBack jC eO eW dO fJ fY jD nG oE uF sG).2.2.2.2.2.2.1 (F_X4_goBack jC eO eW dO fJ fY jD nG oE uF sG).2.2.2.2.2.2.2.1 (F_X4_goBack jC eO eW dO fJ fY jD nG oE uF sG).2.2.2.2.2.2.2.2.1 (F_X4_goBack jC eO eW dO fJ fY jD nG oE uF sG).2.2.2.2.2.2.2.2.2 → Q (F_X4_goBack jC eO eW dO fJ fY jD nG oE uF sG).1 (F_X4_goBack jC eO eW dO fJ fY jD nG oE uF sG).2.1 (F_X4_goBack jC eO eW dO fJ fY jD nG oE uF sG).2.2.1 (F_X4_goBack jC eO eW dO fJ fY jD nG oE uF sG).2.2.2.1 (F_X4_goBack jC eO eW dO fJ fY jD nG oE uF sG).2.2.2.2.1 (F_X4_goBack jC eO eW dO fJ fY jD nG oE uF sG).2.2.2.2.2.1 (F_X4_goBack jC eO eW dO fJ fY jD nG oE uF sG).2.2.2.2.2.2.1 (F_X4_goBack jC eO eW dO fJ fY jD nG oE uF sG).2.2.2.2.2.2.2.1 (F_X4_goBack jC eO eW dO fJ fY jD nG oE uF sG).2.2.2.2.2.2.2.2.1 (F_X4_goBack jC eO eW dO fJ fY jD nG oE uF sG).2.2.2.2.2.2.2.2.2) : wp_X4_goBack Q jC eO eW dO fJ fY jD nG oE uF sG := dt_X4_goBack h (fun o eo => by rw [eo]; exact hq)
noncomputable def F_X9_undo (jC eO eW dO fJ fY jD nG oE uF : Int32) (sG : Nat → Int32) : Int32 × Int32 × Int32 × Int32 × Int32 × Int32 × Int32 × Int32 × Int32 × Int32 × Int32 := if oE = 0 then ((-1), jC, eO, eW, dO, fJ, fY, jD, nG, oE, uF) else ((F_X4_goBack jC eO eW dO fJ fY jD nG oE uF sG).2.2.2.2.2.2.2.2.1, (F_X4_goBack jC eO eW dO fJ fY jD nG oE uF sG).1, (F_X4_goBack jC eO eW dO fJ fY jD nG oE uF sG).2.1, (F_X4_goBack jC eO eW dO fJ fY jD nG oE uF sG).2.2.1, (F_X4_goBack jC eO eW dO fJ fY jD nG oE uF sG).2.2.2.1, (F_X4_goBack jC eO eW dO fJ fY jD nG oE uF sG).2.2.2.2.1, (F_X4_goBack jC eO eW dO fJ fY jD nG oE uF sG).2.2.2.2.2.1, (F_X4_goBack jC eO eW dO fJ fY jD nG oE uF sG).2.2.2.2.2.2.1, (F_X4_goBack jC eO eW dO fJ fY jD nG oE uF sG).2.2.2.2.2.2.2.1, (F_X4_goBack jC eO eW dO fJ fY jD nG oE uF sG).2.2.2.2.2.2.2.2.1, (F_X4_goBack jC eO eW dO fJ fY jD nG oE uF sG).2.2.2.2.2.2.2.2.2)
set_option maxHeartbeats 200000 in
set_option maxRecDepth 10000 in
theorem dt_X9_undo {P Q : Int32 → Int32 → Int32 → Int32 → Int32 → Int32 → Int32 → Int32 → Int32 → Int32 → Int32 → Prop} {jC eO eW dO fJ fY jD nG oE uF : Int32} {sG : Nat → Int32} (h : wp_X9_undo P jC eO eW dO fJ fY jD nG oE uF sG) (hq : ∀ o : Int32 × Int32 × Int32 × Int32 × Int32 × Int32 × Int32 × Int32 × Int32 × Int32 × Int32, o = F_X9_undo jC eO eW dO fJ fY jD nG oE uF sG → P o.1 o.2.1 o.2.2.1 o.2.2.2.1 o.2.2.2.2.1 o.2.2.2.2.2.1 o.2.2.2.2.2.2.1 o.2.2.2.2.2.2.2.1 o.2.2.2.2.2.2.2.2.1 o.2.2.2.2.2.2.2.2.2.1 o.2.2.2.2.2.2.2.2.2.2 → Q o.1 o.2.1 o.2.2.1 o.2.2.2.1 o.2.2.2.2.1 o.2.2.2.2.2.1 o.2.2.2.2.2.2.1 o.2.2.2.2.2.2.2.1 o.2.2.2.2.2.2.2.2.1 o.2.2.2.2.2.2.2.2.2.1 o.2.2.2.2.2.2.2.2.2.2) : wp_X9_undo Q jC eO eW dO fJ fY jD nG oE uF sG := by
  rw [F_X9_undo] at hq
  refine And.intro (fun c1 => ?_) (fun c1 => ?_)
  · have h := And.left h c1
    rw [if_neg c1] at hq
    refine du_X4_goBack h ?_
    intro h
    have q9 := hq _ rfl
    dsimp only at q9
    exact q9 h
  · have h := And.right h c1
    rw [if_pos c1] at hq
    have q9 := hq _ rfl
    dsimp only at q9
    exact q9 h
theorem du_X9_undo {P Q : Int32 → Int32 → Int32 → Int32 → Int32 → Int32 → Int32 → Int32 → Int32 → Int32 → Int32 → Prop} {jC eO eW dO fJ fY jD nG oE uF : Int32} {sG : Nat → Int32} (h : wp_X9_undo P jC eO eW dO fJ fY jD nG oE uF sG) (hq : P (F_X9_undo jC eO eW dO fJ fY jD nG oE uF sG).1 (F_X9_undo jC eO eW dO fJ fY jD nG oE uF sG).2.1 (F_X9_undo jC eO eW dO fJ fY jD nG oE uF sG).2.2.1 (F_X9_undo jC eO eW dO fJ fY jD nG oE uF sG).2.2.2.1 (F_X9_undo jC eO eW dO fJ fY jD nG oE uF sG).2.2.2.2.1 (F_X9_undo jC eO eW dO fJ fY jD nG oE uF sG).2.2.2.2.2.1 (F_X9_undo jC eO eW dO fJ fY jD nG oE uF sG).2.2.2.2.2.2.1 (F_X9_undo jC eO eW dO fJ fY jD nG oE uF sG).2.2.2.2.2.2.2.1 (F_X9_undo jC eO eW dO fJ fY jD nG oE uF sG).2.2.2.2.2.2.2.2.1 (F_X9_undo jC eO eW dO fJ fY jD nG oE uF sG).2.2.2.2.2.2.2.2.2.1 (F_X9_undo jC eO eW dO fJ fY jD nG oE uF sG).2.2.2.2.2.2.2.2.2.2 → Q (F_X9_undo jC eO eW dO fJ fY jD nG oE uF sG).1 (F_X9_undo jC eO eW dO fJ fY jD nG oE uF sG).2.1 (F_X9_undo jC eO eW dO fJ fY jD nG oE uF sG).2.2.1 (F_X9_undo jC eO eW dO fJ fY jD nG oE uF sG).2.2.2.1 (F_X9_undo jC eO eW dO fJ fY jD nG oE uF sG).2.2.2.2.1 (F_X9_undo jC eO eW dO fJ fY jD nG oE uF sG).2.2.2.2.2.1 (F_X9_undo jC eO eW dO fJ fY jD nG oE uF sG).2.2.2.2.2.2.1 (F_X9_undo jC eO eW dO fJ fY jD nG oE uF sG).2.2.2.2.2.2.2.1 (F_X9_undo jC eO eW dO fJ fY jD nG oE uF sG).2.2.2.2.2.2.2.2.1 (F_X9_undo jC eO eW dO fJ fY jD nG oE uF sG).2.2.2.2.2.2.2.2.2.1 (F_X9_undo jC eO eW dO fJ fY jD nG oE uF sG).2.2.2.2.2.2.2.2.2.2) : wp_X9_undo Q jC eO eW dO fJ fY jD nG oE uF sG := dt_X9_undo h (fun o eo => by rw [eo]; exact hq)
theorem dw_X9_undo {Q : Int32 → Int32 → Int32 → Int32 → Int32 → Int32 → Int32 → Int32 → Int32 → Int32 → Int32 → Prop} {jC eO eW dO fJ fY jD nG oE uF : Int32} {sG : Nat → Int32} (h : wp_X9_undo (fun o0 o1 o2 o3 o4 o5 o6 o7 o8 o9 o10 => (o0, o1, o2, o3, o4, o5, o6, o7, o8, o9, o10) = F_X9_undo jC eO eW dO fJ fY jD nG oE uF sG → Q o0 o1 o2 o3 o4 o5 o6 o7 o8 o9 o10) jC eO eW dO fJ fY jD nG oE uF sG) : wp_X9_undo Q jC eO eW dO fJ fY jD nG oE uF sG := dt_X9_undo h (fun o eo hp => hp eo)
noncomputable def j_X9_from_77 {R : Type} (k42 : Int32 → Int32 → Int32 → Int32 → R) (bZ bD : Int32) (wD gF nJ nY dQ : Nat → Int32) (fY x1 x3 x4 x5 : Int32) : R := k42 x1 x3 x4 (x5 + 1)
noncomputable def bd_X9_from_42 (bZ bD : Int32) (wD gF nJ nY dQ : Nat → Int32) (fY x1 x3 c s : Int32) : Int32 := if (F_X3_isWithin x1 c x3 wD gF nJ nY) = 0 then (j_X9_from_77 (fun q0 q1 q2 q3 => q2) bZ bD wD gF nJ nY dQ fY x1 x3 s c) else (j_X9_from_77 (fun q0 q1 q2 q3 => q2) bZ bD wD gF nJ nY dQ fY x1 x3 (s ||| (1 <<< (c &&& 31))) c)
noncomputable def ex_X9_from_42 {R : Type} (po : Int32 → R) (bZ bD : Int32) (wD gF nJ nY dQ : Nat → Int32) (fY x1 x3 c s : Int32) : R := po s
set_option maxHeartbeats 200000 in
set_option maxRecDepth 10000 in
theorem dl_X9_from_42 {P Q : Int32 → Prop} {bZ bD : Int32} {wD gF nJ nY dQ : Nat → Int32} {fY x1 x3 a : Int32} {i : Nat} (hi0 : i < 2147483648) (hE : ∀ (c : Int32) (s : Int32), c = nI (i + (Int32.toInt bD - ((i : Nat) : Int)).toNat) → s = itr (bd_X9_from_42 bZ bD wD gF nJ nY dQ fY x1 x3) a i (Int32.toInt bD - ((i : Nat) : Int)).toNat → (P s) → (Q s)) : ∀ (n k : Nat) (c : Int32), c = nI (i + k) → k ≤ (Int32.toInt bD - ((i : Nat) : Int)).toNat → wb_X9_from_42 P bZ bD wD gF nJ nY dQ fY n x1 x3 (itr (bd_X9_from_42 bZ bD wD gF nJ nY dQ fY x1 x3) a i k) c → wb_X9_from_42 Q bZ bD wD gF nJ nY dQ fY n x1 x3 (itr (bd_X9_from_42 bZ bD wD gF nJ nY dQ fY x1 x3) a i k) c := by
  intro n
  induction n with
  | zero => intro k c hc hk h; exact False.elim h
  | succ n ih =>
    intro k c hc hk h
    have hr := tp_r bD
    have hi : Int32.toInt c = ((i + k : Nat) : Int) := by rw [hc]; exact nI_toInt (by omega)
    refine And.intro (fun t0 => ?_) (fun t0 => ?_)
    · have h := And.left h t0
      have t1 := (fa_le _ _).mp t0
      have hk2 : k = (Int32.toInt bD - ((i : Nat) : Int)).toNat := by omega
      subst hk2
      exact hE _ _ hc rfl h
    · have h := And.right h t0
      have t1 := mt (fa_le _ _).mpr t0
      have hs : ∀ o : Int32, o = itr (bd_X9_from_42 bZ bD wD gF nJ nY dQ fY x1 x3) a i (k + 1) → wb_X9_from_42 P bZ bD wD gF nJ nY dQ fY n x1 x3 o (c + 1) → wb_X9_from_42 Q bZ bD wD gF nJ nY dQ fY n x1 x3 o (c + 1) := by
        intro o eo h9
        have q := ih (k + 1) (c + 1) (by rw [hc]; exact nI_1 _) (by omega)
        rw [← eo] at q
        exact q h9
      rw [itr_s, ← hc, bd_X9_from_42] at hs
      refine du_X3_isWithin h ?_
      intro h
      refine And.intro (fun c1 => ?_) (fun c1 => ?_)
      · have h := And.left h c1
        rw [if_pos c1] at hs
        rw [j_X9_from_77] at hs
        unfold ws_X9_from_77 at h ⊢
        refine ae ?_
        have h := h _ rfl
        have q9 := hs _ rfl
        exact q9 h
      · have h := And.right h c1
        rw [if_neg c1] at hs
        refine ae ?_
        have h := h _ rfl
        rw [j_X9_from_77] at hs
        unfold ws_X9_from_77 at h ⊢
        refine ae ?_
        have h := h _ rfl
        have q9 := hs _ rfl
        exact q9 h
noncomputable def F_X9_from (p0 p1 bZ bD : Int32) (wD gF nJ nY dQ : Nat → Int32) (fY : Int32) : Int32 := if (F_X3_hasFruit p0 bZ) = 0 then (-1) else (if (F_X9_isYesOrNo p1) = 0 then (-1) else (ex_X9_from_42 (fun o0 => o0) bZ bD wD gF nJ nY dQ fY p0 (F_X3_reach fY p1 dQ) (nI (0 + (Int32.toInt bD - ((0 : Nat) : Int)).toNat)) (itr (bd_X9_from_42 bZ bD wD gF nJ nY dQ fY p0 (F_X3_reach fY p1 dQ)) 0 0 (Int32.toInt bD - ((0 : Nat) : Int)).toNat)))
set_option maxHeartbeats 200000 in
set_option maxRecDepth 10000 in
theorem dt_X9_from {P Q : Int32 → Prop} {p0 p1 bZ bD : Int32} {wD gF nJ nY dQ : Nat → Int32} {fY : Int32} (h : wp_X9_from P p0 p1 bZ bD wD gF nJ nY dQ fY) (hq : ∀ o : Int32, o = F_X9_from p0 p1 bZ bD wD gF nJ nY dQ fY → P o → Q o) : wp_X9_from Q p0 p1 bZ bD wD gF nJ nY dQ fY := by
  rw [F_X9_from] at hq
  refine du_X3_hasFruit h ?_
  intro h
  refine And.intro (fun c1 => ?_) (fun c1 => ?_)
  · have h := And.left h c1
    rw [if_pos c1] at hq
    have q9 := hq _ rfl
    exact q9 h
  · have h := And.right h c1
    rw [if_neg c1] at hq
    refine du_X9_isYesOrNo h ?_
    intro h
    refine And.intro (fun c2 => ?_) (fun c2 => ?_)
    · have h := And.left h c2
      rw [if_neg c2] at hq
      refine du_X3_reach h ?_
      intro h
      obtain ⟨n3, h⟩ := h
      refine ⟨n3, dl_X9_from_42 (a := 0) (i := 0) (by decide) ?_ n3 0 0 (by decide) (Nat.zero_le _) h⟩
      intro cc4 s5 ec6 es7 h
      rw [← ec6, ← es7, ex_X9_from_42] at hq
      have q9 := hq _ rfl
      exact q9 h
    · have h := And.right h c2
      rw [if_pos c2] at hq
      have q9 := hq _ rfl
      exact q9 h
theorem du_X9_from {P Q : Int32 → Prop} {p0 p1 bZ bD : Int32} {wD gF nJ nY dQ : Nat → Int32} {fY : Int32} (h : wp_X9_from P p0 p1 bZ bD wD gF nJ nY dQ fY) (hq : P (F_X9_from p0 p1 bZ bD wD gF nJ nY dQ fY) → Q (F_X9_from p0 p1 bZ bD wD gF nJ nY dQ fY)) : wp_X9_from Q p0 p1 bZ bD wD gF nJ nY dQ fY := dt_X9_from h (fun o eo => by rw [eo]; exact hq)
theorem dw_X9_from {Q : Int32 → Prop} {p0 p1 bZ bD : Int32} {wD gF nJ nY dQ : Nat → Int32} {fY : Int32} (h : wp_X9_from (fun o0 => o0 = F_X9_from p0 p1 bZ bD wD gF nJ nY dQ fY → Q o0) p0 p1 bZ bD wD gF nJ nY dQ fY) : wp_X9_from Q p0 p1 bZ bD wD gF nJ nY dQ fY := dt_X9_from h (fun o eo hp => hp eo)
noncomputable def bd_X9_never_10 (bZ bD : Int32) (wD gF pE nJ nY dQ : Nat → Int32) (jC eO eW dO qF : Int32) (jJ : Nat → Int32) (c s : Int32) : Int32 := (s &&& ((F_X3_within c (F_X3_reach 1 1 dQ) bZ wD gF nJ nY) ^^^ (-1)))
noncomputable def ex_X9_never_10 {R : Type} (po : Int32 → Int32 → (Nat → Int32) → R) (bZ bD : Int32) (wD gF pE nJ nY dQ : Nat → Int32) (jC eO eW dO qF : Int32) (jJ : Nat → Int32) (c s : Int32) : R := po s ((F_X9_tell (F_X0_worthOf s bZ pE dO) qF jJ).1) ((F_X9_tell (F_X0_worthOf s bZ pE dO) qF jJ).2)
set_option maxHeartbeats 200000 in
set_option maxRecDepth 10000 in
theorem dl_X9_never_10 {P Q : Int32 → Int32 → (Nat → Int32) → Prop} {bZ bD : Int32} {wD gF pE nJ nY dQ : Nat → Int32} {jC eO eW dO qF : Int32} {jJ : Nat → Int32} {a : Int32} {i : Nat} (hi0 : i < 2147483648) (hE : ∀ (c : Int32) (s : Int32), c = nI (i + (Int32.toInt bD - ((i : Nat) : Int)).toNat) → s = itr (bd_X9_never_10 bZ bD wD gF pE nJ nY dQ jC eO eW dO qF jJ) a i (Int32.toInt bD - ((i : Nat) : Int)).toNat → (wp_X0_worthOf (fun r_2 => wp_X9_tell (fun aAq zE => P s aAq zE) r_2 qF jJ) s bZ pE dO) → (wp_X0_worthOf (fun r_2 => wp_X9_tell (fun aAq zE => Q s aAq zE) r_2 qF jJ) s bZ pE dO)) : ∀ (n k : Nat) (c : Int32), c = nI (i + k) → k ≤ (Int32.toInt bD - ((i : Nat) : Int)).toNat → wb_X9_never_10 P bZ bD wD gF pE nJ nY dQ jC eO eW dO n (itr (bd_X9_never_10 bZ bD wD gF pE nJ nY dQ jC eO eW dO qF jJ) a i k) c qF jJ → wb_X9_never_10 Q bZ bD wD gF pE nJ nY dQ jC eO eW dO n (itr (bd_X9_never_10 bZ bD wD gF pE nJ nY dQ jC eO eW dO qF jJ) a i k) c qF jJ := by
  intro n
  induction n with
  | zero => intro k c hc hk h; exact False.elim h
  | succ n ih =>
    intro k c hc hk h
    have hr := tp_r bD
    have hi : Int32.toInt c = ((i + k : Nat) : Int) := by rw [hc]; exact nI_toInt (by omega)
    refine And.intro (fun t0 => ?_) (fun t0 => ?_)
    · have h := And.left h t0
      have t1 := (fa_le _ _).mp t0
      have hk2 : k = (Int32.toInt bD - ((i : Nat) : Int)).toNat := by omega
      subst hk2
      exact hE _ _ hc rfl h
    · have h := And.right h t0
      have t1 := mt (fa_le _ _).mpr t0
      have hs : ∀ o : Int32, o = itr (bd_X9_never_10 bZ bD wD gF pE nJ nY dQ jC eO eW dO qF jJ) a i (k + 1) → wb_X9_never_10 P bZ bD wD gF pE nJ nY dQ jC eO eW dO n o (c + 1) qF jJ → wb_X9_never_10 Q bZ bD wD gF pE nJ nY dQ jC eO eW dO n o (c + 1) qF jJ := by
        intro o eo h9
        have q := ih (k + 1) (c + 1) (by rw [hc]; exact nI_1 _) (by omega)
        rw [← eo] at q
        exact q h9
      rw [itr_s, ← hc, bd_X9_never_10] at hs
      refine du_X3_reach h ?_
      intro h
      refine du_X3_within h ?_
      intro h
      refine ae ?_
      have h := h _ rfl
      refine ae ?_
      have h := h _ rfl
      have q9 := hs _ rfl
      exact q9 h
noncomputable def F_X9_never (bZ bD : Int32) (wD gF pE nJ nY dQ : Nat → Int32) (jC eO eW dO qF : Int32) (jJ : Nat → Int32) : Int32 × Int32 × (Nat → Int32) := ex_X9_never_10 (fun o0 o1 o2 => (o0, o1, o2)) bZ bD wD gF pE nJ nY dQ jC eO eW dO qF jJ (nI (0 + (Int32.toInt bD - ((0 : Nat) : Int)).toNat)) (itr (bd_X9_never_10 bZ bD wD gF pE nJ nY dQ jC eO eW dO qF jJ) (F_X0_hanging bZ jC eO eW) 0 (Int32.toInt bD - ((0 : Nat) : Int)).toNat)
set_option maxHeartbeats 200000 in
set_option maxRecDepth 10000 in
theorem dt_X9_never {P Q : Int32 → Int32 → (Nat → Int32) → Prop} {bZ bD : Int32} {wD gF pE nJ nY dQ : Nat → Int32} {jC eO eW dO qF : Int32} {jJ : Nat → Int32} (h : wp_X9_never P bZ bD wD gF pE nJ nY dQ jC eO eW dO qF jJ) (hq : ∀ o : Int32 × Int32 × (Nat → Int32), o = F_X9_never bZ bD wD gF pE nJ nY dQ jC eO eW dO qF jJ → P o.1 o.2.1 o.2.2 → Q o.1 o.2.1 o.2.2) : wp_X9_never Q bZ bD wD gF pE nJ nY dQ jC eO eW dO qF jJ := by
  rw [F_X9_never] at hq
  refine du_X0_hanging h ?_
  intro h
  obtain ⟨n1, h⟩ := h
  refine ⟨n1, dl_X9_never_10 (a := (F_X0_hanging bZ jC eO eW)) (i := 0) (by decide) ?_ n1 0 0 (by decide) (Nat.zero_le _) h⟩
  intro cc2 s3 ec4 es5 h
  rw [← ec4, ← es5, ex_X9_never_10] at hq
  refine du_X0_worthOf h ?_
  intro h
  refine du_X9_tell h ?_
  intro h
  have q9 := hq _ rfl
  dsimp only at q9
  exact q9 h
theorem du_X9_never {P Q : Int32 → Int32 → (Nat → Int32) → Prop} {bZ bD : Int32} {wD gF pE nJ nY dQ : Nat → Int32} {jC eO eW dO qF : Int32} {jJ : Nat → Int32} (h : wp_X9_never P bZ bD wD gF pE nJ nY dQ jC eO eW dO qF jJ) (hq : P (F_X9_never bZ bD wD gF pE nJ nY dQ jC eO eW dO qF jJ).1 (F_X9_never bZ bD wD gF pE nJ nY dQ jC eO eW dO qF jJ).2.1 (F_X9_never bZ bD wD gF pE nJ nY dQ jC eO eW dO qF jJ).2.2 → Q (F_X9_never bZ bD wD gF pE nJ nY dQ jC eO eW dO qF jJ).1 (F_X9_never bZ bD wD gF pE nJ nY dQ jC eO eW dO qF jJ).2.1 (F_X9_never bZ bD wD gF pE nJ nY dQ jC eO eW dO qF jJ).2.2) : wp_X9_never Q bZ bD wD gF pE nJ nY dQ jC eO eW dO qF jJ := dt_X9_never h (fun o eo => by rw [eo]; exact hq)
theorem dw_X9_never {Q : Int32 → Int32 → (Nat → Int32) → Prop} {bZ bD : Int32} {wD gF pE nJ nY dQ : Nat → Int32} {jC eO eW dO qF : Int32} {jJ : Nat → Int32} (h : wp_X9_never (fun o0 o1 o2 => (o0, o1, o2) = F_X9_never bZ bD wD gF pE nJ nY dQ jC eO eW dO qF jJ → Q o0 o1 o2) bZ bD wD gF pE nJ nY dQ jC eO eW dO qF jJ) : wp_X9_never Q bZ bD wD gF pE nJ nY dQ jC eO eW dO qF jJ := dt_X9_never h (fun o eo hp => hp eo)
noncomputable def F_X3_allStandings (bD : Int32) : Int32 := ((1 <<< (bD &&& 31)) - 1)
set_option maxHeartbeats 200000 in
set_option maxRecDepth 10000 in
theorem dt_X3_allStandings {P Q : Int32 → Prop} {bD : Int32} (h : wp_X3_allStandings P bD) (hq : ∀ o : Int32, o = F_X3_allStandings bD → P o → Q o) : wp_X3_allStandings Q bD := by
  rw [F_X3_allStandings] at hq
  refine ae ?_
  have h := h _ rfl
  have q9 := hq _ rfl
  exact q9 h
theorem du_X3_allStandings {P Q : Int32 → Prop} {bD : Int32} (h : wp_X3_allStandings P bD) (hq : P (F_X3_allStandings bD) → Q (F_X3_allStandings bD)) : wp_X3_allStandings Q bD := dt_X3_allStandings h (fun o eo => by rw [eo]; exact hq)
noncomputable def j_X5_reachedBy_32 {R : Type} (k4 : Int32 → Int32 → Int32 → R) (rX : Nat → Int32) (bD x1 x2 x3 : Int32) : R := k4 x1 x2 (x3 + 1)
noncomputable def bd_X5_reachedBy_4 (rX : Nat → Int32) (bD x1 c s : Int32) : Int32 := if ((x1 >>> (c &&& 31)) &&& 1) = 0 then (j_X5_reachedBy_32 (fun q0 q1 q2 => q1) rX bD x1 s c) else (j_X5_reachedBy_32 (fun q0 q1 q2 => q1) rX bD x1 (s ||| (rX c.toNatClampNeg)) c)
noncomputable def ex_X5_reachedBy_4 {R : Type} (po : Int32 → R) (rX : Nat → Int32) (bD x1 c s : Int32) : R := po s
set_option maxHeartbeats 200000 in
set_option maxRecDepth 10000 in
theorem dl_X5_reachedBy_4 {P Q : Int32 → Prop} {rX : Nat → Int32} {bD x1 a : Int32} {i : Nat} (hi0 : i < 2147483648) (hE : ∀ (c : Int32) (s : Int32), c = nI (i + (Int32.toInt bD - ((i : Nat) : Int)).toNat) → s = itr (bd_X5_reachedBy_4 rX bD x1) a i (Int32.toInt bD - ((i : Nat) : Int)).toNat → (P s) → (Q s)) : ∀ (n k : Nat) (c : Int32), c = nI (i + k) → k ≤ (Int32.toInt bD - ((i : Nat) : Int)).toNat → wb_X5_reachedBy_4 P rX bD n x1 (itr (bd_X5_reachedBy_4 rX bD x1) a i k) c → wb_X5_reachedBy_4 Q rX bD n x1 (itr (bd_X5_reachedBy_4 rX bD x1) a i k) c := by
  intro n
  induction n with
  | zero => intro k c hc hk h; exact False.elim h
  | succ n ih =>
    intro k c hc hk h
    have hr := tp_r bD
    have hi : Int32.toInt c = ((i + k : Nat) : Int) := by rw [hc]; exact nI_toInt (by omega)
    refine And.intro (fun t0 => ?_) (fun t0 => ?_)
    · have h := And.left h t0
      have t1 := (fa_le _ _).mp t0
      have hk2 : k = (Int32.toInt bD - ((i : Nat) : Int)).toNat := by omega
      subst hk2
      exact hE _ _ hc rfl h
    · have h := And.right h t0
      have t1 := mt (fa_le _ _).mpr t0
      have hs : ∀ o : Int32, o = itr (bd_X5_reachedBy_4 rX bD x1) a i (k + 1) → wb_X5_reachedBy_4 P rX bD n x1 o (c + 1) → wb_X5_reachedBy_4 Q rX bD n x1 o (c + 1) := by
        intro o eo h9
        have q := ih (k + 1) (c + 1) (by rw [hc]; exact nI_1 _) (by omega)
        rw [← eo] at q
        exact q h9
      rw [itr_s, ← hc, bd_X5_reachedBy_4] at hs
      refine ae ?_
      have h := h _ rfl
      refine And.intro (fun c1 => ?_) (fun c1 => ?_)
      · have h := And.left h c1
        rw [if_pos c1] at hs
        rw [j_X5_reachedBy_32] at hs
        unfold ws_X5_reachedBy_32 at h ⊢
        refine ae ?_
        have h := h _ rfl
        have q9 := hs _ rfl
        exact q9 h
      · have h := And.right h c1
        rw [if_neg c1] at hs
        refine And.intro (And.left h) ?_
        have h := And.right h
        refine ae ?_
        have h := h _ rfl
        rw [j_X5_reachedBy_32] at hs
        unfold ws_X5_reachedBy_32 at h ⊢
        refine ae ?_
        have h := h _ rfl
        have q9 := hs _ rfl
        exact q9 h
noncomputable def F_X5_reachedBy (p0 : Int32) (rX : Nat → Int32) (bD : Int32) : Int32 := ex_X5_reachedBy_4 (fun o0 => o0) rX bD p0 (nI (0 + (Int32.toInt bD - ((0 : Nat) : Int)).toNat)) (itr (bd_X5_reachedBy_4 rX bD p0) 0 0 (Int32.toInt bD - ((0 : Nat) : Int)).toNat)
set_option maxHeartbeats 200000 in
set_option maxRecDepth 10000 in
theorem dt_X5_reachedBy {P Q : Int32 → Prop} {p0 : Int32} {rX : Nat → Int32} {bD : Int32} (h : wp_X5_reachedBy P p0 rX bD) (hq : ∀ o : Int32, o = F_X5_reachedBy p0 rX bD → P o → Q o) : wp_X5_reachedBy Q p0 rX bD := by
  rw [F_X5_reachedBy] at hq
  obtain ⟨n1, h⟩ := h
  refine ⟨n1, dl_X5_reachedBy_4 (a := 0) (i := 0) (by decide) ?_ n1 0 0 (by decide) (Nat.zero_le _) h⟩
  intro cc2 s3 ec4 es5 h
  rw [← ec4, ← es5, ex_X5_reachedBy_4] at hq
  have q9 := hq _ rfl
  exact q9 h
theorem du_X5_reachedBy {P Q : Int32 → Prop} {p0 : Int32} {rX : Nat → Int32} {bD : Int32} (h : wp_X5_reachedBy P p0 rX bD) (hq : P (F_X5_reachedBy p0 rX bD) → Q (F_X5_reachedBy p0 rX bD)) : wp_X5_reachedBy Q p0 rX bD := dt_X5_reachedBy h (fun o eo => by rw [eo]; exact hq)
noncomputable def bd_X5_lookAs_13 (bZ bD : Int32) (wD gF qA nJ nY dQ : Nat → Int32) (jC eO eW x2 x3 oX c : Int32) (s : (Nat → Int32)) : (Nat → Int32) := (upd s c.toNatClampNeg (F_X3_within c x3 bZ wD gF nJ nY))
noncomputable def ex_X5_lookAs_13 {R : Type} (po : Int32 → (Nat → Int32) → R) (bZ bD : Int32) (wD gF qA nJ nY dQ : Nat → Int32) (jC eO eW x2 x3 oX c : Int32) (s : (Nat → Int32)) : R := po (((F_X0_hanging bZ jC eO eW) &&& (F_X3_ripeBy x2 bZ qA)) &&& (F_X5_reachedBy (F_X3_allStandings bD) s bD)) s
set_option maxHeartbeats 200000 in
set_option maxRecDepth 10000 in
theorem dl_X5_lookAs_13 {P Q : Int32 → (Nat → Int32) → Prop} {bZ bD : Int32} {wD gF qA nJ nY dQ : Nat → Int32} {jC eO eW x2 x3 oX : Int32} {a : (Nat → Int32)} {i : Nat} (hi0 : i < 2147483648) (hE : ∀ (c : Int32) (s : (Nat → Int32)), c = nI (i + (Int32.toInt bD - ((i : Nat) : Int)).toNat) → s = itr (bd_X5_lookAs_13 bZ bD wD gF qA nJ nY dQ jC eO eW x2 x3 oX) a i (Int32.toInt bD - ((i : Nat) : Int)).toNat → (wp_X0_hanging (fun r_2 => wp_X3_ripeBy (fun r_3 => ∀ v_4 : Int32, v_4 = r_2 &&& r_3 → wp_X3_allStandings (fun r_5 => wp_X5_reachedBy (fun r_6 => ∀ v_7 : Int32, v_7 = v_4 &&& r_6 → P v_7 s) r_5 s bD) bD) x2 bZ qA) bZ jC eO eW) → (wp_X0_hanging (fun r_2 => wp_X3_ripeBy (fun r_3 => ∀ v_4 : Int32, v_4 = r_2 &&& r_3 → wp_X3_allStandings (fun r_5 => wp_X5_reachedBy (fun r_6 => ∀ v_7 : Int32, v_7 = v_4 &&& r_6 → Q v_7 s) r_5 s bD) bD) x2 bZ qA) bZ jC eO eW)) : ∀ (n k : Nat) (c : Int32), c = nI (i + k) → k ≤ (Int32.toInt bD - ((i : Nat) : Int)).toNat → wb_X5_lookAs_13 P bZ bD wD gF qA nJ nY dQ jC eO eW n x2 x3 c oX (itr (bd_X5_lookAs_13 bZ bD wD gF qA nJ nY dQ jC eO eW x2 x3 oX) a i k) → wb_X5_lookAs_13 Q bZ bD wD gF qA nJ nY dQ jC eO eW n x2 x3 c oX (itr (bd_X5_lookAs_13 bZ bD wD gF qA nJ nY dQ jC eO eW x2 x3 oX) a i k) := by
  intro n
  induction n with
  | zero => intro k c hc hk h; exact False.elim h
  | succ n ih =>
    intro k c hc hk h
    have hr := tp_r bD
    have hi : Int32.toInt c = ((i + k : Nat) : Int) := by rw [hc]; exact nI_toInt (by omega)
    refine And.intro (fun t0 => ?_) (fun t0 => ?_)
    · have h := And.left h t0
      have t1 := (fa_le _ _).mp t0
      have hk2 : k = (Int32.toInt bD - ((i : Nat) : Int)).toNat := by omega
      subst hk2
      exact hE _ _ hc rfl h
    · have h := And.right h t0
      have t1 := mt (fa_le _ _).mpr t0
      have hs : ∀ o : (Nat → Int32), o = itr (bd_X5_lookAs_13 bZ bD wD gF qA nJ nY dQ jC eO eW x2 x3 oX) a i (k + 1) → wb_X5_lookAs_13 P bZ bD wD gF qA nJ nY dQ jC eO eW n x2 x3 (c + 1) oX o → wb_X5_lookAs_13 Q bZ bD wD gF qA nJ nY dQ jC eO eW n x2 x3 (c + 1) oX o := by
        intro o eo h9
        have q := ih (k + 1) (c + 1) (by rw [hc]; exact nI_1 _) (by omega)
        rw [← eo] at q
        exact q h9
      rw [itr_s, ← hc, bd_X5_lookAs_13] at hs
      refine du_X3_within h ?_
      intro h
      refine And.intro (And.left h) ?_
      have h := And.right h
      refine ae ?_
      have h := h _ rfl
      have q9 := hs _ rfl
      exact q9 h
noncomputable def F_X5_lookAs (p0 p1 oX : Int32) (rX : Nat → Int32) (bZ bD : Int32) (wD gF qA nJ nY dQ : Nat → Int32) (jC eO eW : Int32) : Int32 × (Nat → Int32) := ex_X5_lookAs_13 (fun o0 o1 => (o0, o1)) bZ bD wD gF qA nJ nY dQ jC eO eW p1 (F_X3_reach p0 0 dQ) oX (nI (0 + (Int32.toInt bD - ((0 : Nat) : Int)).toNat)) (itr (bd_X5_lookAs_13 bZ bD wD gF qA nJ nY dQ jC eO eW p1 (F_X3_reach p0 0 dQ) oX) rX 0 (Int32.toInt bD - ((0 : Nat) : Int)).toNat)
set_option maxHeartbeats 200000 in
set_option maxRecDepth 10000 in
theorem dt_X5_lookAs {P Q : Int32 → (Nat → Int32) → Prop} {p0 p1 oX : Int32} {rX : Nat → Int32} {bZ bD : Int32} {wD gF qA nJ nY dQ : Nat → Int32} {jC eO eW : Int32} (h : wp_X5_lookAs P p0 p1 oX rX bZ bD wD gF qA nJ nY dQ jC eO eW) (hq : ∀ o : Int32 × (Nat → Int32), o = F_X5_lookAs p0 p1 oX rX bZ bD wD gF qA nJ nY dQ jC eO eW → P o.1 o.2 → Q o.1 o.2) : wp_X5_lookAs Q p0 p1 oX rX bZ bD wD gF qA nJ nY dQ jC eO eW := by
  rw [F_X5_lookAs] at hq
  refine du_X3_reach h ?_
  intro h
  obtain ⟨n1, h⟩ := h
  refine ⟨n1, dl_X5_lookAs_13 (a := rX) (i := 0) (by decide) ?_ n1 0 0 (by decide) (Nat.zero_le _) h⟩
  intro cc2 s3 ec4 es5 h
  rw [← ec4, ← es5, ex_X5_lookAs_13] at hq
  refine du_X0_hanging h ?_
  intro h
  refine du_X3_ripeBy h ?_
  intro h
  refine ae ?_
  have h := h _ rfl
  refine du_X3_allStandings h ?_
  intro h
  refine du_X5_reachedBy h ?_
  intro h
  refine ae ?_
  have h := h _ rfl
  have q9 := hq _ rfl
  dsimp only at q9
  exact q9 h
theorem du_X5_lookAs {P Q : Int32 → (Nat → Int32) → Prop} {p0 p1 oX : Int32} {rX : Nat → Int32} {bZ bD : Int32} {wD gF qA nJ nY dQ : Nat → Int32} {jC eO eW : Int32} (h : wp_X5_lookAs P p0 p1 oX rX bZ bD wD gF qA nJ nY dQ jC eO eW) (hq : P (F_X5_lookAs p0 p1 oX rX bZ bD wD gF qA nJ nY dQ jC eO eW).1 (F_X5_lookAs p0 p1 oX rX bZ bD wD gF qA nJ nY dQ jC eO eW).2 → Q (F_X5_lookAs p0 p1 oX rX bZ bD wD gF qA nJ nY dQ jC eO eW).1 (F_X5_lookAs p0 p1 oX rX bZ bD wD gF qA nJ nY dQ jC eO eW).2) : wp_X5_lookAs Q p0 p1 oX rX bZ bD wD gF qA nJ nY dQ jC eO eW := dt_X5_lookAs h (fun o eo => by rw [eo]; exact hq)
noncomputable def F_X5_look (oX : Int32) (rX : Nat → Int32) (bZ bD : Int32) (wD gF qA nJ nY dQ : Nat → Int32) (jC eO eW fY jD : Int32) : Int32 × (Nat → Int32) := ((F_X5_lookAs fY jD oX rX bZ bD wD gF qA nJ nY dQ jC eO eW).1, (F_X5_lookAs fY jD oX rX bZ bD wD gF qA nJ nY dQ jC eO eW).2)
set_option maxHeartbeats 200000 in
set_option maxRecDepth 10000 in
theorem dt_X5_look {P Q : Int32 → (Nat → Int32) → Prop} {oX : Int32} {rX : Nat → Int32} {bZ bD : Int32} {wD gF qA nJ nY dQ : Nat → Int32} {jC eO eW fY jD : Int32} (h : wp_X5_look P oX rX bZ bD wD gF qA nJ nY dQ jC eO eW fY jD) (hq : ∀ o : Int32 × (Nat → Int32), o = F_X5_look oX rX bZ bD wD gF qA nJ nY dQ jC eO eW fY jD → P o.1 o.2 → Q o.1 o.2) : wp_X5_look Q oX rX bZ bD wD gF qA nJ nY dQ jC eO eW fY jD := by
  rw [F_X5_look] at hq
  refine du_X5_lookAs h ?_
  intro h
  have q9 := hq _ rfl
  dsimp only at q9
  exact q9 h
theorem du_X5_look {P Q : Int32 → (Nat → Int32) → Prop} {oX : Int32} {rX : Nat → Int32} {bZ bD : Int32} {wD gF qA nJ nY dQ : Nat → Int32} {jC eO eW fY jD : Int32} (h : wp_X5_look P oX rX bZ bD wD gF qA nJ nY dQ jC eO eW fY jD) (hq : P (F_X5_look oX rX bZ bD wD gF qA nJ nY dQ jC eO eW fY jD).1 (F_X5_look oX rX bZ bD wD gF qA nJ nY dQ jC eO eW fY jD).2 → Q (F_X5_look oX rX bZ bD wD gF qA nJ nY dQ jC eO eW fY jD).1 (F_X5_look oX rX bZ bD wD gF qA nJ nY dQ jC eO eW fY jD).2) : wp_X5_look Q oX rX bZ bD wD gF qA nJ nY dQ jC eO eW fY jD := dt_X5_look h (fun o eo => by rw [eo]; exact hq)
noncomputable def F_X5_wantedFrom (p0 oX : Int32) (rX : Nat → Int32) : Int32 := (oX &&& (rX p0.toNatClampNeg))
set_option maxHeartbeats 200000 in
set_option maxRecDepth 10000 in
theorem dt_X5_wantedFrom {P Q : Int32 → Prop} {p0 oX : Int32} {rX : Nat → Int32} (h : wp_X5_wantedFrom P p0 oX rX) (hq : ∀ o : Int32, o = F_X5_wantedFrom p0 oX rX → P o → Q o) : wp_X5_wantedFrom Q p0 oX rX := by
  rw [F_X5_wantedFrom] at hq
  refine And.intro (And.left h) ?_
  have h := And.right h
  have q9 := hq _ rfl
  exact q9 h
theorem du_X5_wantedFrom {P Q : Int32 → Prop} {p0 oX : Int32} {rX : Nat → Int32} (h : wp_X5_wantedFrom P p0 oX rX) (hq : P (F_X5_wantedFrom p0 oX rX) → Q (F_X5_wantedFrom p0 oX rX)) : wp_X5_wantedFrom Q p0 oX rX := dt_X5_wantedFrom h (fun o eo => by rw [eo]; exact hq)
noncomputable def F_X9_both (p0 p1 oX : Int32) (rX : Nat → Int32) (bZ bD : Int32) (wD gF qA nJ nY dQ : Nat → Int32) (jC eO eW fY jD qF : Int32) (jJ : Nat → Int32) : Int32 × Int32 × (Nat → Int32) × Int32 × (Nat → Int32) := if (F_X3_hasStanding p0 bD) = 0 then ((-1), oX, rX, qF, jJ) else (if (F_X3_hasStanding p1 bD) = 0 then ((-1), oX, rX, qF, jJ) else (if p0 = p1 then ((-1), oX, rX, qF, jJ) else (((F_X5_wantedFrom p0 (F_X5_look oX rX bZ bD wD gF qA nJ nY dQ jC eO eW fY jD).1 (F_X5_look oX rX bZ bD wD gF qA nJ nY dQ jC eO eW fY jD).2) &&& (F_X5_wantedFrom p1 (F_X5_look oX rX bZ bD wD gF qA nJ nY dQ jC eO eW fY jD).1 (F_X5_look oX rX bZ bD wD gF qA nJ nY dQ jC eO eW fY jD).2)), (F_X5_look oX rX bZ bD wD gF qA nJ nY dQ jC eO eW fY jD).1, (F_X5_look oX rX bZ bD wD gF qA nJ nY dQ jC eO eW fY jD).2, (F_X9_tell_ ((F_X5_wantedFrom p0 (F_X5_look oX rX bZ bD wD gF qA nJ nY dQ jC eO eW fY jD).1 (F_X5_look oX rX bZ bD wD gF qA nJ nY dQ jC eO eW fY jD).2) &&& ((F_X5_wantedFrom p1 (F_X5_look oX rX bZ bD wD gF qA nJ nY dQ jC eO eW fY jD).1 (F_X5_look oX rX bZ bD wD gF qA nJ nY dQ jC eO eW fY jD).2) ^^^ (-1))) ((F_X5_wantedFrom p1 (F_X5_look oX rX bZ bD wD gF qA nJ nY dQ jC eO eW fY jD).1 (F_X5_look oX rX bZ bD wD gF qA nJ nY dQ jC eO eW fY jD).2) &&& ((F_X5_wantedFrom p0 (F_X5_look oX rX bZ bD wD gF qA nJ nY dQ jC eO eW fY jD).1 (F_X5_look oX rX bZ bD wD gF qA nJ nY dQ jC eO eW fY jD).2) ^^^ (-1))) qF jJ).1, (F_X9_tell_ ((F_X5_wantedFrom p0 (F_X5_look oX rX bZ bD wD gF qA nJ nY dQ jC eO eW fY jD).1 (F_X5_look oX rX bZ bD wD gF qA nJ nY dQ jC eO eW fY jD).2) &&& ((F_X5_wantedFrom p1 (F_X5_look oX rX bZ bD wD gF qA nJ nY dQ jC eO eW fY jD).1 (F_X5_look oX rX bZ bD wD gF qA nJ nY dQ jC eO eW fY jD).2) ^^^ (-1))) ((F_X5_wantedFrom p1 (F_X5_look oX rX bZ bD wD gF qA nJ nY dQ jC eO eW fY jD).1 (F_X5_look oX rX bZ bD wD gF qA nJ nY dQ jC eO eW fY jD).2) &&& ((F_X5_wantedFrom p0 (F_X5_look oX rX bZ bD wD gF qA nJ nY dQ jC eO eW fY jD).1 (F_X5_look oX rX bZ bD wD gF qA nJ nY dQ jC eO eW fY jD).2) ^^^ (-1))) qF jJ).2)))
set_option maxHeartbeats 200000 in
set_option maxRecDepth 10000 in
theorem dt_X9_both {P Q : Int32 → Int32 → (Nat → Int32) → Int32 → (Nat → Int32) → Prop} {p0 p1 oX : Int32} {rX : Nat → Int32} {bZ bD : Int32} {wD gF qA nJ nY dQ : Nat → Int32} {jC eO eW fY jD qF : Int32} {jJ : Nat → Int32} (h : wp_X9_both P p0 p1 oX rX bZ bD wD gF qA nJ nY dQ jC eO eW fY jD qF jJ) (hq : ∀ o : Int32 × Int32 × (Nat → Int32) × Int32 × (Nat → Int32), o = F_X9_both p0 p1 oX rX bZ bD wD gF qA nJ nY dQ jC eO eW fY jD qF jJ → P o.1 o.2.1 o.2.2.1 o.2.2.2.1 o.2.2.2.2 → Q o.1 o.2.1 o.2.2.1 o.2.2.2.1 o.2.2.2.2) : wp_X9_both Q p0 p1 oX rX bZ bD wD gF qA nJ nY dQ jC eO eW fY jD qF jJ := by
  rw [F_X9_both] at hq
  refine du_X3_hasStanding h ?_
  intro h
  refine And.intro (fun c1 => ?_) (fun c1 => ?_)
  · have h := And.left h c1
    rw [if_pos c1] at hq
    have q9 := hq _ rfl
    dsimp only at q9
    exact q9 h
  · have h := And.right h c1
    rw [if_neg c1] at hq
    refine du_X3_hasStanding h ?_
    intro h
    refine And.intro (fun c2 => ?_) (fun c2 => ?_)
    · have h := And.left h c2
      rw [if_pos c2] at hq
      have q9 := hq _ rfl
      dsimp only at q9
      exact q9 h
    · have h := And.right h c2
      rw [if_neg c2] at hq
      refine And.intro (fun c3 => ?_) (fun c3 => ?_)
      · have h := And.left h c3
        rw [if_neg c3] at hq
        refine du_X5_look h ?_
        intro h
        refine du_X5_wantedFrom h ?_
        intro h
        refine du_X5_wantedFrom h ?_
        intro h
        refine ae ?_
        have h := h _ rfl
        refine ae ?_
        have h := h _ rfl
        refine du_X9_tell_ h ?_
        intro h
        have q9 := hq _ rfl
        dsimp only at q9
        exact q9 h
      · have h := And.right h c3
        rw [if_pos c3] at hq
        have q9 := hq _ rfl
        dsimp only at q9
        exact q9 h
theorem du_X9_both {P Q : Int32 → Int32 → (Nat → Int32) → Int32 → (Nat → Int32) → Prop} {p0 p1 oX : Int32} {rX : Nat → Int32} {bZ bD : Int32} {wD gF qA nJ nY dQ : Nat → Int32} {jC eO eW fY jD qF : Int32} {jJ : Nat → Int32} (h : wp_X9_both P p0 p1 oX rX bZ bD wD gF qA nJ nY dQ jC eO eW fY jD qF jJ) (hq : P (F_X9_both p0 p1 oX rX bZ bD wD gF qA nJ nY dQ jC eO eW fY jD qF jJ).1 (F_X9_both p0 p1 oX rX bZ bD wD gF qA nJ nY dQ jC eO eW fY jD qF jJ).2.1 (F_X9_both p0 p1 oX rX bZ bD wD gF qA nJ nY dQ jC eO eW fY jD qF jJ).2.2.1 (F_X9_both p0 p1 oX rX bZ bD wD gF qA nJ nY dQ jC eO eW fY jD qF jJ).2.2.2.1 (F_X9_both p0 p1 oX rX bZ bD wD gF qA nJ nY dQ jC eO eW fY jD qF jJ).2.2.2.2 → Q (F_X9_both p0 p1 oX rX bZ bD wD gF qA nJ nY dQ jC eO eW fY jD qF jJ).1 (F_X9_both p0 p1 oX rX bZ bD wD gF qA nJ nY dQ jC eO eW fY jD qF jJ).2.1 (F_X9_both p0 p1 oX rX bZ bD wD gF qA nJ nY dQ jC eO eW fY jD qF jJ).2.2.1 (F_X9_both p0 p1 oX rX bZ bD wD gF qA nJ nY dQ jC eO eW fY jD qF jJ).2.2.2.1 (F_X9_both p0 p1 oX rX bZ bD wD gF qA nJ nY dQ jC eO eW fY jD qF jJ).2.2.2.2) : wp_X9_both Q p0 p1 oX rX bZ bD wD gF qA nJ nY dQ jC eO eW fY jD qF jJ := dt_X9_both h (fun o eo => by rw [eo]; exact hq)
theorem dw_X9_both {Q : Int32 → Int32 → (Nat → Int32) → Int32 → (Nat → Int32) → Prop} {p0 p1 oX : Int32} {rX : Nat → Int32} {bZ bD : Int32} {wD gF qA nJ nY dQ : Nat → Int32} {jC eO eW fY jD qF : Int32} {jJ : Nat → Int32} (h : wp_X9_both (fun o0 o1 o2 o3 o4 => (o0, o1, o2, o3, o4) = F_X9_both p0 p1 oX rX bZ bD wD gF qA nJ nY dQ jC eO eW fY jD qF jJ → Q o0 o1 o2 o3 o4) p0 p1 oX rX bZ bD wD gF qA nJ nY dQ jC eO eW fY jD qF jJ) : wp_X9_both Q p0 p1 oX rX bZ bD wD gF qA nJ nY dQ jC eO eW fY jD qF jJ := dt_X9_both h (fun o eo hp => hp eo)
noncomputable def F_X2_write_b2 (p1 jC eO eW dO fJ fY jD nG : Int32) (qR : Nat → Int32) : (Nat → Int32) := if p1 < 0 then qR else (if p1 ≤ (16 - 8) then (upd (upd (upd (upd (upd (upd (upd (upd qR p1.toNatClampNeg jC) (p1 + 1).toNatClampNeg eO) (p1 + 2).toNatClampNeg eW) (p1 + 3).toNatClampNeg dO) (p1 + 4).toNatClampNeg fJ) (p1 + 5).toNatClampNeg fY) (p1 + 6).toNatClampNeg jD) (p1 + 7).toNatClampNeg nG) else qR)
set_option maxHeartbeats 200000 in
set_option maxRecDepth 10000 in
theorem dt_X2_write_b2 {P Q : (Nat → Int32) → Prop} {p1 jC eO eW dO fJ fY jD nG : Int32} {qR : Nat → Int32} (h : wp_X2_write_b2 P p1 jC eO eW dO fJ fY jD nG qR) (hq : ∀ o : (Nat → Int32), o = F_X2_write_b2 p1 jC eO eW dO fJ fY jD nG qR → P o → Q o) : wp_X2_write_b2 Q p1 jC eO eW dO fJ fY jD nG qR := by
  rw [F_X2_write_b2] at hq
  refine And.intro (fun c1 => ?_) (fun c1 => ?_)
  · have h := And.left h c1
    rw [if_pos c1] at hq
    have q9 := hq _ rfl
    exact q9 h
  · have h := And.right h c1
    rw [if_neg c1] at hq
    refine And.intro (fun c2 => ?_) (fun c2 => ?_)
    · have h := And.left h c2
      rw [if_pos c2] at hq
      refine And.intro (And.left h) ?_
      have h := And.right h
      refine ae ?_
      have h := h _ rfl
      refine And.intro (And.left h) ?_
      have h := And.right h
      refine ae ?_
      have h := h _ rfl
      refine And.intro (And.left h) ?_
      have h := And.right h
      refine ae ?_
      have h := h _ rfl
      refine And.intro (And.left h) ?_
      have h := And.right h
      refine ae ?_
      have h := h _ rfl
      refine And.intro (And.left h) ?_
      have h := And.right h
      refine ae ?_
      have h := h _ rfl
      refine And.intro (And.left h) ?_
      have h := And.right h
      refine ae ?_
      have h := h _ rfl
      refine And.intro (And.left h) ?_
      have h := And.right h
      refine ae ?_
      have h := h _ rfl
      refine And.intro (And.left h) ?_
      have h := And.right h
      have q9 := hq _ rfl
      exact q9 h
    · have h := And.right h c2
      rw [if_neg c2] at hq
      have q9 := hq _ rfl
      exact q9 h
theorem du_X2_write_b2 {P Q : (Nat → Int32) → Prop} {p1 jC eO eW dO fJ fY jD nG : Int32} {qR : Nat → Int32} (h : wp_X2_write_b2 P p1 jC eO eW dO fJ fY jD nG qR) (hq : P (F_X2_write_b2 p1 jC eO eW dO fJ fY jD nG qR) → Q (F_X2_write_b2 p1 jC eO eW dO fJ fY jD nG qR)) : wp_X2_write_b2 Q p1 jC eO eW dO fJ fY jD nG qR := dt_X2_write_b2 h (fun o eo => by rw [eo]; exact hq)
noncomputable def F_X4_store (p0 jC eO eW dO fJ fY jD nG : Int32) (qR tJ : Nat → Int32) : Int32 × (Nat → Int32) × (Nat → Int32) := if p0 < 0 then (0, qR, tJ) else (if p0 < 2 then (1, (F_X2_write_b2 (p0 * 8) jC eO eW dO fJ fY jD nG qR), (upd tJ p0.toNatClampNeg (vp_nar .boolean 1))) else (0, qR, tJ))
set_option maxHeartbeats 200000 in
set_option maxRecDepth 10000 in
theorem dt_X4_store {P Q : Int32 → (Nat → Int32) → (Nat → Int32) → Prop} {p0 jC eO eW dO fJ fY jD nG : Int32} {qR tJ : Nat → Int32} (h : wp_X4_store P p0 jC eO eW dO fJ fY jD nG qR tJ) (hq : ∀ o : Int32 × (Nat → Int32) × (Nat → Int32), o = F_X4_store p0 jC eO eW dO fJ fY jD nG qR tJ → P o.1 o.2.1 o.2.2 → Q o.1 o.2.1 o.2.2) : wp_X4_store Q p0 jC eO eW dO fJ fY jD nG qR tJ := by
  rw [F_X4_store] at hq
  refine And.intro (fun c1 => ?_) (fun c1 => ?_)
  · have h := And.left h c1
    rw [if_pos c1] at hq
    have q9 := hq _ rfl
    dsimp only at q9
    exact q9 h
  · have h := And.right h c1
    rw [if_neg c1] at hq
    refine And.intro (fun c2 => ?_) (fun c2 => ?_)
    · have h := And.left h c2
      rw [if_pos c2] at hq
      refine ae ?_
      have h := h _ rfl
      refine du_X2_write_b2 h ?_
      intro h
      refine And.intro (And.left h) ?_
      have h := And.right h
      have q9 := hq _ rfl
      dsimp only at q9
      exact q9 h
    · have h := And.right h c2
      rw [if_neg c2] at hq
      have q9 := hq _ rfl
      dsimp only at q9
      exact q9 h
theorem du_X4_store {P Q : Int32 → (Nat → Int32) → (Nat → Int32) → Prop} {p0 jC eO eW dO fJ fY jD nG : Int32} {qR tJ : Nat → Int32} (h : wp_X4_store P p0 jC eO eW dO fJ fY jD nG qR tJ) (hq : P (F_X4_store p0 jC eO eW dO fJ fY jD nG qR tJ).1 (F_X4_store p0 jC eO eW dO fJ fY jD nG qR tJ).2.1 (F_X4_store p0 jC eO eW dO fJ fY jD nG qR tJ).2.2 → Q (F_X4_store p0 jC eO eW dO fJ fY jD nG qR tJ).1 (F_X4_store p0 jC eO eW dO fJ fY jD nG qR tJ).2.1 (F_X4_store p0 jC eO eW dO fJ fY jD nG qR tJ).2.2) : wp_X4_store Q p0 jC eO eW dO fJ fY jD nG qR tJ := dt_X4_store h (fun o eo => by rw [eo]; exact hq)
noncomputable def F_X9_keep (p0 jC eO eW dO fJ fY jD nG : Int32) (qR tJ : Nat → Int32) : Int32 × (Nat → Int32) × (Nat → Int32) := ((F_X4_store p0 jC eO eW dO fJ fY jD nG qR tJ).1, (F_X4_store p0 jC eO eW dO fJ fY jD nG qR tJ).2.1, (F_X4_store p0 jC eO eW dO fJ fY jD nG qR tJ).2.2)
set_option maxHeartbeats 200000 in
set_option maxRecDepth 10000 in
theorem dt_X9_keep {P Q : Int32 → (Nat → Int32) → (Nat → Int32) → Prop} {p0 jC eO eW dO fJ fY jD nG : Int32} {qR tJ : Nat → Int32} (h : wp_X9_keep P p0 jC eO eW dO fJ fY jD nG qR tJ) (hq : ∀ o : Int32 × (Nat → Int32) × (Nat → Int32), o = F_X9_keep p0 jC eO eW dO fJ fY jD nG qR tJ → P o.1 o.2.1 o.2.2 → Q o.1 o.2.1 o.2.2) : wp_X9_keep Q p0 jC eO eW dO fJ fY jD nG qR tJ := by
  rw [F_X9_keep] at hq
  refine du_X4_store h ?_
  intro h
  refine And.intro (And.left h) ?_
  have h := And.right h
  have q9 := hq _ rfl
  dsimp only at q9
  exact q9 h
theorem du_X9_keep {P Q : Int32 → (Nat → Int32) → (Nat → Int32) → Prop} {p0 jC eO eW dO fJ fY jD nG : Int32} {qR tJ : Nat → Int32} (h : wp_X9_keep P p0 jC eO eW dO fJ fY jD nG qR tJ) (hq : P (F_X9_keep p0 jC eO eW dO fJ fY jD nG qR tJ).1 (F_X9_keep p0 jC eO eW dO fJ fY jD nG qR tJ).2.1 (F_X9_keep p0 jC eO eW dO fJ fY jD nG qR tJ).2.2 → Q (F_X9_keep p0 jC eO eW dO fJ fY jD nG qR tJ).1 (F_X9_keep p0 jC eO eW dO fJ fY jD nG qR tJ).2.1 (F_X9_keep p0 jC eO eW dO fJ fY jD nG qR tJ).2.2) : wp_X9_keep Q p0 jC eO eW dO fJ fY jD nG qR tJ := dt_X9_keep h (fun o eo => by rw [eo]; exact hq)
theorem dw_X9_keep {Q : Int32 → (Nat → Int32) → (Nat → Int32) → Prop} {p0 jC eO eW dO fJ fY jD nG : Int32} {qR tJ : Nat → Int32} (h : wp_X9_keep (fun o0 o1 o2 => (o0, o1, o2) = F_X9_keep p0 jC eO eW dO fJ fY jD nG qR tJ → Q o0 o1 o2) p0 jC eO eW dO fJ fY jD nG qR tJ) : wp_X9_keep Q p0 jC eO eW dO fJ fY jD nG qR tJ := dt_X9_keep h (fun o eo hp => hp eo)
noncomputable def F_X2_read_b2 (p1 jC eO eW dO fJ fY jD nG : Int32) (qR : Nat → Int32) : Int32 × Int32 × Int32 × Int32 × Int32 × Int32 × Int32 × Int32 := if p1 < 0 then (jC, eO, eW, dO, fJ, fY, jD, nG) else (if p1 ≤ (16 - 8) then ((qR p1.toNatClampNeg), (qR (p1 + 1).toNatClampNeg), (qR (p1 + 2).toNatClampNeg), (qR (p1 + 3).toNatClampNeg), (qR (p1 + 4).toNatClampNeg), (qR (p1 + 5).toNatClampNeg), (qR (p1 + 6).toNatClampNeg), (qR (p1 + 7).toNatClampNeg)) else (jC, eO, eW, dO, fJ, fY, jD, nG))
set_option maxHeartbeats 200000 in
set_option maxRecDepth 10000 in
theorem dt_X2_read_b2 {P Q : Int32 → Int32 → Int32 → Int32 → Int32 → Int32 → Int32 → Int32 → Prop} {p1 jC eO eW dO fJ fY jD nG : Int32} {qR : Nat → Int32} (h : wp_X2_read_b2 P p1 jC eO eW dO fJ fY jD nG qR) (hq : ∀ o : Int32 × Int32 × Int32 × Int32 × Int32 × Int32 × Int32 × Int32, o = F_X2_read_b2 p1 jC eO eW dO fJ fY jD nG qR → P o.1 o.2.1 o.2.2.1 o.2.2.2.1 o.2.2.2.2.1 o.2.2.2.2.2.1 o.2.2.2.2.2.2.1 o.2.2.2.2.2.2.2 → Q o.1 o.2.1 o.2.2.1 o.2.2.2.1 o.2.2.2.2.1 o.2.2.2.2.2.1 o.2.2.2.2.2.2.1 o.2.2.2.2.2.2.2) : wp_X2_read_b2 Q p1 jC eO eW dO fJ fY jD nG qR := by
  rw [F_X2_read_b2] at hq
  refine And.intro (fun c1 => ?_) (fun c1 => ?_)
  · have h := And.left h c1
    rw [if_pos c1] at hq
    have q9 := hq _ rfl
    dsimp only at q9
    exact q9 h
  · have h := And.right h c1
    rw [if_neg c1] at hq
    refine And.intro (fun c2 => ?_) (fun c2 => ?_)
    · have h := And.left h c2
      rw [if_pos c2] at hq
      refine And.intro (And.left h) ?_
      have h := And.right h
      refine ae ?_
      have h := h _ rfl
      refine ae ?_
      have h := h _ rfl
      refine And.intro (And.left h) ?_
      have h := And.right h
      refine ae ?_
      have h := h _ rfl
      refine ae ?_
      have h := h _ rfl
      refine And.intro (And.left h) ?_
      have h := And.right h
      refine ae ?_
      have h := h _ rfl
      refine ae ?_
      have h := h _ rfl
      refine And.intro (And.left h) ?_
      have h := And.right h
      refine ae ?_
      have h := h _ rfl
      refine ae ?_
      have h := h _ rfl
      refine And.intro (And.left h) ?_
      have h := And.right h
      refine ae ?_
      have h := h _ rfl
      refine ae ?_
      have h := h _ rfl
      refine And.intro (And.left h) ?_
      have h := And.right h
      refine ae ?_
      have h := h _ rfl
      refine ae ?_
      have h := h _ rfl
      refine And.intro (And.left h) ?_
      have h := And.right h
      refine ae ?_
      have h := h _ rfl
      refine ae ?_
      have h := h _ rfl
      refine And.intro (And.left h) ?_
      have h := And.right h
      refine ae ?_
      have h := h _ rfl
      have q9 := hq _ rfl
      dsimp only at q9
      exact q9 h
    · have h := And.right h c2
      rw [if_neg c2] at hq
      have q9 := hq _ rfl
      dsimp only at q9
      exact q9 h
theorem du_X2_read_b2 {P Q : Int32 → Int32 → Int32 → Int32 → Int32 → Int32 → Int32 → Int32 → Prop} {p1 jC eO eW dO fJ fY jD nG : Int32} {qR : Nat → Int32} (h : wp_X2_read_b2 P p1 jC eO eW dO fJ fY jD nG qR) (hq : P (F_X2_read_b2 p1 jC eO eW dO fJ fY jD nG qR).1 (F_X2_read_b2 p1 jC eO eW dO fJ fY jD nG qR).2.1 (F_X2_read_b2 p1 jC eO eW dO fJ fY jD nG qR).2.2.1 (F_X2_read_b2 p1 jC eO eW dO fJ fY jD nG qR).2.2.2.1 (F_X2_read_b2 p1 jC eO eW dO fJ fY jD nG qR).2.2.2.2.1 (F_X2_read_b2 p1 jC eO eW dO fJ fY jD nG qR).2.2.2.2.2.1 (F_X2_read_b2 p1 jC eO eW dO fJ fY jD nG qR).2.2.2.2.2.2.1 (F_X2_read_b2 p1 jC eO eW dO fJ fY jD nG qR).2.2.2.2.2.2.2 → Q (F_X2_read_b2 p1 jC eO eW dO fJ fY jD nG qR).1 (F_X2_read_b2 p1 jC eO eW dO fJ fY jD nG qR).2.1 (F_X2_read_b2 p1 jC eO eW dO fJ fY jD nG qR).2.2.1 (F_X2_read_b2 p1 jC eO eW dO fJ fY jD nG qR).2.2.2.1 (F_X2_read_b2 p1 jC eO eW dO fJ fY jD nG qR).2.2.2.2.1 (F_X2_read_b2 p1 jC eO eW dO fJ fY jD nG qR).2.2.2.2.2.1 (F_X2_read_b2 p1 jC eO eW dO fJ fY jD nG qR).2.2.2.2.2.2.1 (F_X2_read_b2 p1 jC eO eW dO fJ fY jD nG qR).2.2.2.2.2.2.2) : wp_X2_read_b2 Q p1 jC eO eW dO fJ fY jD nG qR := dt_X2_read_b2 h (fun o eo => by rw [eo]; exact hq)
noncomputable def F_X4_fetch (p0 jC eO eW dO fJ fY jD nG oE : Int32) (qR tJ : Nat → Int32) : Int32 × Int32 × Int32 × Int32 × Int32 × Int32 × Int32 × Int32 × Int32 × Int32 := if p0 < 0 then (0, jC, eO, eW, dO, fJ, fY, jD, nG, oE) else (if 2 ≤ p0 then (0, jC, eO, eW, dO, fJ, fY, jD, nG, oE) else (if (tJ p0.toNatClampNeg) = 0 then (0, jC, eO, eW, dO, fJ, fY, jD, nG, oE) else (1, (F_X2_read_b2 (p0 * 8) jC eO eW dO fJ fY jD nG qR).1, (F_X2_read_b2 (p0 * 8) jC eO eW dO fJ fY jD nG qR).2.1, (F_X2_read_b2 (p0 * 8) jC eO eW dO fJ fY jD nG qR).2.2.1, (F_X2_read_b2 (p0 * 8) jC eO eW dO fJ fY jD nG qR).2.2.2.1, (F_X2_read_b2 (p0 * 8) jC eO eW dO fJ fY jD nG qR).2.2.2.2.1, (F_X2_read_b2 (p0 * 8) jC eO eW dO fJ fY jD nG qR).2.2.2.2.2.1, (F_X2_read_b2 (p0 * 8) jC eO eW dO fJ fY jD nG qR).2.2.2.2.2.2.1, (F_X2_read_b2 (p0 * 8) jC eO eW dO fJ fY jD nG qR).2.2.2.2.2.2.2, 0)))
set_option maxHeartbeats 200000 in
set_option maxRecDepth 10000 in
theorem dt_X4_fetch {P Q : Int32 → Int32 → Int32 → Int32 → Int32 → Int32 → Int32 → Int32 → Int32 → Int32 → Prop} {p0 jC eO eW dO fJ fY jD nG oE : Int32} {qR tJ : Nat → Int32} (h : wp_X4_fetch P p0 jC eO eW dO fJ fY jD nG oE qR tJ) (hq : ∀ o : Int32 × Int32 × Int32 × Int32 × Int32 × Int32 × Int32 × Int32 × Int32 × Int32, o = F_X4_fetch p0 jC eO eW dO fJ fY jD nG oE qR tJ → P o.1 o.2.1 o.2.2.1 o.2.2.2.1 o.2.2.2.2.1 o.2.2.2.2.2.1 o.2.2.2.2.2.2.1 o.2.2.2.2.2.2.2.1 o.2.2.2.2.2.2.2.2.1 o.2.2.2.2.2.2.2.2.2 → Q o.1 o.2.1 o.2.2.1 o.2.2.2.1 o.2.2.2.2.1 o.2.2.2.2.2.1 o.2.2.2.2.2.2.1 o.2.2.2.2.2.2.2.1 o.2.2.2.2.2.2.2.2.1 o.2.2.2.2.2.2.2.2.2) : wp_X4_fetch Q p0 jC eO eW dO fJ fY jD nG oE qR tJ := by
  rw [F_X4_fetch] at hq
  refine And.intro (fun c1 => ?_) (fun c1 => ?_)
  · have h := And.left h c1
    rw [if_pos c1] at hq
    have q9 := hq _ rfl
    dsimp only at q9
    exact q9 h
  · have h := And.right h c1
    rw [if_neg c1] at hq
    refine And.intro (fun c2 => ?_) (fun c2 => ?_)
    · have h := And.left h c2
      rw [if_pos c2] at hq
      have q9 := hq _ rfl
      dsimp only at q9
      exact q9 h
    · have h := And.right h c2
      rw [if_neg c2] at hq
      refine And.intro (And.left h) ?_
      have h := And.right h
      refine And.intro (fun c3 => ?_) (fun c3 => ?_)
      · have h := And.left h c3
        rw [if_neg c3] at hq
        refine ae ?_
        have h := h _ rfl
        refine du_X2_read_b2 h ?_
        intro h
        have q9 := hq _ rfl
        dsimp only at q9
        exact q9 h
      · have h := And.right h c3
        rw [if_pos c3] at hq
        have q9 := hq _ rfl
        dsimp only at q9
        exact q9 h
theorem du_X4_fetch {P Q : Int32 → Int32 → Int32 → Int32 → Int32 → Int32 → Int32 → Int32 → Int32 → Int32 → Prop} {p0 jC eO eW dO fJ fY jD nG oE : Int32} {qR tJ : Nat → Int32} (h : wp_X4_fetch P p0 jC eO eW dO fJ fY jD nG oE qR tJ) (hq : P (F_X4_fetch p0 jC eO eW dO fJ fY jD nG oE qR tJ).1 (F_X4_fetch p0 jC eO eW dO fJ fY jD nG oE qR tJ).2.1 (F_X4_fetch p0 jC eO eW dO fJ fY jD nG oE qR tJ).2.2.1 (F_X4_fetch p0 jC eO eW dO fJ fY jD nG oE qR tJ).2.2.2.1 (F_X4_fetch p0 jC eO eW dO fJ fY jD nG oE qR tJ).2.2.2.2.1 (F_X4_fetch p0 jC eO eW dO fJ fY jD nG oE qR tJ).2.2.2.2.2.1 (F_X4_fetch p0 jC eO eW dO fJ fY jD nG oE qR tJ).2.2.2.2.2.2.1 (F_X4_fetch p0 jC eO eW dO fJ fY jD nG oE qR tJ).2.2.2.2.2.2.2.1 (F_X4_fetch p0 jC eO eW dO fJ fY jD nG oE qR tJ).2.2.2.2.2.2.2.2.1 (F_X4_fetch p0 jC eO eW dO fJ fY jD nG oE qR tJ).2.2.2.2.2.2.2.2.2 → Q (F_X4_fetch p0 jC eO eW dO fJ fY jD nG oE qR tJ).1 (F_X4_fetch p0 jC eO eW dO fJ fY jD nG oE qR tJ).2.1 (F_X4_fetch p0 jC eO eW dO fJ fY jD nG oE qR tJ).2.2.1 (F_X4_fetch p0 jC eO eW dO fJ fY jD nG oE qR tJ).2.2.2.1 (F_X4_fetch p0 jC eO eW dO fJ fY jD nG oE qR tJ).2.2.2.2.1 (F_X4_fetch p0 jC eO eW dO fJ fY jD nG oE qR tJ).2.2.2.2.2.1 (F_X4_fetch p0 jC eO eW dO fJ fY jD nG oE qR tJ).2.2.2.2.2.2.1 (F_X4_fetch p0 jC eO eW dO fJ fY jD nG oE qR tJ).2.2.2.2.2.2.2.1 (F_X4_fetch p0 jC eO eW dO fJ fY jD nG oE qR tJ).2.2.2.2.2.2.2.2.1 (F_X4_fetch p0 jC eO eW dO fJ fY jD nG oE qR tJ).2.2.2.2.2.2.2.2.2) : wp_X4_fetch Q p0 jC eO eW dO fJ fY jD nG oE qR tJ := dt_X4_fetch h (fun o eo => by rw [eo]; exact hq)
noncomputable def F_X9_again (p0 jC eO eW dO fJ fY jD nG oE : Int32) (qR tJ : Nat → Int32) : Int32 × Int32 × Int32 × Int32 × Int32 × Int32 × Int32 × Int32 × Int32 × Int32 := ((F_X4_fetch p0 jC eO eW dO fJ fY jD nG oE qR tJ).1, (F_X4_fetch p0 jC eO eW dO fJ fY jD nG oE qR tJ).2.1, (F_X4_fetch p0 jC eO eW dO fJ fY jD nG oE qR tJ).2.2.1, (F_X4_fetch p0 jC eO eW dO fJ fY jD nG oE qR tJ).2.2.2.1, (F_X4_fetch p0 jC eO eW dO fJ fY jD nG oE qR tJ).2.2.2.2.1, (F_X4_fetch p0 jC eO eW dO fJ fY jD nG oE qR tJ).2.2.2.2.2.1, (F_X4_fetch p0 jC eO eW dO fJ fY jD nG oE qR tJ).2.2.2.2.2.2.1, (F_X4_fetch p0 jC eO eW dO fJ fY jD nG oE qR tJ).2.2.2.2.2.2.2.1, (F_X4_fetch p0 jC eO eW dO fJ fY jD nG oE qR tJ).2.2.2.2.2.2.2.2.1, (F_X4_fetch p0 jC eO eW dO fJ fY jD nG oE qR tJ).2.2.2.2.2.2.2.2.2)
set_option maxHeartbeats 200000 in
set_option maxRecDepth 10000 in
theorem dt_X9_again {P Q : Int32 → Int32 → Int32 → Int32 → Int32 → Int32 → Int32 → Int32 → Int32 → Int32 → Prop} {p0 jC eO eW dO fJ fY jD nG oE : Int32} {qR tJ : Nat → Int32} (h : wp_X9_again P p0 jC eO eW dO fJ fY jD nG oE qR tJ) (hq : ∀ o : Int32 × Int32 × Int32 × Int32 × Int32 × Int32 × Int32 × Int32 × Int32 × Int32, o = F_X9_again p0 jC eO eW dO fJ fY jD nG oE qR tJ → P o.1 o.2.1 o.2.2.1 o.2.2.2.1 o.2.2.2.2.1 o.2.2.2.2.2.1 o.2.2.2.2.2.2.1 o.2.2.2.2.2.2.2.1 o.2.2.2.2.2.2.2.2.1 o.2.2.2.2.2.2.2.2.2 → Q o.1 o.2.1 o.2.2.1 o.2.2.2.1 o.2.2.2.2.1 o.2.2.2.2.2.1 o.2.2.2.2.2.2.1 o.2.2.2.2.2.2.2.1 o.2.2.2.2.2.2.2.2.1 o.2.2.2.2.2.2.2.2.2) : wp_X9_again Q p0 jC eO eW dO fJ fY jD nG oE qR tJ := by
  rw [F_X9_again] at hq
  refine du_X4_fetch h ?_
  intro h
  refine And.intro (And.left h) ?_
  have h := And.right h
  have q9 := hq _ rfl
  dsimp only at q9
  exact q9 h
theorem du_X9_again {P Q : Int32 → Int32 → Int32 → Int32 → Int32 → Int32 → Int32 → Int32 → Int32 → Int32 → Prop} {p0 jC eO eW dO fJ fY jD nG oE : Int32} {qR tJ : Nat → Int32} (h : wp_X9_again P p0 jC eO eW dO fJ fY jD nG oE qR tJ) (hq : P (F_X9_again p0 jC eO eW dO fJ fY jD nG oE qR tJ).1 (F_X9_again p0 jC eO eW dO fJ fY jD nG oE qR tJ).2.1 (F_X9_again p0 jC eO eW dO fJ fY jD nG oE qR tJ).2.2.1 (F_X9_again p0 jC eO eW dO fJ fY jD nG oE qR tJ).2.2.2.1 (F_X9_again p0 jC eO eW dO fJ fY jD nG oE qR tJ).2.2.2.2.1 (F_X9_again p0 jC eO eW dO fJ fY jD nG oE qR tJ).2.2.2.2.2.1 (F_X9_again p0 jC eO eW dO fJ fY jD nG oE qR tJ).2.2.2.2.2.2.1 (F_X9_again p0 jC eO eW dO fJ fY jD nG oE qR tJ).2.2.2.2.2.2.2.1 (F_X9_again p0 jC eO eW dO fJ fY jD nG oE qR tJ).2.2.2.2.2.2.2.2.1 (F_X9_again p0 jC eO eW dO fJ fY jD nG oE qR tJ).2.2.2.2.2.2.2.2.2 → Q (F_X9_again p0 jC eO eW dO fJ fY jD nG oE qR tJ).1 (F_X9_again p0 jC eO eW dO fJ fY jD nG oE qR tJ).2.1 (F_X9_again p0 jC eO eW dO fJ fY jD nG oE qR tJ).2.2.1 (F_X9_again p0 jC eO eW dO fJ fY jD nG oE qR tJ).2.2.2.1 (F_X9_again p0 jC eO eW dO fJ fY jD nG oE qR tJ).2.2.2.2.1 (F_X9_again p0 jC eO eW dO fJ fY jD nG oE qR tJ).2.2.2.2.2.1 (F_X9_again p0 jC eO eW dO fJ fY jD nG oE qR tJ).2.2.2.2.2.2.1 (F_X9_again p0 jC eO eW dO fJ fY jD nG oE qR tJ).2.2.2.2.2.2.2.1 (F_X9_again p0 jC eO eW dO fJ fY jD nG oE qR tJ).2.2.2.2.2.2.2.2.1 (F_X9_again p0 jC eO eW dO fJ fY jD nG oE qR tJ).2.2.2.2.2.2.2.2.2) : wp_X9_again Q p0 jC eO eW dO fJ fY jD nG oE qR tJ := dt_X9_again h (fun o eo => by rw [eo]; exact hq)
theorem dw_X9_again {Q : Int32 → Int32 → Int32 → Int32 → Int32 → Int32 → Int32 → Int32 → Int32 → Int32 → Prop} {p0 jC eO eW dO fJ fY jD nG oE : Int32} {qR tJ : Nat → Int32} (h : wp_X9_again (fun o0 o1 o2 o3 o4 o5 o6 o7 o8 o9 => (o0, o1, o2, o3, o4, o5, o6, o7, o8, o9) = F_X9_again p0 jC eO eW dO fJ fY jD nG oE qR tJ → Q o0 o1 o2 o3 o4 o5 o6 o7 o8 o9) p0 jC eO eW dO fJ fY jD nG oE qR tJ) : wp_X9_again Q p0 jC eO eW dO fJ fY jD nG oE qR tJ := dt_X9_again h (fun o eo hp => hp eo)
noncomputable def F_X10_valueOf (p0 aR aE bJ aW : Int32) (m_x jA pY oY pR : Nat → Int32) : Int32 := if p0 = 100 then (F_X10_far aR aE m_x oY) else (if p0 = 107 then aW else (if p0 = 115 then aE else (if p0 = 117 then (F_X10_above aR aE jA pR) else (if p0 = 119 then (pY aR.toNatClampNeg) else (if p0 = 121 then (jA aR.toNatClampNeg) else bJ)))))
set_option maxHeartbeats 200000 in
set_option maxRecDepth 10000 in
theorem dt_X10_valueOf {P Q : Int32 → Prop} {p0 aR aE bJ aW : Int32} {m_x jA pY oY pR : Nat → Int32} (h : wp_X10_valueOf P p0 aR aE bJ aW m_x jA pY oY pR) (hq : ∀ o : Int32, o = F_X10_valueOf p0 aR aE bJ aW m_x jA pY oY pR → P o → Q o) : wp_X10_valueOf Q p0 aR aE bJ aW m_x jA pY oY pR := by
  rw [F_X10_valueOf] at hq
  refine (And.intro (fun c1 => ?_) (And.intro (fun c2 => ?_) (And.intro (fun c3 => ?_) (And.intro (fun c4 => ?_) (And.intro (fun c5 => ?_) (And.intro (fun c6 => ?_) (fun c1 c2 c3 c4 c5 c6 => ?_)))))))
  · have h := And.left h c1
    rw [if_pos c1] at hq
    refine du_X10_far h ?_
    intro h
    have q9 := hq _ rfl
    exact q9 h
  · have h := And.left (And.right h) c2
    rw [if_neg (fun e9 => absurd (e9.symm.trans c2) (by decide)), if_pos c2] at hq
    have q9 := hq _ rfl
    exact q9 h
  · have h := And.left (And.right (And.right h)) c3
    rw [if_neg (fun e9 => absurd (e9.symm.trans c3) (by decide)), if_neg (fun e9 => absurd (e9.symm.trans c3) (by decide)), if_pos c3] at hq
    have q9 := hq _ rfl
    exact q9 h
  · have h := And.left (And.right (And.right (And.right h))) c4
    rw [if_neg (fun e9 => absurd (e9.symm.trans c4) (by decide)), if_neg (fun e9 => absurd (e9.symm.trans c4) (by decide)), if_neg (fun e9 => absurd (e9.symm.trans c4) (by decide)), if_pos c4] at hq
    refine du_X10_above h ?_
    intro h
    have q9 := hq _ rfl
    exact q9 h
  · have h := And.left (And.right (And.right (And.right (And.right h)))) c5
    rw [if_neg (fun e9 => absurd (e9.symm.trans c5) (by decide)), if_neg (fun e9 => absurd (e9.symm.trans c5) (by decide)), if_neg (fun e9 => absurd (e9.symm.trans c5) (by decide)), if_neg (fun e9 => absurd (e9.symm.trans c5) (by decide)), if_pos c5] at hq
    refine And.intro (And.left h) ?_
    have h := And.right h
    have q9 := hq _ rfl
    exact q9 h
  · have h := And.left (And.right (And.right (And.right (And.right (And.right h))))) c6
    rw [if_neg (fun e9 => absurd (e9.symm.trans c6) (by decide)), if_neg (fun e9 => absurd (e9.symm.trans c6) (by decide)), if_neg (fun e9 => absurd (e9.symm.trans c6) (by decide)), if_neg (fun e9 => absurd (e9.symm.trans c6) (by decide)), if_neg (fun e9 => absurd (e9.symm.trans c6) (by decide)), if_pos c6] at hq
    refine And.intro (And.left h) ?_
    have h := And.right h
    have q9 := hq _ rfl
    exact q9 h
  · have h := And.right (And.right (And.right (And.right (And.right (And.right h))))) c1 c2 c3 c4 c5 c6
    rw [if_neg c1, if_neg c2, if_neg c3, if_neg c4, if_neg c5, if_neg c6] at hq
    have q9 := hq _ rfl
    exact q9 h
theorem du_X10_valueOf {P Q : Int32 → Prop} {p0 aR aE bJ aW : Int32} {m_x jA pY oY pR : Nat → Int32} (h : wp_X10_valueOf P p0 aR aE bJ aW m_x jA pY oY pR) (hq : P (F_X10_valueOf p0 aR aE bJ aW m_x jA pY oY pR) → Q (F_X10_valueOf p0 aR aE bJ aW m_x jA pY oY pR)) : wp_X10_valueOf Q p0 aR aE bJ aW m_x jA pY oY pR := dt_X10_valueOf h (fun o eo => by rw [eo]; exact hq)
theorem dw_X10_valueOf {Q : Int32 → Prop} {p0 aR aE bJ aW : Int32} {m_x jA pY oY pR : Nat → Int32} (h : wp_X10_valueOf (fun o0 => o0 = F_X10_valueOf p0 aR aE bJ aW m_x jA pY oY pR → Q o0) p0 aR aE bJ aW m_x jA pY oY pR) : wp_X10_valueOf Q p0 aR aE bJ aW m_x jA pY oY pR := dt_X10_valueOf h (fun o eo hp => hp eo)
noncomputable def j_X10_which_31 {R : Type} (k5 : Int32 → Int32 → Int32 → R) (bW : Int32) (rD : Nat → Int32) (x2 x4 k0 k1 : Int32) : R := k5 x2 (k0 ||| k1) (x4 + 1)
noncomputable def bd_X10_which_5 (bW : Int32) (rD : Nat → Int32) (x2 c s : Int32) : Int32 := if (rD c.toNatClampNeg) = x2 then (j_X10_which_31 (fun q0 q1 q2 => q1) bW rD x2 c s (1 <<< (c &&& 31))) else (j_X10_which_31 (fun q0 q1 q2 => q1) bW rD x2 c s 0)
noncomputable def ex_X10_which_5 {R : Type} (po : Int32 → R) (bW : Int32) (rD : Nat → Int32) (x2 c s : Int32) : R := po s
set_option maxHeartbeats 200000 in
set_option maxRecDepth 10000 in
theorem dl_X10_which_5 {P Q : Int32 → Prop} {bW : Int32} {rD : Nat → Int32} {x2 a : Int32} {i : Nat} (hi0 : i < 2147483648) (hE : ∀ (c : Int32) (s : Int32), c = nI (i + (Int32.toInt bW - ((i : Nat) : Int)).toNat) → s = itr (bd_X10_which_5 bW rD x2) a i (Int32.toInt bW - ((i : Nat) : Int)).toNat → (P s) → (Q s)) : ∀ (n k : Nat) (c : Int32), c = nI (i + k) → k ≤ (Int32.toInt bW - ((i : Nat) : Int)).toNat → wb_X10_which_5 P bW rD n x2 (itr (bd_X10_which_5 bW rD x2) a i k) c → wb_X10_which_5 Q bW rD n x2 (itr (bd_X10_which_5 bW rD x2) a i k) c := by
  intro n
  induction n with
  | zero => intro k c hc hk h; exact False.elim h
  | succ n ih =>
    intro k c hc hk h
    have hr := tp_r bW
    have hi : Int32.toInt c = ((i + k : Nat) : Int) := by rw [hc]; exact nI_toInt (by omega)
    refine And.intro (fun t0 => ?_) (fun t0 => ?_)
    · have h := And.left h t0
      have t1 := (fa_le _ _).mp t0
      have hk2 : k = (Int32.toInt bW - ((i : Nat) : Int)).toNat := by omega
      subst hk2
      exact hE _ _ hc rfl h
    · have h := And.right h t0
      have t1 := mt (fa_le _ _).mpr t0
      have hs : ∀ o : Int32, o = itr (bd_X10_which_5 bW rD x2) a i (k + 1) → wb_X10_which_5 P bW rD n x2 o (c + 1) → wb_X10_which_5 Q bW rD n x2 o (c + 1) := by
        intro o eo h9
        have q := ih (k + 1) (c + 1) (by rw [hc]; exact nI_1 _) (by omega)
        rw [← eo] at q
        exact q h9
      rw [itr_s, ← hc, bd_X10_which_5] at hs
      refine And.intro (And.left h) ?_
      have h := And.right h
      refine ae ?_
      have h := h _ rfl
      refine And.intro (fun c1 => ?_) (fun c1 => ?_)
      · have h := And.left h c1
        rw [if_neg c1] at hs
        rw [j_X10_which_31] at hs
        unfold ws_X10_which_31 at h ⊢
        refine ae ?_
        have h := h _ rfl
        refine ae ?_
        have h := h _ rfl
        have q9 := hs _ rfl
        exact q9 h
      · have h := And.right h c1
        rw [if_pos c1] at hs
        refine ae ?_
        have h := h _ rfl
        rw [j_X10_which_31] at hs
        unfold ws_X10_which_31 at h ⊢
        refine ae ?_
        have h := h _ rfl
        refine ae ?_
        have h := h _ rfl
        have q9 := hs _ rfl
        exact q9 h
noncomputable def F_X10_which (p1 bW : Int32) (rD : Nat → Int32) : Int32 := ex_X10_which_5 (fun o0 => o0) bW rD p1 (nI (0 + (Int32.toInt bW - ((0 : Nat) : Int)).toNat)) (itr (bd_X10_which_5 bW rD p1) 0 0 (Int32.toInt bW - ((0 : Nat) : Int)).toNat)
set_option maxHeartbeats 200000 in
set_option maxRecDepth 10000 in
theorem dt_X10_which {P Q : Int32 → Prop} {p1 bW : Int32} {rD : Nat → Int32} (h : wp_X10_which P p1 bW rD) (hq : ∀ o : Int32, o = F_X10_which p1 bW rD → P o → Q o) : wp_X10_which Q p1 bW rD := by
  rw [F_X10_which] at hq
  obtain ⟨n1, h⟩ := h
  refine ⟨n1, dl_X10_which_5 (a := 0) (i := 0) (by decide) ?_ n1 0 0 (by decide) (Nat.zero_le _) h⟩
  intro cc2 s3 ec4 es5 h
  rw [← ec4, ← es5, ex_X10_which_5] at hq
  have q9 := hq _ rfl
  exact q9 h
theorem du_X10_which {P Q : Int32 → Prop} {p1 bW : Int32} {rD : Nat → Int32} (h : wp_X10_which P p1 bW rD) (hq : P (F_X10_which p1 bW rD) → Q (F_X10_which p1 bW rD)) : wp_X10_which Q p1 bW rD := dt_X10_which h (fun o eo => by rw [eo]; exact hq)
theorem dw_X10_which {Q : Int32 → Prop} {p1 bW : Int32} {rD : Nat → Int32} (h : wp_X10_which (fun o0 => o0 = F_X10_which p1 bW rD → Q o0) p1 bW rD) : wp_X10_which Q p1 bW rD := dt_X10_which h (fun o eo hp => hp eo)
noncomputable def F_X10_has (p0 p1 : Int32) : Int32 := if ((p0 >>> (p1 &&& 31)) &&& 1) = 1 then 1 else 0
set_option maxHeartbeats 200000 in
set_option maxRecDepth 10000 in
theorem dt_X10_has {P Q : Int32 → Prop} {p0 p1 : Int32} (h : wp_X10_has P p0 p1) (hq : ∀ o : Int32, o = F_X10_has p0 p1 → P o → Q o) : wp_X10_has Q p0 p1 := by
  rw [F_X10_has] at hq
  refine ae ?_
  have h := h _ rfl
  refine ae ?_
  have h := h _ rfl
  refine And.intro (fun c1 => ?_) (fun c1 => ?_)
  · have h := And.left h c1
    rw [if_neg c1] at hq
    have q9 := hq _ rfl
    exact q9 h
  · have h := And.right h c1
    rw [if_pos c1] at hq
    have q9 := hq _ rfl
    exact q9 h
theorem du_X10_has {P Q : Int32 → Prop} {p0 p1 : Int32} (h : wp_X10_has P p0 p1) (hq : P (F_X10_has p0 p1) → Q (F_X10_has p0 p1)) : wp_X10_has Q p0 p1 := dt_X10_has h (fun o eo => by rw [eo]; exact hq)
theorem dw_X10_has {Q : Int32 → Prop} {p0 p1 : Int32} (h : wp_X10_has (fun o0 => o0 = F_X10_has p0 p1 → Q o0) p0 p1) : wp_X10_has Q p0 p1 := dt_X10_has h (fun o eo hp => hp eo)
noncomputable def F_X10_isBelow (p0 p1 : Int32) (m_x jA : Nat → Int32) : Int32 := if 1 < (if 0 ≤ ((m_x p1.toNatClampNeg) - (m_x p0.toNatClampNeg)) then ((m_x p1.toNatClampNeg) - (m_x p0.toNatClampNeg)) else 0 - ((m_x p1.toNatClampNeg) - (m_x p0.toNatClampNeg))) then 0 else (if (jA p1.toNatClampNeg) ≤ (jA p0.toNatClampNeg) then 0 else 1)
set_option maxHeartbeats 200000 in
set_option maxRecDepth 10000 in
theorem dt_X10_isBelow {P Q : Int32 → Prop} {p0 p1 : Int32} {m_x jA : Nat → Int32} (h : wp_X10_isBelow P p0 p1 m_x jA) (hq : ∀ o : Int32, o = F_X10_isBelow p0 p1 m_x jA → P o → Q o) : wp_X10_isBelow Q p0 p1 m_x jA := by
  rw [F_X10_isBelow] at hq
  refine And.intro (And.left h) ?_
  have h := And.right h
  refine ae ?_
  have h := h _ rfl
  refine And.intro (And.left h) ?_
  have h := And.right h
  refine ae ?_
  have h := h _ rfl
  refine ae ?_
  have h := h _ rfl
  refine And.intro (fun c1 => ?_) (fun c1 => ?_)
  · have h := And.left h c1
    rw [if_pos c1] at hq
    have q9 := hq _ rfl
    exact q9 h
  · have h := And.right h c1
    rw [if_neg c1] at hq
    refine And.intro (And.left h) ?_
    have h := And.right h
    refine ae ?_
    have h := h _ rfl
    refine And.intro (And.left h) ?_
    have h := And.right h
    refine And.intro (fun c2 => ?_) (fun c2 => ?_)
    · have h := And.left h c2
      rw [if_pos c2] at hq
      have q9 := hq _ rfl
      exact q9 h
    · have h := And.right h c2
      rw [if_neg c2] at hq
      have q9 := hq _ rfl
      exact q9 h
theorem du_X10_isBelow {P Q : Int32 → Prop} {p0 p1 : Int32} {m_x jA : Nat → Int32} (h : wp_X10_isBelow P p0 p1 m_x jA) (hq : P (F_X10_isBelow p0 p1 m_x jA) → Q (F_X10_isBelow p0 p1 m_x jA)) : wp_X10_isBelow Q p0 p1 m_x jA := dt_X10_isBelow h (fun o eo => by rw [eo]; exact hq)
theorem dw_X10_isBelow {Q : Int32 → Prop} {p0 p1 : Int32} {m_x jA : Nat → Int32} (h : wp_X10_isBelow (fun o0 => o0 = F_X10_isBelow p0 p1 m_x jA → Q o0) p0 p1 m_x jA) : wp_X10_isBelow Q p0 p1 m_x jA := dt_X10_isBelow h (fun o eo hp => hp eo)
noncomputable def j_X10_below_42 {R : Type} (k5 : Int32 → Int32 → Int32 → Int32 → R) (bW : Int32) (m_x jA : Nat → Int32) (x1 x2 x4 k0 k1 : Int32) : R := k5 x1 x2 (k0 ||| k1) (x4 + 1)
noncomputable def j_X10_below_41 {R : Type} (k5 : Int32 → Int32 → Int32 → Int32 → R) (bW : Int32) (m_x jA : Nat → Int32) (x1 x2 x4 k0 : Int32) : R := j_X10_below_42 k5 bW m_x jA x1 x2 x4 k0 0
noncomputable def bd_X10_below_5 (bW : Int32) (m_x jA : Nat → Int32) (x1 x2 c s : Int32) : Int32 := if (F_X10_has x2 c) = 0 then (j_X10_below_41 (fun q0 q1 q2 q3 => q2) bW m_x jA x1 x2 c s) else (if (F_X10_isBelow c x1 m_x jA) = 0 then (j_X10_below_41 (fun q0 q1 q2 q3 => q2) bW m_x jA x1 x2 c s) else (j_X10_below_42 (fun q0 q1 q2 q3 => q2) bW m_x jA x1 x2 c s (1 <<< (c &&& 31))))
noncomputable def ex_X10_below_5 {R : Type} (po : Int32 → R) (bW : Int32) (m_x jA : Nat → Int32) (x1 x2 c s : Int32) : R := po s
set_option maxHeartbeats 200000 in
set_option maxRecDepth 10000 in
theorem dl_X10_below_5 {P Q : Int32 → Prop} {bW : Int32} {m_x jA : Nat → Int32} {x1 x2 a : Int32} {i : Nat} (hi0 : i < 2147483648) (hE : ∀ (c : Int32) (s : Int32), c = nI (i + (Int32.toInt bW - ((i : Nat) : Int)).toNat) → s = itr (bd_X10_below_5 bW m_x jA x1 x2) a i (Int32.toInt bW - ((i : Nat) : Int)).toNat → (P s) → (Q s)) : ∀ (n k : Nat) (c : Int32), c = nI (i + k) → k ≤ (Int32.toInt bW - ((i : Nat) : Int)).toNat → wb_X10_below_5 P bW m_x jA n x1 x2 (itr (bd_X10_below_5 bW m_x jA x1 x2) a i k) c → wb_X10_below_5 Q bW m_x jA n x1 x2 (itr (bd_X10_below_5 bW m_x jA x1 x2) a i k) c := by
  intro n
  induction n with
  | zero => intro k c hc hk h; exact False.elim h
  | succ n ih =>
    intro k c hc hk h
    have hr := tp_r bW
    have hi : Int32.toInt c = ((i + k : Nat) : Int) := by rw [hc]; exact nI_toInt (by omega)
    refine And.intro (fun t0 => ?_) (fun t0 => ?_)
    · have h := And.left h t0
      have t1 := (fa_le _ _).mp t0
      have hk2 : k = (Int32.toInt bW - ((i : Nat) : Int)).toNat := by omega
      subst hk2
      exact hE _ _ hc rfl h
    · have h := And.right h t0
      have t1 := mt (fa_le _ _).mpr t0
      have hs : ∀ o : Int32, o = itr (bd_X10_below_5 bW m_x jA x1 x2) a i (k + 1) → wb_X10_below_5 P bW m_x jA n x1 x2 o (c + 1) → wb_X10_below_5 Q bW m_x jA n x1 x2 o (c + 1) := by
        intro o eo h9
        have q := ih (k + 1) (c + 1) (by rw [hc]; exact nI_1 _) (by omega)
        rw [← eo] at q
        exact q h9
      rw [itr_s, ← hc, bd_X10_below_5] at hs
      refine du_X10_has h ?_
      intro h
      refine And.intro (fun c1 => ?_) (fun c1 => ?_)
      · have h := And.left h c1
        rw [if_pos c1] at hs
        rw [j_X10_below_41] at hs
        unfold ws_X10_below_41 at h ⊢
        rw [j_X10_below_42] at hs
        unfold ws_X10_below_42 at h ⊢
        refine ae ?_
        have h := h _ rfl
        refine ae ?_
        have h := h _ rfl
        have q9 := hs _ rfl
        exact q9 h
      · have h := And.right h c1
        rw [if_neg c1] at hs
        refine du_X10_isBelow h ?_
        intro h
        refine And.intro (fun c2 => ?_) (fun c2 => ?_)
        · have h := And.left h c2
          rw [if_pos c2] at hs
          rw [j_X10_below_41] at hs
          unfold ws_X10_below_41 at h ⊢
          rw [j_X10_below_42] at hs
          unfold ws_X10_below_42 at h ⊢
          refine ae ?_
          have h := h _ rfl
          refine ae ?_
          have h := h _ rfl
          have q9 := hs _ rfl
          exact q9 h
        · have h := And.right h c2
          rw [if_neg c2] at hs
          refine ae ?_
          have h := h _ rfl
          rw [j_X10_below_42] at hs
          unfold ws_X10_below_42 at h ⊢
          refine ae ?_
          have h := h _ rfl
          refine ae ?_
          have h := h _ rfl
          have q9 := hs _ rfl
          exact q9 h
noncomputable def F_X10_below (p0 p1 bW : Int32) (m_x jA : Nat → Int32) : Int32 := ex_X10_below_5 (fun o0 => o0) bW m_x jA p0 p1 (nI (0 + (Int32.toInt bW - ((0 : Nat) : Int)).toNat)) (itr (bd_X10_below_5 bW m_x jA p0 p1) 0 0 (Int32.toInt bW - ((0 : Nat) : Int)).toNat)
set_option maxHeartbeats 200000 in
set_option maxRecDepth 10000 in
theorem dt_X10_below {P Q : Int32 → Prop} {p0 p1 bW : Int32} {m_x jA : Nat → Int32} (h : wp_X10_below P p0 p1 bW m_x jA) (hq : ∀ o : Int32, o = F_X10_below p0 p1 bW m_x jA → P o → Q o) : wp_X10_below Q p0 p1 bW m_x jA := by
  rw [F_X10_below] at hq
  obtain ⟨n1, h⟩ := h
  refine ⟨n1, dl_X10_below_5 (a := 0) (i := 0) (by decide) ?_ n1 0 0 (by decide) (Nat.zero_le _) h⟩
  intro cc2 s3 ec4 es5 h
  rw [← ec4, ← es5, ex_X10_below_5] at hq
  have q9 := hq _ rfl
  exact q9 h
theorem du_X10_below {P Q : Int32 → Prop} {p0 p1 bW : Int32} {m_x jA : Nat → Int32} (h : wp_X10_below P p0 p1 bW m_x jA) (hq : P (F_X10_below p0 p1 bW m_x jA) → Q (F_X10_below p0 p1 bW m_x jA)) : wp_X10_below Q p0 p1 bW m_x jA := dt_X10_below h (fun o eo => by rw [eo]; exact hq)
theorem dw_X10_below {Q : Int32 → Prop} {p0 p1 bW : Int32} {m_x jA : Nat → Int32} (h : wp_X10_below (fun o0 => o0 = F_X10_below p0 p1 bW m_x jA → Q o0) p0 p1 bW m_x jA) : wp_X10_below Q p0 p1 bW m_x jA := dt_X10_below h (fun o eo hp => hp eo)
noncomputable def F_X10_refusesMove (p0 aG : Int32) (rD : Nat → Int32) : Int32 := if (F_X10_isStanding p0 aG) = 0 then (-1) else (if (rD (17 : Int32).toNatClampNeg) = p0 then (-2) else 0)
set_option maxHeartbeats 200000 in
set_option maxRecDepth 10000 in
theorem dt_X10_refusesMove {P Q : Int32 → Prop} {p0 aG : Int32} {rD : Nat → Int32} (h : wp_X10_refusesMove P p0 aG rD) (hq : ∀ o : Int32, o = F_X10_refusesMove p0 aG rD → P o → Q o) : wp_X10_refusesMove Q p0 aG rD := by
  rw [F_X10_refusesMove] at hq
  refine du_X10_isStanding h ?_
  intro h
  refine And.intro (fun c1 => ?_) (fun c1 => ?_)
  · have h := And.left h c1
    rw [if_neg c1] at hq
    refine ae ?_
    have h := h _ rfl
    refine And.intro (fun c2 => ?_) (fun c2 => ?_)
    · have h := And.left h c2
      rw [if_neg c2] at hq
      have q9 := hq _ rfl
      exact q9 h
    · have h := And.right h c2
      rw [if_pos c2] at hq
      have q9 := hq _ rfl
      exact q9 h
  · have h := And.right h c1
    rw [if_pos c1] at hq
    have q9 := hq _ rfl
    exact q9 h
theorem du_X10_refusesMove {P Q : Int32 → Prop} {p0 aG : Int32} {rD : Nat → Int32} (h : wp_X10_refusesMove P p0 aG rD) (hq : P (F_X10_refusesMove p0 aG rD) → Q (F_X10_refusesMove p0 aG rD)) : wp_X10_refusesMove Q p0 aG rD := dt_X10_refusesMove h (fun o eo => by rw [eo]; exact hq)
theorem dw_X10_refusesMove {Q : Int32 → Prop} {p0 aG : Int32} {rD : Nat → Int32} (h : wp_X10_refusesMove (fun o0 => o0 = F_X10_refusesMove p0 aG rD → Q o0) p0 aG rD) : wp_X10_refusesMove Q p0 aG rD := dt_X10_refusesMove h (fun o eo hp => hp eo)
noncomputable def bd_X10_lay_2 (rD : Nat → Int32) (x2 c : Int32) (s : (Nat → Int32)) : (Nat → Int32) := (upd s (x2 + c).toNatClampNeg (rD c.toNatClampNeg))
noncomputable def ex_X10_lay_2 {R : Type} (po : (Nat → Int32) → R) (rD : Nat → Int32) (x2 c : Int32) (s : (Nat → Int32)) : R := po s
set_option maxHeartbeats 200000 in
set_option maxRecDepth 10000 in
theorem dl_X10_lay_2 {P Q : (Nat → Int32) → Prop} {rD : Nat → Int32} {x2 : Int32} {a : (Nat → Int32)} {i : Nat} (hi0 : i < 2147483648) (hE : ∀ (c : Int32) (s : (Nat → Int32)), c = nI (i + (Int32.toInt 21 - ((i : Nat) : Int)).toNat) → s = itr (bd_X10_lay_2 rD x2) a i (Int32.toInt 21 - ((i : Nat) : Int)).toNat → (P s) → (Q s)) : ∀ (n k : Nat) (c : Int32), c = nI (i + k) → k ≤ (Int32.toInt 21 - ((i : Nat) : Int)).toNat → wb_X10_lay_2 P rD n x2 c (itr (bd_X10_lay_2 rD x2) a i k) → wb_X10_lay_2 Q rD n x2 c (itr (bd_X10_lay_2 rD x2) a i k) := by
  intro n
  induction n with
  | zero => intro k c hc hk h; exact False.elim h
  | succ n ih =>
    intro k c hc hk h
    have hr := tp_r 21
    have hi : Int32.toInt c = ((i + k : Nat) : Int) := by rw [hc]; exact nI_toInt (by omega)
    refine And.intro (fun t0 => ?_) (fun t0 => ?_)
    · have h := And.left h t0
      have t1 := (fa_le _ _).mp t0
      have hk2 : k = (Int32.toInt 21 - ((i : Nat) : Int)).toNat := by omega
      subst hk2
      exact hE _ _ hc rfl h
    · have h := And.right h t0
      have t1 := mt (fa_le _ _).mpr t0
      have hs : ∀ o : (Nat → Int32), o = itr (bd_X10_lay_2 rD x2) a i (k + 1) → wb_X10_lay_2 P rD n x2 (c + 1) o → wb_X10_lay_2 Q rD n x2 (c + 1) o := by
        intro o eo h9
        have q := ih (k + 1) (c + 1) (by rw [hc]; exact nI_1 _) (by omega)
        rw [← eo] at q
        exact q h9
      rw [itr_s, ← hc, bd_X10_lay_2] at hs
      refine ae ?_
      have h := h _ rfl
      refine And.intro (And.left h) ?_
      have h := And.right h
      refine ae ?_
      have h := h _ rfl
      refine And.intro (And.left h) ?_
      have h := And.right h
      refine ae ?_
      have h := h _ rfl
      have q9 := hs _ rfl
      exact q9 h
noncomputable def F_X10_lay (p2 : Int32) (rD uQ : Nat → Int32) : (Nat → Int32) := ex_X10_lay_2 (fun o0 => o0) rD p2 (nI (0 + (Int32.toInt 21 - ((0 : Nat) : Int)).toNat)) (itr (bd_X10_lay_2 rD p2) uQ 0 (Int32.toInt 21 - ((0 : Nat) : Int)).toNat)
set_option maxHeartbeats 200000 in
set_option maxRecDepth 10000 in
theorem dt_X10_lay {P Q : (Nat → Int32) → Prop} {p2 : Int32} {rD uQ : Nat → Int32} (h : wp_X10_lay P p2 rD uQ) (hq : ∀ o : (Nat → Int32), o = F_X10_lay p2 rD uQ → P o → Q o) : wp_X10_lay Q p2 rD uQ := by
  rw [F_X10_lay] at hq
  obtain ⟨n1, h⟩ := h
  refine ⟨n1, dl_X10_lay_2 (a := uQ) (i := 0) (by decide) ?_ n1 0 0 (by decide) (Nat.zero_le _) h⟩
  intro cc2 s3 ec4 es5 h
  rw [← ec4, ← es5, ex_X10_lay_2] at hq
  have q9 := hq _ rfl
  exact q9 h
theorem du_X10_lay {P Q : (Nat → Int32) → Prop} {p2 : Int32} {rD uQ : Nat → Int32} (h : wp_X10_lay P p2 rD uQ) (hq : P (F_X10_lay p2 rD uQ) → Q (F_X10_lay p2 rD uQ)) : wp_X10_lay Q p2 rD uQ := dt_X10_lay h (fun o eo => by rw [eo]; exact hq)
theorem dw_X10_lay {Q : (Nat → Int32) → Prop} {p2 : Int32} {rD uQ : Nat → Int32} (h : wp_X10_lay (fun o0 => o0 = F_X10_lay p2 rD uQ → Q o0) p2 rD uQ) : wp_X10_lay Q p2 rD uQ := dt_X10_lay h (fun o eo hp => hp eo)
noncomputable def bd_X10_remember_11 (rD : Nat → Int32) (bT c : Int32) (s : (Nat → Int32)) : (Nat → Int32) := (upd s c.toNatClampNeg (s (c + 21).toNatClampNeg))
noncomputable def j_X10_remember_49 {R : Type} (po : Int32 → (Nat → Int32) → R) (rD : Nat → Int32) (bT : Int32) (uQ : Nat → Int32) : R := po (bT + 1) (F_X10_lay (21 * bT) rD uQ)
noncomputable def ex_X10_remember_11 {R : Type} (po : Int32 → (Nat → Int32) → R) (rD : Nat → Int32) (bT c : Int32) (s : (Nat → Int32)) : R := j_X10_remember_49 po rD (bT - 1) s
set_option maxHeartbeats 200000 in
set_option maxRecDepth 10000 in
theorem dl_X10_remember_11 {P Q : Int32 → (Nat → Int32) → Prop} {rD : Nat → Int32} {bT : Int32} {a : (Nat → Int32)} {i : Nat} (hi0 : i < 2147483648) (hE : ∀ (c : Int32) (s : (Nat → Int32)), c = nI (i + (Int32.toInt 231 - ((i : Nat) : Int)).toNat) → s = itr (bd_X10_remember_11 rD bT) a i (Int32.toInt 231 - ((i : Nat) : Int)).toNat → (∀ v_4 : Int32, v_4 = bT - 1 → ws_X10_remember_49 P rD v_4 s) → (∀ v_4 : Int32, v_4 = bT - 1 → ws_X10_remember_49 Q rD v_4 s)) : ∀ (n k : Nat) (c : Int32), c = nI (i + k) → k ≤ (Int32.toInt 231 - ((i : Nat) : Int)).toNat → wb_X10_remember_11 P rD n c bT (itr (bd_X10_remember_11 rD bT) a i k) → wb_X10_remember_11 Q rD n c bT (itr (bd_X10_remember_11 rD bT) a i k) := by
  intro n
  induction n with
  | zero => intro k c hc hk h; exact False.elim h
  | succ n ih =>
    intro k c hc hk h
    have hr := tp_r 231
    have hi : Int32.toInt c = ((i + k : Nat) : Int) := by rw [hc]; exact nI_toInt (by omega)
    refine And.intro (fun t0 => ?_) (fun t0 => ?_)
    · have h := And.left h t0
      have t1 := (fa_le _ _).mp t0
      have hk2 : k = (Int32.toInt 231 - ((i : Nat) : Int)).toNat := by omega
      subst hk2
      exact hE _ _ hc rfl h
    · have h := And.right h t0
      have t1 := mt (fa_le _ _).mpr t0
      have hs : ∀ o : (Nat → Int32), o = itr (bd_X10_remember_11 rD bT) a i (k + 1) → wb_X10_remember_11 P rD n (c + 1) bT o → wb_X10_remember_11 Q rD n (c + 1) bT o := by
        intro o eo h9
        have q := ih (k + 1) (c + 1) (by rw [hc]; exact nI_1 _) (by omega)
        rw [← eo] at q
        exact q h9
      rw [itr_s, ← hc, bd_X10_remember_11] at hs
      refine ae ?_
      have h := h _ rfl
      refine And.intro (And.left h) ?_
      have h := And.right h
      refine ae ?_
      have h := h _ rfl
      refine And.intro (And.left h) ?_
      have h := And.right h
      refine ae ?_
      have h := h _ rfl
      have q9 := hs _ rfl
      exact q9 h
noncomputable def F_X10_remember (bT : Int32) (rD uQ : Nat → Int32) : Int32 × (Nat → Int32) := if bT = 12 then (ex_X10_remember_11 (fun o0 o1 => (o0, o1)) rD bT (nI (0 + (Int32.toInt 231 - ((0 : Nat) : Int)).toNat)) (itr (bd_X10_remember_11 rD bT) uQ 0 (Int32.toInt 231 - ((0 : Nat) : Int)).toNat)) else (j_X10_remember_49 (fun o0 o1 => (o0, o1)) rD bT uQ)
set_option maxHeartbeats 200000 in
set_option maxRecDepth 10000 in
theorem dt_X10_remember {P Q : Int32 → (Nat → Int32) → Prop} {bT : Int32} {rD uQ : Nat → Int32} (h : wp_X10_remember P bT rD uQ) (hq : ∀ o : Int32 × (Nat → Int32), o = F_X10_remember bT rD uQ → P o.1 o.2 → Q o.1 o.2) : wp_X10_remember Q bT rD uQ := by
  rw [F_X10_remember] at hq
  refine And.intro (fun c1 => ?_) (fun c1 => ?_)
  · have h := And.left h c1
    rw [if_neg c1] at hq
    rw [j_X10_remember_49] at hq
    unfold ws_X10_remember_49 at h ⊢
    refine ae ?_
    have h := h _ rfl
    refine du_X10_lay h ?_
    intro h
    refine ae ?_
    have h := h _ rfl
    have q9 := hq _ rfl
    dsimp only at q9
    exact q9 h
  · have h := And.right h c1
    rw [if_pos c1] at hq
    obtain ⟨n2, h⟩ := h
    refine ⟨n2, dl_X10_remember_11 (a := uQ) (i := 0) (by decide) ?_ n2 0 0 (by decide) (Nat.zero_le _) h⟩
    intro cc3 s4 ec5 es6 h
    rw [← ec5, ← es6, ex_X10_remember_11] at hq
    refine ae ?_
    have h := h _ rfl
    rw [j_X10_remember_49] at hq
    unfold ws_X10_remember_49 at h ⊢
    refine ae ?_
    have h := h _ rfl
    refine du_X10_lay h ?_
    intro h
    refine ae ?_
    have h := h _ rfl
    have q9 := hq _ rfl
    dsimp only at q9
    exact q9 h
theorem du_X10_remember {P Q : Int32 → (Nat → Int32) → Prop} {bT : Int32} {rD uQ : Nat → Int32} (h : wp_X10_remember P bT rD uQ) (hq : P (F_X10_remember bT rD uQ).1 (F_X10_remember bT rD uQ).2 → Q (F_X10_remember bT rD uQ).1 (F_X10_remember bT rD uQ).2) : wp_X10_remember Q bT rD uQ := dt_X10_remember h (fun o eo => by rw [eo]; exact hq)
theorem dw_X10_remember {Q : Int32 → (Nat → Int32) → Prop} {bT : Int32} {rD uQ : Nat → Int32} (h : wp_X10_remember (fun o0 o1 => (o0, o1) = F_X10_remember bT rD uQ → Q o0 o1) bT rD uQ) : wp_X10_remember Q bT rD uQ := dt_X10_remember h (fun o eo hp => hp eo)
noncomputable def F_X10_moveOf (p0 p1 : Int32) (oY pX : Nat → Int32) : Int32 := if p0 = (-1) then 9 else (9 + ((pX (3 : Int32).toNatClampNeg) * (if 0 ≤ ((oY p0.toNatClampNeg) - (oY p1.toNatClampNeg)) then ((oY p0.toNatClampNeg) - (oY p1.toNatClampNeg)) else 0 - ((oY p0.toNatClampNeg) - (oY p1.toNatClampNeg)))))
set_option maxHeartbeats 200000 in
set_option maxRecDepth 10000 in
theorem dt_X10_moveOf {P Q : Int32 → Prop} {p0 p1 : Int32} {oY pX : Nat → Int32} (h : wp_X10_moveOf P p0 p1 oY pX) (hq : ∀ o : Int32, o = F_X10_moveOf p0 p1 oY pX → P o → Q o) : wp_X10_moveOf Q p0 p1 oY pX := by
  rw [F_X10_moveOf] at hq
  refine And.intro (fun c1 => ?_) (fun c1 => ?_)
  · have h := And.left h c1
    rw [if_neg c1] at hq
    refine ae ?_
    have h := h _ rfl
    refine And.intro (And.left h) ?_
    have h := And.right h
    refine ae ?_
    have h := h _ rfl
    refine And.intro (And.left h) ?_
    have h := And.right h
    refine ae ?_
    have h := h _ rfl
    refine ae ?_
    have h := h _ rfl
    have q9 := hq _ rfl
    exact q9 h
  · have h := And.right h c1
    rw [if_pos c1] at hq
    have q9 := hq _ rfl
    exact q9 h
theorem du_X10_moveOf {P Q : Int32 → Prop} {p0 p1 : Int32} {oY pX : Nat → Int32} (h : wp_X10_moveOf P p0 p1 oY pX) (hq : P (F_X10_moveOf p0 p1 oY pX) → Q (F_X10_moveOf p0 p1 oY pX)) : wp_X10_moveOf Q p0 p1 oY pX := dt_X10_moveOf h (fun o eo => by rw [eo]; exact hq)
theorem dw_X10_moveOf {Q : Int32 → Prop} {p0 p1 : Int32} {oY pX : Nat → Int32} (h : wp_X10_moveOf (fun o0 => o0 = F_X10_moveOf p0 p1 oY pX → Q o0) p0 p1 oY pX) : wp_X10_moveOf Q p0 p1 oY pX := dt_X10_moveOf h (fun o eo hp => hp eo)
noncomputable def j_X10_empty_35 {R : Type} (k4 : Int32 → Int32 → (Nat → Int32) → R) (bW x1 x2 : Int32) (rD : Nat → Int32) : R := k4 x1 (x2 + 1) rD
noncomputable def bd_X10_empty_4 (bW c : Int32) (s : Int32 × (Nat → Int32)) : Int32 × (Nat → Int32) := if (s.2 c.toNatClampNeg) = 1 then (j_X10_empty_35 (fun q0 q1 q2 => (q0, q2)) bW (s.1 + 1) c (upd s.2 c.toNatClampNeg 2)) else (j_X10_empty_35 (fun q0 q1 q2 => (q0, q2)) bW s.1 c s.2)
noncomputable def ex_X10_empty_4 {R : Type} (po : Int32 → (Nat → Int32) → R) (bW c : Int32) (s : Int32 × (Nat → Int32)) : R := po s.1 s.2
set_option maxHeartbeats 200000 in
set_option maxRecDepth 10000 in
theorem dl_X10_empty_4 {P Q : Int32 → (Nat → Int32) → Prop} {bW : Int32} {a : Int32 × (Nat → Int32)} {i : Nat} (hi0 : i < 2147483648) (hE : ∀ (c : Int32) (s : Int32 × (Nat → Int32)), c = nI (i + (Int32.toInt bW - ((i : Nat) : Int)).toNat) → s = itr (bd_X10_empty_4 bW) a i (Int32.toInt bW - ((i : Nat) : Int)).toNat → (P s.1 s.2) → (Q s.1 s.2)) : ∀ (n k : Nat) (c : Int32), c = nI (i + k) → k ≤ (Int32.toInt bW - ((i : Nat) : Int)).toNat → wb_X10_empty_4 P bW n (itr (bd_X10_empty_4 bW) a i k).1 c (itr (bd_X10_empty_4 bW) a i k).2 → wb_X10_empty_4 Q bW n (itr (bd_X10_empty_4 bW) a i k).1 c (itr (bd_X10_empty_4 bW) a i k).2 := by
  intro n
  induction n with
  | zero => intro k c hc hk h; exact False.elim h
  | succ n ih =>
    intro k c hc hk h
    have hr := tp_r bW
    have hi : Int32.toInt c = ((i + k : Nat) : Int) := by rw [hc]; exact nI_toInt (by omega)
    refine And.intro (fun t0 => ?_) (fun t0 => ?_)
    · have h := And.left h t0
      have t1 := (fa_le _ _).mp t0
      have hk2 : k = (Int32.toInt bW - ((i : Nat) : Int)).toNat := by omega
      subst hk2
      exact hE _ _ hc rfl h
    · have h := And.right h t0
      have t1 := mt (fa_le _ _).mpr t0
      have hs : ∀ o : Int32 × (Nat → Int32), o = itr (bd_X10_empty_4 bW) a i (k + 1) → wb_X10_empty_4 P bW n o.1 (c + 1) o.2 → wb_X10_empty_4 Q bW n o.1 (c + 1) o.2 := by
        intro o eo h9
        have q := ih (k + 1) (c + 1) (by rw [hc]; exact nI_1 _) (by omega)
        rw [← eo] at q
        exact q h9
      rw [itr_s, ← hc, bd_X10_empty_4] at hs
      refine And.intro (And.left h) ?_
      have h := And.right h
      refine ae ?_
      have h := h _ rfl
      refine And.intro (fun c1 => ?_) (fun c1 => ?_)
      · have h := And.left h c1
        rw [if_pos c1] at hs
        refine And.intro (And.left h) ?_
        have h := And.right h
        refine ae ?_
        have h := h _ rfl
        rw [j_X10_empty_35] at hs
        unfold ws_X10_empty_35 at h ⊢
        refine ae ?_
        have h := h _ rfl
        have q9 := hs _ rfl
        dsimp only at q9
        exact q9 h
      · have h := And.right h c1
        rw [if_neg c1] at hs
        rw [j_X10_empty_35] at hs
        unfold ws_X10_empty_35 at h ⊢
        refine ae ?_
        have h := h _ rfl
        have q9 := hs _ rfl
        dsimp only at q9
        exact q9 h
noncomputable def F_X10_empty (bW : Int32) (rD : Nat → Int32) : Int32 × (Nat → Int32) := ex_X10_empty_4 (fun o0 o1 => (o0, o1)) bW (nI (0 + (Int32.toInt bW - ((0 : Nat) : Int)).toNat)) (itr (bd_X10_empty_4 bW) (0, rD) 0 (Int32.toInt bW - ((0 : Nat) : Int)).toNat)
set_option maxHeartbeats 200000 in
set_option maxRecDepth 10000 in
theorem dt_X10_empty {P Q : Int32 → (Nat → Int32) → Prop} {bW : Int32} {rD : Nat → Int32} (h : wp_X10_empty P bW rD) (hq : ∀ o : Int32 × (Nat → Int32), o = F_X10_empty bW rD → P o.1 o.2 → Q o.1 o.2) : wp_X10_empty Q bW rD := by
  rw [F_X10_empty] at hq
  obtain ⟨n1, h⟩ := h
  refine ⟨n1, dl_X10_empty_4 (a := (0, rD)) (i := 0) (by decide) ?_ n1 0 0 (by decide) (Nat.zero_le _) h⟩
  intro cc2 s3 ec4 es5 h
  rw [← ec4, ← es5, ex_X10_empty_4] at hq
  have q9 := hq _ rfl
  dsimp only at q9
  exact q9 h
theorem du_X10_empty {P Q : Int32 → (Nat → Int32) → Prop} {bW : Int32} {rD : Nat → Int32} (h : wp_X10_empty P bW rD) (hq : P (F_X10_empty bW rD).1 (F_X10_empty bW rD).2 → Q (F_X10_empty bW rD).1 (F_X10_empty bW rD).2) : wp_X10_empty Q bW rD := dt_X10_empty h (fun o eo => by rw [eo]; exact hq)
theorem dw_X10_empty {Q : Int32 → (Nat → Int32) → Prop} {bW : Int32} {rD : Nat → Int32} (h : wp_X10_empty (fun o0 o1 => (o0, o1) = F_X10_empty bW rD → Q o0 o1) bW rD) : wp_X10_empty Q bW rD := dt_X10_empty h (fun o eo hp => hp eo)
noncomputable def F_X10_passBy (p0 : Int32) (rD : Nat → Int32) : (Nat → Int32) := (upd rD (20 : Int32).toNatClampNeg (if ((rD (20 : Int32).toNatClampNeg) + p0) < 9999 then ((rD (20 : Int32).toNatClampNeg) + p0) else 9999))
set_option maxHeartbeats 200000 in
set_option maxRecDepth 10000 in
theorem dt_X10_passBy {P Q : (Nat → Int32) → Prop} {p0 : Int32} {rD : Nat → Int32} (h : wp_X10_passBy P p0 rD) (hq : ∀ o : (Nat → Int32), o = F_X10_passBy p0 rD → P o → Q o) : wp_X10_passBy Q p0 rD := by
  rw [F_X10_passBy] at hq
  refine ae ?_
  have h := h _ rfl
  refine ae ?_
  have h := h _ rfl
  refine ae ?_
  have h := h _ rfl
  have q9 := hq _ rfl
  exact q9 h
theorem du_X10_passBy {P Q : (Nat → Int32) → Prop} {p0 : Int32} {rD : Nat → Int32} (h : wp_X10_passBy P p0 rD) (hq : P (F_X10_passBy p0 rD) → Q (F_X10_passBy p0 rD)) : wp_X10_passBy Q p0 rD := dt_X10_passBy h (fun o eo => by rw [eo]; exact hq)
theorem dw_X10_passBy {Q : (Nat → Int32) → Prop} {p0 : Int32} {rD : Nat → Int32} (h : wp_X10_passBy (fun o0 => o0 = F_X10_passBy p0 rD → Q o0) p0 rD) : wp_X10_passBy Q p0 rD := dt_X10_passBy h (fun o eo hp => hp eo)
noncomputable def j_X10_goMove_50 {R : Type} (po : Int32 → (Nat → Int32) → R) (bW : Int32) (oY pR pX : Nat → Int32) (x1 x2 : Int32) (rD : Nat → Int32) : R := po x2 (F_X10_passBy x2 (upd (F_X10_empty bW rD).2 (17 : Int32).toNatClampNeg x1))
noncomputable def F_X10_goMove (p0 bW : Int32) (rD oY pR pX : Nat → Int32) : Int32 × (Nat → Int32) := if (F_X10_which 1 bW rD) = 0 then (j_X10_goMove_50 (fun o0 o1 => (o0, o1)) bW oY pR pX p0 (F_X10_moveOf (rD (17 : Int32).toNatClampNeg) p0 oY pX) rD) else (if (rD (17 : Int32).toNatClampNeg) = (-1) then (j_X10_goMove_50 (fun o0 o1 => (o0, o1)) bW oY pR pX p0 (F_X10_moveOf (rD (17 : Int32).toNatClampNeg) p0 oY pX) rD) else (j_X10_goMove_50 (fun o0 o1 => (o0, o1)) bW oY pR pX p0 ((F_X10_moveOf (rD (17 : Int32).toNatClampNeg) p0 oY pX) + (F_X10_downOf (rD (17 : Int32).toNatClampNeg) pR)) rD))
set_option maxHeartbeats 200000 in
set_option maxRecDepth 10000 in
theorem dt_X10_goMove {P Q : Int32 → (Nat → Int32) → Prop} {p0 bW : Int32} {rD oY pR pX : Nat → Int32} (h : wp_X10_goMove P p0 bW rD oY pR pX) (hq : ∀ o : Int32 × (Nat → Int32), o = F_X10_goMove p0 bW rD oY pR pX → P o.1 o.2 → Q o.1 o.2) : wp_X10_goMove Q p0 bW rD oY pR pX := by
  rw [F_X10_goMove] at hq
  refine ae ?_
  have h := h _ rfl
  refine du_X10_moveOf h ?_
  intro h
  refine du_X10_which h ?_
  intro h
  refine And.intro (fun c1 => ?_) (fun c1 => ?_)
  · have h := And.left h c1
    rw [if_pos c1] at hq
    rw [j_X10_goMove_50] at hq
    unfold ws_X10_goMove_50 at h ⊢
    refine du_X10_empty h ?_
    intro h
    refine du_X10_passBy h ?_
    intro h
    have q9 := hq _ rfl
    dsimp only at q9
    exact q9 h
  · have h := And.right h c1
    rw [if_neg c1] at hq
    refine ae ?_
    have h := h _ rfl
    refine And.intro (fun c2 => ?_) (fun c2 => ?_)
    · have h := And.left h c2
      rw [if_pos c2] at hq
      rw [j_X10_goMove_50] at hq
      unfold ws_X10_goMove_50 at h ⊢
      refine du_X10_empty h ?_
      intro h
      refine du_X10_passBy h ?_
      intro h
      have q9 := hq _ rfl
      dsimp only at q9
      exact q9 h
    · have h := And.right h c2
      rw [if_neg c2] at hq
      refine ae ?_
      have h := h _ rfl
      refine du_X10_downOf h ?_
      intro h
      refine ae ?_
      have h := h _ rfl
      rw [j_X10_goMove_50] at hq
      unfold ws_X10_goMove_50 at h ⊢
      refine du_X10_empty h ?_
      intro h
      refine du_X10_passBy h ?_
      intro h
      have q9 := hq _ rfl
      dsimp only at q9
      exact q9 h
theorem du_X10_goMove {P Q : Int32 → (Nat → Int32) → Prop} {p0 bW : Int32} {rD oY pR pX : Nat → Int32} (h : wp_X10_goMove P p0 bW rD oY pR pX) (hq : P (F_X10_goMove p0 bW rD oY pR pX).1 (F_X10_goMove p0 bW rD oY pR pX).2 → Q (F_X10_goMove p0 bW rD oY pR pX).1 (F_X10_goMove p0 bW rD oY pR pX).2) : wp_X10_goMove Q p0 bW rD oY pR pX := dt_X10_goMove h (fun o eo => by rw [eo]; exact hq)
theorem dw_X10_goMove {Q : Int32 → (Nat → Int32) → Prop} {p0 bW : Int32} {rD oY pR pX : Nat → Int32} (h : wp_X10_goMove (fun o0 o1 => (o0, o1) = F_X10_goMove p0 bW rD oY pR pX → Q o0 o1) p0 bW rD oY pR pX) : wp_X10_goMove Q p0 bW rD oY pR pX := dt_X10_goMove h (fun o eo hp => hp eo)
noncomputable def F_X10_move (p0 bW aG dG bT : Int32) (rD oY pR pX uQ : Nat → Int32) : Int32 × Int32 × Int32 × (Nat → Int32) × (Nat → Int32) := if 0 ≤ (F_X10_refusesMove p0 aG rD) then ((F_X10_goMove p0 bW rD oY pR pX).1, 0, (F_X10_remember bT rD uQ).1, (F_X10_goMove p0 bW rD oY pR pX).2, (F_X10_remember bT rD uQ).2) else ((F_X10_refusesMove p0 aG rD), 0, bT, rD, uQ)
set_option maxHeartbeats 200000 in
set_option maxRecDepth 10000 in
theorem dt_X10_move {P Q : Int32 → Int32 → Int32 → (Nat → Int32) → (Nat → Int32) → Prop} {p0 bW aG dG bT : Int32} {rD oY pR pX uQ : Nat → Int32} (h : wp_X10_move P p0 bW aG dG bT rD oY pR pX uQ) (hq : ∀ o : Int32 × Int32 × Int32 × (Nat → Int32) × (Nat → Int32), o = F_X10_move p0 bW aG dG bT rD oY pR pX uQ → P o.1 o.2.1 o.2.2.1 o.2.2.2.1 o.2.2.2.2 → Q o.1 o.2.1 o.2.2.1 o.2.2.2.1 o.2.2.2.2) : wp_X10_move Q p0 bW aG dG bT rD oY pR pX uQ := by
  rw [F_X10_move] at hq
  refine du_X10_refusesMove h ?_
  intro h
  refine And.intro (fun c1 => ?_) (fun c1 => ?_)
  · have h := And.left h c1
    rw [if_pos c1] at hq
    refine du_X10_remember h ?_
    intro h
    refine du_X10_goMove h ?_
    intro h
    have q9 := hq _ rfl
    dsimp only at q9
    exact q9 h
  · have h := And.right h c1
    rw [if_neg c1] at hq
    have q9 := hq _ rfl
    dsimp only at q9
    exact q9 h
theorem du_X10_move {P Q : Int32 → Int32 → Int32 → (Nat → Int32) → (Nat → Int32) → Prop} {p0 bW aG dG bT : Int32} {rD oY pR pX uQ : Nat → Int32} (h : wp_X10_move P p0 bW aG dG bT rD oY pR pX uQ) (hq : P (F_X10_move p0 bW aG dG bT rD oY pR pX uQ).1 (F_X10_move p0 bW aG dG bT rD oY pR pX uQ).2.1 (F_X10_move p0 bW aG dG bT rD oY pR pX uQ).2.2.1 (F_X10_move p0 bW aG dG bT rD oY pR pX uQ).2.2.2.1 (F_X10_move p0 bW aG dG bT rD oY pR pX uQ).2.2.2.2 → Q (F_X10_move p0 bW aG dG bT rD oY pR pX uQ).1 (F_X10_move p0 bW aG dG bT rD oY pR pX uQ).2.1 (F_X10_move p0 bW aG dG bT rD oY pR pX uQ).2.2.1 (F_X10_move p0 bW aG dG bT rD oY pR pX uQ).2.2.2.1 (F_X10_move p0 bW aG dG bT rD oY pR pX uQ).2.2.2.2) : wp_X10_move Q p0 bW aG dG bT rD oY pR pX uQ := dt_X10_move h (fun o eo => by rw [eo]; exact hq)
theorem dw_X10_move {Q : Int32 → Int32 → Int32 → (Nat → Int32) → (Nat → Int32) → Prop} {p0 bW aG dG bT : Int32} {rD oY pR pX uQ : Nat → Int32} (h : wp_X10_move (fun o0 o1 o2 o3 o4 => (o0, o1, o2, o3, o4) = F_X10_move p0 bW aG dG bT rD oY pR pX uQ → Q o0 o1 o2 o3 o4) p0 bW aG dG bT rD oY pR pX uQ) : wp_X10_move Q p0 bW aG dG bT rD oY pR pX uQ := dt_X10_move h (fun o eo hp => hp eo)
noncomputable def F_X10_foot (p0 dG bT : Int32) (rD uQ : Nat → Int32) : Int32 × Int32 × Int32 × (Nat → Int32) × (Nat → Int32) := if (F_X10_in p0 0 1) = 0 then ((-1), 0, bT, rD, uQ) else ((rD (18 : Int32).toNatClampNeg), 0, (F_X10_remember bT rD uQ).1, (upd rD (18 : Int32).toNatClampNeg p0), (F_X10_remember bT rD uQ).2)
set_option maxHeartbeats 200000 in
set_option maxRecDepth 10000 in
theorem dt_X10_foot {P Q : Int32 → Int32 → Int32 → (Nat → Int32) → (Nat → Int32) → Prop} {p0 dG bT : Int32} {rD uQ : Nat → Int32} (h : wp_X10_foot P p0 dG bT rD uQ) (hq : ∀ o : Int32 × Int32 × Int32 × (Nat → Int32) × (Nat → Int32), o = F_X10_foot p0 dG bT rD uQ → P o.1 o.2.1 o.2.2.1 o.2.2.2.1 o.2.2.2.2 → Q o.1 o.2.1 o.2.2.1 o.2.2.2.1 o.2.2.2.2) : wp_X10_foot Q p0 dG bT rD uQ := by
  rw [F_X10_foot] at hq
  refine du_X10_in h ?_
  intro h
  refine And.intro (fun c1 => ?_) (fun c1 => ?_)
  · have h := And.left h c1
    rw [if_neg c1] at hq
    refine du_X10_remember h ?_
    intro h
    refine ae ?_
    have h := h _ rfl
    have q9 := hq _ rfl
    dsimp only at q9
    exact q9 h
  · have h := And.right h c1
    rw [if_pos c1] at hq
    have q9 := hq _ rfl
    dsimp only at q9
    exact q9 h
theorem du_X10_foot {P Q : Int32 → Int32 → Int32 → (Nat → Int32) → (Nat → Int32) → Prop} {p0 dG bT : Int32} {rD uQ : Nat → Int32} (h : wp_X10_foot P p0 dG bT rD uQ) (hq : P (F_X10_foot p0 dG bT rD uQ).1 (F_X10_foot p0 dG bT rD uQ).2.1 (F_X10_foot p0 dG bT rD uQ).2.2.1 (F_X10_foot p0 dG bT rD uQ).2.2.2.1 (F_X10_foot p0 dG bT rD uQ).2.2.2.2 → Q (F_X10_foot p0 dG bT rD uQ).1 (F_X10_foot p0 dG bT rD uQ).2.1 (F_X10_foot p0 dG bT rD uQ).2.2.1 (F_X10_foot p0 dG bT rD uQ).2.2.2.1 (F_X10_foot p0 dG bT rD uQ).2.2.2.2) : wp_X10_foot Q p0 dG bT rD uQ := dt_X10_foot h (fun o eo => by rw [eo]; exact hq)
theorem dw_X10_foot {Q : Int32 → Int32 → Int32 → (Nat → Int32) → (Nat → Int32) → Prop} {p0 dG bT : Int32} {rD uQ : Nat → Int32} (h : wp_X10_foot (fun o0 o1 o2 o3 o4 => (o0, o1, o2, o3, o4) = F_X10_foot p0 dG bT rD uQ → Q o0 o1 o2 o3 o4) p0 dG bT rD uQ) : wp_X10_foot Q p0 dG bT rD uQ := dt_X10_foot h (fun o eo hp => hp eo)
noncomputable def F_X10_refusesPick (p0 p1 bW : Int32) (rD m_x jA rW oY pR pX : Nat → Int32) : Int32 := if (F_X10_isFruit p0 bW) = 0 then (-1) else (if (F_X10_in p1 0 1) = 0 then (-1) else (if (rD p0.toNatClampNeg) = 0 then (if (rW p0.toNatClampNeg) ≤ (rD (19 : Int32).toNatClampNeg) then (if (rD (17 : Int32).toNatClampNeg) = (-1) then (-4) else (if (F_X10_isWithin p0 (rD (17 : Int32).toNatClampNeg) (F_X10_reachBy (rD (18 : Int32).toNatClampNeg) p1 pX) m_x jA oY pR) = 0 then (-4) else (if (F_J6_bitCount_0f7a4 (F_X10_which 1 bW rD)) < (pX (4 : Int32).toNatClampNeg) then 0 else (-5)))) else (-3)) else (-2)))
set_option maxHeartbeats 200000 in
set_option maxRecDepth 10000 in
theorem dt_X10_refusesPick {P Q : Int32 → Prop} {p0 p1 bW : Int32} {rD m_x jA rW oY pR pX : Nat → Int32} (h : wp_X10_refusesPick P p0 p1 bW rD m_x jA rW oY pR pX) (hq : ∀ o : Int32, o = F_X10_refusesPick p0 p1 bW rD m_x jA rW oY pR pX → P o → Q o) : wp_X10_refusesPick Q p0 p1 bW rD m_x jA rW oY pR pX := by
  rw [F_X10_refusesPick] at hq
  refine du_X10_isFruit h ?_
  intro h
  refine And.intro (fun c1 => ?_) (fun c1 => ?_)
  · have h := And.left h c1
    rw [if_pos c1] at hq
    have q9 := hq _ rfl
    exact q9 h
  · have h := And.right h c1
    rw [if_neg c1] at hq
    refine du_X10_in h ?_
    intro h
    refine And.intro (fun c2 => ?_) (fun c2 => ?_)
    · have h := And.left h c2
      rw [if_neg c2] at hq
      refine And.intro (And.left h) ?_
      have h := And.right h
      refine And.intro (fun c3 => ?_) (fun c3 => ?_)
      · have h := And.left h c3
        rw [if_pos c3] at hq
        refine And.intro (And.left h) ?_
        have h := And.right h
        refine ae ?_
        have h := h _ rfl
        refine And.intro (fun c4 => ?_) (fun c4 => ?_)
        · have h := And.left h c4
          rw [if_pos c4] at hq
          refine ae ?_
          have h := h _ rfl
          refine And.intro (fun c5 => ?_) (fun c5 => ?_)
          · have h := And.left h c5
            rw [if_pos c5] at hq
            have q9 := hq _ rfl
            exact q9 h
          · have h := And.right h c5
            rw [if_neg c5] at hq
            refine ae ?_
            have h := h _ rfl
            refine ae ?_
            have h := h _ rfl
            refine du_X10_reachBy h ?_
            intro h
            refine du_X10_isWithin h ?_
            intro h
            refine And.intro (fun c6 => ?_) (fun c6 => ?_)
            · have h := And.left h c6
              rw [if_neg c6] at hq
              refine du_X10_which h ?_
              intro h
              refine du_J6_bitCount_0f7a4 h ?_
              intro h
              refine And.intro (fun c7 => ?_) (fun c7 => ?_)
              · have h := And.left h c7
                rw [if_pos c7] at hq
                have q9 := hq _ rfl
                exact q9 h
              · have h := And.right h c7
                rw [if_neg c7] at hq
                have q9 := hq _ rfl
                exact q9 h
            · have h := And.right h c6
              rw [if_pos c6] at hq
              have q9 := hq _ rfl
              exact q9 h
        · have h := And.right h c4
          rw [if_neg c4] at hq
          have q9 := hq _ rfl
          exact q9 h
      · have h := And.right h c3
        rw [if_neg c3] at hq
        have q9 := hq _ rfl
        exact q9 h
    · have h := And.right h c2
      rw [if_pos c2] at hq
      have q9 := hq _ rfl
      exact q9 h
theorem du_X10_refusesPick {P Q : Int32 → Prop} {p0 p1 bW : Int32} {rD m_x jA rW oY pR pX : Nat → Int32} (h : wp_X10_refusesPick P p0 p1 bW rD m_x jA rW oY pR pX) (hq : P (F_X10_refusesPick p0 p1 bW rD m_x jA rW oY pR pX) → Q (F_X10_refusesPick p0 p1 bW rD m_x jA rW oY pR pX)) : wp_X10_refusesPick Q p0 p1 bW rD m_x jA rW oY pR pX := dt_X10_refusesPick h (fun o eo => by rw [eo]; exact hq)
theorem dw_X10_refusesPick {Q : Int32 → Prop} {p0 p1 bW : Int32} {rD m_x jA rW oY pR pX : Nat → Int32} (h : wp_X10_refusesPick (fun o0 => o0 = F_X10_refusesPick p0 p1 bW rD m_x jA rW oY pR pX → Q o0) p0 p1 bW rD m_x jA rW oY pR pX) : wp_X10_refusesPick Q p0 p1 bW rD m_x jA rW oY pR pX := dt_X10_refusesPick h (fun o eo hp => hp eo)
noncomputable def F_X10_begin_b2 (p1 p2 : Int32) (jY : Nat) (m_length qG uW eY : Int32) : Nat × Int32 × Int32 × Int32 × Int32 := (2, p1, p2, 0, (-1))
set_option maxHeartbeats 200000 in
set_option maxRecDepth 10000 in
theorem dt_X10_begin_b2 {P Q : Nat → Int32 → Int32 → Int32 → Int32 → Prop} {p1 p2 : Int32} {jY : Nat} {m_length qG uW eY : Int32} (h : wp_X10_begin_b2 P p1 p2 jY m_length qG uW eY) (hq : ∀ o : Nat × Int32 × Int32 × Int32 × Int32, o = F_X10_begin_b2 p1 p2 jY m_length qG uW eY → P o.1 o.2.1 o.2.2.1 o.2.2.2.1 o.2.2.2.2 → Q o.1 o.2.1 o.2.2.1 o.2.2.2.1 o.2.2.2.2) : wp_X10_begin_b2 Q p1 p2 jY m_length qG uW eY := by
  rw [F_X10_begin_b2] at hq
  have q9 := hq _ rfl
  dsimp only at q9
  exact q9 h
theorem du_X10_begin_b2 {P Q : Nat → Int32 → Int32 → Int32 → Int32 → Prop} {p1 p2 : Int32} {jY : Nat} {m_length qG uW eY : Int32} (h : wp_X10_begin_b2 P p1 p2 jY m_length qG uW eY) (hq : P (F_X10_begin_b2 p1 p2 jY m_length qG uW eY).1 (F_X10_begin_b2 p1 p2 jY m_length qG uW eY).2.1 (F_X10_begin_b2 p1 p2 jY m_length qG uW eY).2.2.1 (F_X10_begin_b2 p1 p2 jY m_length qG uW eY).2.2.2.1 (F_X10_begin_b2 p1 p2 jY m_length qG uW eY).2.2.2.2 → Q (F_X10_begin_b2 p1 p2 jY m_length qG uW eY).1 (F_X10_begin_b2 p1 p2 jY m_length qG uW eY).2.1 (F_X10_begin_b2 p1 p2 jY m_length qG uW eY).2.2.1 (F_X10_begin_b2 p1 p2 jY m_length qG uW eY).2.2.2.1 (F_X10_begin_b2 p1 p2 jY m_length qG uW eY).2.2.2.2) : wp_X10_begin_b2 Q p1 p2 jY m_length qG uW eY := dt_X10_begin_b2 h (fun o eo => by rw [eo]; exact hq)
theorem dw_X10_begin_b2 {Q : Nat → Int32 → Int32 → Int32 → Int32 → Prop} {p1 p2 : Int32} {jY : Nat} {m_length qG uW eY : Int32} (h : wp_X10_begin_b2 (fun o0 o1 o2 o3 o4 => (o0, o1, o2, o3, o4) = F_X10_begin_b2 p1 p2 jY m_length qG uW eY → Q o0 o1 o2 o3 o4) p1 p2 jY m_length qG uW eY) : wp_X10_begin_b2 Q p1 p2 jY m_length qG uW eY := dt_X10_begin_b2 h (fun o eo hp => hp eo)
noncomputable def F_X10_canDown (bW : Int32) (rD : Nat → Int32) : Int32 := if (rD (17 : Int32).toNatClampNeg) = (-1) then 0 else (if (F_X10_which 1 bW rD) = 0 then 0 else 1)
set_option maxHeartbeats 200000 in
set_option maxRecDepth 10000 in
theorem dt_X10_canDown {P Q : Int32 → Prop} {bW : Int32} {rD : Nat → Int32} (h : wp_X10_canDown P bW rD) (hq : ∀ o : Int32, o = F_X10_canDown bW rD → P o → Q o) : wp_X10_canDown Q bW rD := by
  rw [F_X10_canDown] at hq
  refine ae ?_
  have h := h _ rfl
  refine And.intro (fun c1 => ?_) (fun c1 => ?_)
  · have h := And.left h c1
    rw [if_pos c1] at hq
    have q9 := hq _ rfl
    exact q9 h
  · have h := And.right h c1
    rw [if_neg c1] at hq
    refine du_X10_which h ?_
    intro h
    refine And.intro (fun c2 => ?_) (fun c2 => ?_)
    · have h := And.left h c2
      rw [if_pos c2] at hq
      have q9 := hq _ rfl
      exact q9 h
    · have h := And.right h c2
      rw [if_neg c2] at hq
      have q9 := hq _ rfl
      exact q9 h
theorem du_X10_canDown {P Q : Int32 → Prop} {bW : Int32} {rD : Nat → Int32} (h : wp_X10_canDown P bW rD) (hq : P (F_X10_canDown bW rD) → Q (F_X10_canDown bW rD)) : wp_X10_canDown Q bW rD := dt_X10_canDown h (fun o eo => by rw [eo]; exact hq)
theorem dw_X10_canDown {Q : Int32 → Prop} {bW : Int32} {rD : Nat → Int32} (h : wp_X10_canDown (fun o0 => o0 = F_X10_canDown bW rD → Q o0) bW rD) : wp_X10_canDown Q bW rD := dt_X10_canDown h (fun o eo hp => hp eo)
noncomputable def F_X10_goDown (bW : Int32) (rD pR : Nat → Int32) : Int32 × (Nat → Int32) := ((F_X10_empty bW (F_X10_passBy (F_X10_downOf (rD (17 : Int32).toNatClampNeg) pR) rD)).1, (F_X10_empty bW (F_X10_passBy (F_X10_downOf (rD (17 : Int32).toNatClampNeg) pR) rD)).2)
set_option maxHeartbeats 200000 in
set_option maxRecDepth 10000 in
theorem dt_X10_goDown {P Q : Int32 → (Nat → Int32) → Prop} {bW : Int32} {rD pR : Nat → Int32} (h : wp_X10_goDown P bW rD pR) (hq : ∀ o : Int32 × (Nat → Int32), o = F_X10_goDown bW rD pR → P o.1 o.2 → Q o.1 o.2) : wp_X10_goDown Q bW rD pR := by
  rw [F_X10_goDown] at hq
  refine ae ?_
  have h := h _ rfl
  refine du_X10_downOf h ?_
  intro h
  refine du_X10_passBy h ?_
  intro h
  refine du_X10_empty h ?_
  intro h
  have q9 := hq _ rfl
  dsimp only at q9
  exact q9 h
theorem du_X10_goDown {P Q : Int32 → (Nat → Int32) → Prop} {bW : Int32} {rD pR : Nat → Int32} (h : wp_X10_goDown P bW rD pR) (hq : P (F_X10_goDown bW rD pR).1 (F_X10_goDown bW rD pR).2 → Q (F_X10_goDown bW rD pR).1 (F_X10_goDown bW rD pR).2) : wp_X10_goDown Q bW rD pR := dt_X10_goDown h (fun o eo => by rw [eo]; exact hq)
theorem dw_X10_goDown {Q : Int32 → (Nat → Int32) → Prop} {bW : Int32} {rD pR : Nat → Int32} (h : wp_X10_goDown (fun o0 o1 => (o0, o1) = F_X10_goDown bW rD pR → Q o0 o1) bW rD pR) : wp_X10_goDown Q bW rD pR := dt_X10_goDown h (fun o eo hp => hp eo)
noncomputable def F_X10_down (bW dG bT : Int32) (rD pR uQ : Nat → Int32) : Int32 × Int32 × Int32 × (Nat → Int32) × (Nat → Int32) := if (F_X10_canDown bW rD) = 0 then ((-2), 0, bT, rD, uQ) else ((F_X10_goDown bW rD pR).1, 0, (F_X10_remember bT rD uQ).1, (F_X10_goDown bW rD pR).2, (F_X10_remember bT rD uQ).2)
set_option maxHeartbeats 200000 in
set_option maxRecDepth 10000 in
theorem dt_X10_down {P Q : Int32 → Int32 → Int32 → (Nat → Int32) → (Nat → Int32) → Prop} {bW dG bT : Int32} {rD pR uQ : Nat → Int32} (h : wp_X10_down P bW dG bT rD pR uQ) (hq : ∀ o : Int32 × Int32 × Int32 × (Nat → Int32) × (Nat → Int32), o = F_X10_down bW dG bT rD pR uQ → P o.1 o.2.1 o.2.2.1 o.2.2.2.1 o.2.2.2.2 → Q o.1 o.2.1 o.2.2.1 o.2.2.2.1 o.2.2.2.2) : wp_X10_down Q bW dG bT rD pR uQ := by
  rw [F_X10_down] at hq
  refine du_X10_canDown h ?_
  intro h
  refine And.intro (fun c1 => ?_) (fun c1 => ?_)
  · have h := And.left h c1
    rw [if_neg c1] at hq
    refine du_X10_remember h ?_
    intro h
    refine du_X10_goDown h ?_
    intro h
    have q9 := hq _ rfl
    dsimp only at q9
    exact q9 h
  · have h := And.right h c1
    rw [if_pos c1] at hq
    have q9 := hq _ rfl
    dsimp only at q9
    exact q9 h
theorem du_X10_down {P Q : Int32 → Int32 → Int32 → (Nat → Int32) → (Nat → Int32) → Prop} {bW dG bT : Int32} {rD pR uQ : Nat → Int32} (h : wp_X10_down P bW dG bT rD pR uQ) (hq : P (F_X10_down bW dG bT rD pR uQ).1 (F_X10_down bW dG bT rD pR uQ).2.1 (F_X10_down bW dG bT rD pR uQ).2.2.1 (F_X10_down bW dG bT rD pR uQ).2.2.2.1 (F_X10_down bW dG bT rD pR uQ).2.2.2.2 → Q (F_X10_down bW dG bT rD pR uQ).1 (F_X10_down bW dG bT rD pR uQ).2.1 (F_X10_down bW dG bT rD pR uQ).2.2.1 (F_X10_down bW dG bT rD pR uQ).2.2.2.1 (F_X10_down bW dG bT rD pR uQ).2.2.2.2) : wp_X10_down Q bW dG bT rD pR uQ := dt_X10_down h (fun o eo => by rw [eo]; exact hq)
theorem dw_X10_down {Q : Int32 → Int32 → Int32 → (Nat → Int32) → (Nat → Int32) → Prop} {bW dG bT : Int32} {rD pR uQ : Nat → Int32} (h : wp_X10_down (fun o0 o1 o2 o3 o4 => (o0, o1, o2, o3, o4) = F_X10_down bW dG bT rD pR uQ → Q o0 o1 o2 o3 o4) bW dG bT rD pR uQ) : wp_X10_down Q bW dG bT rD pR uQ := dt_X10_down h (fun o eo hp => hp eo)
noncomputable def j_X10_ripeOnes_30 {R : Type} (k4 : Int32 → Int32 → Int32 → R) (bW : Int32) (rW : Nat → Int32) (x1 x3 k0 k1 : Int32) : R := k4 x1 (k0 ||| k1) (x3 + 1)
noncomputable def bd_X10_ripeOnes_4 (bW : Int32) (rW : Nat → Int32) (x1 c s : Int32) : Int32 := if x1 < (rW c.toNatClampNeg) then (j_X10_ripeOnes_30 (fun q0 q1 q2 => q1) bW rW x1 c s 0) else (j_X10_ripeOnes_30 (fun q0 q1 q2 => q1) bW rW x1 c s (1 <<< (c &&& 31)))
noncomputable def ex_X10_ripeOnes_4 {R : Type} (po : Int32 → R) (bW : Int32) (rW : Nat → Int32) (x1 c s : Int32) : R := po s
set_option maxHeartbeats 200000 in
set_option maxRecDepth 10000 in
theorem dl_X10_ripeOnes_4 {P Q : Int32 → Prop} {bW : Int32} {rW : Nat → Int32} {x1 a : Int32} {i : Nat} (hi0 : i < 2147483648) (hE : ∀ (c : Int32) (s : Int32), c = nI (i + (Int32.toInt bW - ((i : Nat) : Int)).toNat) → s = itr (bd_X10_ripeOnes_4 bW rW x1) a i (Int32.toInt bW - ((i : Nat) : Int)).toNat → (P s) → (Q s)) : ∀ (n k : Nat) (c : Int32), c = nI (i + k) → k ≤ (Int32.toInt bW - ((i : Nat) : Int)).toNat → wb_X10_ripeOnes_4 P bW rW n x1 (itr (bd_X10_ripeOnes_4 bW rW x1) a i k) c → wb_X10_ripeOnes_4 Q bW rW n x1 (itr (bd_X10_ripeOnes_4 bW rW x1) a i k) c := by
  intro n
  induction n with
  | zero => intro k c hc hk h; exact False.elim h
  | succ n ih =>
    intro k c hc hk h
    have hr := tp_r bW
    have hi : Int32.toInt c = ((i + k : Nat) : Int) := by rw [hc]; exact nI_toInt (by omega)
    refine And.intro (fun t0 => ?_) (fun t0 => ?_)
    · have h := And.left h t0
      have t1 := (fa_le _ _).mp t0
      have hk2 : k = (Int32.toInt bW - ((i : Nat) : Int)).toNat := by omega
      subst hk2
      exact hE _ _ hc rfl h
    · have h := And.right h t0
      have t1 := mt (fa_le _ _).mpr t0
      have hs : ∀ o : Int32, o = itr (bd_X10_ripeOnes_4 bW rW x1) a i (k + 1) → wb_X10_ripeOnes_4 P bW rW n x1 o (c + 1) → wb_X10_ripeOnes_4 Q bW rW n x1 o (c + 1) := by
        intro o eo h9
        have q := ih (k + 1) (c + 1) (by rw [hc]; exact nI_1 _) (by omega)
        rw [← eo] at q
        exact q h9
      rw [itr_s, ← hc, bd_X10_ripeOnes_4] at hs
      refine And.intro (And.left h) ?_
      have h := And.right h
      refine ae ?_
      have h := h _ rfl
      refine And.intro (fun c1 => ?_) (fun c1 => ?_)
      · have h := And.left h c1
        rw [if_pos c1] at hs
        rw [j_X10_ripeOnes_30] at hs
        unfold ws_X10_ripeOnes_30 at h ⊢
        refine ae ?_
        have h := h _ rfl
        refine ae ?_
        have h := h _ rfl
        have q9 := hs _ rfl
        exact q9 h
      · have h := And.right h c1
        rw [if_neg c1] at hs
        refine ae ?_
        have h := h _ rfl
        rw [j_X10_ripeOnes_30] at hs
        unfold ws_X10_ripeOnes_30 at h ⊢
        refine ae ?_
        have h := h _ rfl
        refine ae ?_
        have h := h _ rfl
        have q9 := hs _ rfl
        exact q9 h
noncomputable def F_X10_ripeOnes (p0 bW : Int32) (rW : Nat → Int32) : Int32 := ex_X10_ripeOnes_4 (fun o0 => o0) bW rW p0 (nI (0 + (Int32.toInt bW - ((0 : Nat) : Int)).toNat)) (itr (bd_X10_ripeOnes_4 bW rW p0) 0 0 (Int32.toInt bW - ((0 : Nat) : Int)).toNat)
set_option maxHeartbeats 200000 in
set_option maxRecDepth 10000 in
theorem dt_X10_ripeOnes {P Q : Int32 → Prop} {p0 bW : Int32} {rW : Nat → Int32} (h : wp_X10_ripeOnes P p0 bW rW) (hq : ∀ o : Int32, o = F_X10_ripeOnes p0 bW rW → P o → Q o) : wp_X10_ripeOnes Q p0 bW rW := by
  rw [F_X10_ripeOnes] at hq
  obtain ⟨n1, h⟩ := h
  refine ⟨n1, dl_X10_ripeOnes_4 (a := 0) (i := 0) (by decide) ?_ n1 0 0 (by decide) (Nat.zero_le _) h⟩
  intro cc2 s3 ec4 es5 h
  rw [← ec4, ← es5, ex_X10_ripeOnes_4] at hq
  have q9 := hq _ rfl
  exact q9 h
theorem du_X10_ripeOnes {P Q : Int32 → Prop} {p0 bW : Int32} {rW : Nat → Int32} (h : wp_X10_ripeOnes P p0 bW rW) (hq : P (F_X10_ripeOnes p0 bW rW) → Q (F_X10_ripeOnes p0 bW rW)) : wp_X10_ripeOnes Q p0 bW rW := dt_X10_ripeOnes h (fun o eo => by rw [eo]; exact hq)
theorem dw_X10_ripeOnes {Q : Int32 → Prop} {p0 bW : Int32} {rW : Nat → Int32} (h : wp_X10_ripeOnes (fun o0 => o0 = F_X10_ripeOnes p0 bW rW → Q o0) p0 bW rW) : wp_X10_ripeOnes Q p0 bW rW := dt_X10_ripeOnes h (fun o eo hp => hp eo)
noncomputable def F_X10_byHand (p0 bW : Int32) (rD m_x jA oY pR pX : Nat → Int32) : Int32 := (F_X10_reachedFrom p0 (rD (18 : Int32).toNatClampNeg) 0 bW m_x jA oY pR pX)
set_option maxHeartbeats 200000 in
set_option maxRecDepth 10000 in
theorem dt_X10_byHand {P Q : Int32 → Prop} {p0 bW : Int32} {rD m_x jA oY pR pX : Nat → Int32} (h : wp_X10_byHand P p0 bW rD m_x jA oY pR pX) (hq : ∀ o : Int32, o = F_X10_byHand p0 bW rD m_x jA oY pR pX → P o → Q o) : wp_X10_byHand Q p0 bW rD m_x jA oY pR pX := by
  rw [F_X10_byHand] at hq
  refine ae ?_
  have h := h _ rfl
  refine du_X10_reachedFrom h ?_
  intro h
  have q9 := hq _ rfl
  exact q9 h
theorem du_X10_byHand {P Q : Int32 → Prop} {p0 bW : Int32} {rD m_x jA oY pR pX : Nat → Int32} (h : wp_X10_byHand P p0 bW rD m_x jA oY pR pX) (hq : P (F_X10_byHand p0 bW rD m_x jA oY pR pX) → Q (F_X10_byHand p0 bW rD m_x jA oY pR pX)) : wp_X10_byHand Q p0 bW rD m_x jA oY pR pX := dt_X10_byHand h (fun o eo => by rw [eo]; exact hq)
theorem dw_X10_byHand {Q : Int32 → Prop} {p0 bW : Int32} {rD m_x jA oY pR pX : Nat → Int32} (h : wp_X10_byHand (fun o0 => o0 = F_X10_byHand p0 bW rD m_x jA oY pR pX → Q o0) p0 bW rD m_x jA oY pR pX) : wp_X10_byHand Q p0 bW rD m_x jA oY pR pX := dt_X10_byHand h (fun o eo hp => hp eo)
noncomputable def j_X10_goShake_96 {R : Type} (k50 : Int32 → Int32 → Int32 → (Nat → Int32) → R) (bW : Int32) (m_x jA rW oY pR pX : Nat → Int32) (x1 x2 x3 : Int32) (rD : Nat → Int32) : R := k50 x1 x2 (x3 + 1) rD
noncomputable def bd_X10_goShake_50 (bW : Int32) (m_x jA rW oY pR pX : Nat → Int32) (x1 x2 c : Int32) (s : (Nat → Int32)) : (Nat → Int32) := if (F_X10_has x1 c) = 0 then (j_X10_goShake_96 (fun q0 q1 q2 q3 => q3) bW m_x jA rW oY pR pX x1 x2 c s) else (j_X10_goShake_96 (fun q0 q1 q2 q3 => q3) bW m_x jA rW oY pR pX x1 x2 c (upd (upd s c.toNatClampNeg 3) (16 : Int32).toNatClampNeg (((upd s c.toNatClampNeg 3) (16 : Int32).toNatClampNeg) ||| ((1 <<< (c &&& 31)) ||| (F_X10_below c x2 bW m_x jA)))))
noncomputable def ex_X10_goShake_50 {R : Type} (po : Int32 → (Nat → Int32) → R) (bW : Int32) (m_x jA rW oY pR pX : Nat → Int32) (x1 x2 c : Int32) (s : (Nat → Int32)) : R := po (F_J6_bitCount_0f7a4 x1) (F_X10_passBy 5 s)
set_option maxHeartbeats 200000 in
set_option maxRecDepth 10000 in
theorem dl_X10_goShake_50 {P Q : Int32 → (Nat → Int32) → Prop} {bW : Int32} {m_x jA rW oY pR pX : Nat → Int32} {x1 x2 : Int32} {a : (Nat → Int32)} {i : Nat} (hi0 : i < 2147483648) (hE : ∀ (c : Int32) (s : (Nat → Int32)), c = nI (i + (Int32.toInt bW - ((i : Nat) : Int)).toNat) → s = itr (bd_X10_goShake_50 bW m_x jA rW oY pR pX x1 x2) a i (Int32.toInt bW - ((i : Nat) : Int)).toNat → (wp_X10_passBy (fun m_now_10 => wp_J6_bitCount_0f7a4 (fun r_11 => P r_11 m_now_10) x1) 5 s) → (wp_X10_passBy (fun m_now_10 => wp_J6_bitCount_0f7a4 (fun r_11 => Q r_11 m_now_10) x1) 5 s)) : ∀ (n k : Nat) (c : Int32), c = nI (i + k) → k ≤ (Int32.toInt bW - ((i : Nat) : Int)).toNat → wb_X10_goShake_50 P bW m_x jA rW oY pR pX n x1 x2 c (itr (bd_X10_goShake_50 bW m_x jA rW oY pR pX x1 x2) a i k) → wb_X10_goShake_50 Q bW m_x jA rW oY pR pX n x1 x2 c (itr (bd_X10_goShake_50 bW m_x jA rW oY pR pX x1 x2) a i k) := by
  intro n
  induction n with
  | zero => intro k c hc hk h; exact False.elim h
  | succ n ih =>
    intro k c hc hk h
    have hr := tp_r bW
    have hi : Int32.toInt c = ((i + k : Nat) : Int) := by rw [hc]; exact nI_toInt (by omega)
    refine And.intro (fun t0 => ?_) (fun t0 => ?_)
    · have h := And.left h t0
      have t1 := (fa_le _ _).mp t0
      have hk2 : k = (Int32.toInt bW - ((i : Nat) : Int)).toNat := by omega
      subst hk2
      exact hE _ _ hc rfl h
    · have h := And.right h t0
      have t1 := mt (fa_le _ _).mpr t0
      have hs : ∀ o : (Nat → Int32), o = itr (bd_X10_goShake_50 bW m_x jA rW oY pR pX x1 x2) a i (k + 1) → wb_X10_goShake_50 P bW m_x jA rW oY pR pX n x1 x2 (c + 1) o → wb_X10_goShake_50 Q bW m_x jA rW oY pR pX n x1 x2 (c + 1) o := by
        intro o eo h9
        have q := ih (k + 1) (c + 1) (by rw [hc]; exact nI_1 _) (by omega)
        rw [← eo] at q
        exact q h9
      rw [itr_s, ← hc, bd_X10_goShake_50] at hs
      refine du_X10_has h ?_
      intro h
      refine And.intro (fun c1 => ?_) (fun c1 => ?_)
      · have h := And.left h c1
        rw [if_neg c1] at hs
        refine And.intro (And.left h) ?_
        have h := And.right h
        refine ae ?_
        have h := h _ rfl
        refine ae ?_
        have h := h _ rfl
        refine du_X10_below h ?_
        intro h
        refine ae ?_
        have h := h _ rfl
        rw [j_X10_goShake_96] at hs
        unfold ws_X10_goShake_96 at h ⊢
        refine ae ?_
        have h := h _ rfl
        have q9 := hs _ rfl
        exact q9 h
      · have h := And.right h c1
        rw [if_pos c1] at hs
        rw [j_X10_goShake_96] at hs
        unfold ws_X10_goShake_96 at h ⊢
        refine ae ?_
        have h := h _ rfl
        have q9 := hs _ rfl
        exact q9 h
noncomputable def F_X10_goShake (bW : Int32) (rD m_x jA rW oY pR pX : Nat → Int32) : Int32 × (Nat → Int32) := ex_X10_goShake_50 (fun o0 o1 => (o0, o1)) bW m_x jA rW oY pR pX (((F_X10_which 0 bW rD) &&& (F_X10_ripeOnes (rD (19 : Int32).toNatClampNeg) bW rW)) &&& (F_X10_byHand (rD (17 : Int32).toNatClampNeg) bW rD m_x jA oY pR pX)) ((F_X10_which 0 bW rD) &&& ((((F_X10_which 0 bW rD) &&& (F_X10_ripeOnes (rD (19 : Int32).toNatClampNeg) bW rW)) &&& (F_X10_byHand (rD (17 : Int32).toNatClampNeg) bW rD m_x jA oY pR pX)) ^^^ (-1))) (nI (0 + (Int32.toInt bW - ((0 : Nat) : Int)).toNat)) (itr (bd_X10_goShake_50 bW m_x jA rW oY pR pX (((F_X10_which 0 bW rD) &&& (F_X10_ripeOnes (rD (19 : Int32).toNatClampNeg) bW rW)) &&& (F_X10_byHand (rD (17 : Int32).toNatClampNeg) bW rD m_x jA oY pR pX)) ((F_X10_which 0 bW rD) &&& ((((F_X10_which 0 bW rD) &&& (F_X10_ripeOnes (rD (19 : Int32).toNatClampNeg) bW rW)) &&& (F_X10_byHand (rD (17 : Int32).toNatClampNeg) bW rD m_x jA oY pR pX)) ^^^ (-1)))) rD 0 (Int32.toInt bW - ((0 : Nat) : Int)).toNat)
set_option maxHeartbeats 200000 in
set_option maxRecDepth 10000 in
theorem dt_X10_goShake {P Q : Int32 → (Nat → Int32) → Prop} {bW : Int32} {rD m_x jA rW oY pR pX : Nat → Int32} (h : wp_X10_goShake P bW rD m_x jA rW oY pR pX) (hq : ∀ o : Int32 × (Nat → Int32), o = F_X10_goShake bW rD m_x jA rW oY pR pX → P o.1 o.2 → Q o.1 o.2) : wp_X10_goShake Q bW rD m_x jA rW oY pR pX := by
  rw [F_X10_goShake] at hq
  refine du_X10_which h ?_
  intro h
  refine ae ?_
  have h := h _ rfl
  refine du_X10_ripeOnes h ?_
  intro h
  refine ae ?_
  have h := h _ rfl
  refine ae ?_
  have h := h _ rfl
  refine du_X10_byHand h ?_
  intro h
  refine ae ?_
  have h := h _ rfl
  refine du_X10_which h ?_
  intro h
  refine ae ?_
  have h := h _ rfl
  obtain ⟨n1, h⟩ := h
  refine ⟨n1, dl_X10_goShake_50 (a := rD) (i := 0) (by decide) ?_ n1 0 0 (by decide) (Nat.zero_le _) h⟩
  intro cc2 s3 ec4 es5 h
  rw [← ec4, ← es5, ex_X10_goShake_50] at hq
  refine du_X10_passBy h ?_
  intro h
  refine du_J6_bitCount_0f7a4 h ?_
  intro h
  have q9 := hq _ rfl
  dsimp only at q9
  exact q9 h
theorem du_X10_goShake {P Q : Int32 → (Nat → Int32) → Prop} {bW : Int32} {rD m_x jA rW oY pR pX : Nat → Int32} (h : wp_X10_goShake P bW rD m_x jA rW oY pR pX) (hq : P (F_X10_goShake bW rD m_x jA rW oY pR pX).1 (F_X10_goShake bW rD m_x jA rW oY pR pX).2 → Q (F_X10_goShake bW rD m_x jA rW oY pR pX).1 (F_X10_goShake bW rD m_x jA rW oY pR pX).2) : wp_X10_goShake Q bW rD m_x jA rW oY pR pX := dt_X10_goShake h (fun o eo => by rw [eo]; exact hq)
theorem dw_X10_goShake {Q : Int32 → (Nat → Int32) → Prop} {bW : Int32} {rD m_x jA rW oY pR pX : Nat → Int32} (h : wp_X10_goShake (fun o0 o1 => (o0, o1) = F_X10_goShake bW rD m_x jA rW oY pR pX → Q o0 o1) bW rD m_x jA rW oY pR pX) : wp_X10_goShake Q bW rD m_x jA rW oY pR pX := dt_X10_goShake h (fun o eo hp => hp eo)
noncomputable def F_X10_shake (bW dG bT : Int32) (rD m_x jA rW oY pR pX uQ : Nat → Int32) : Int32 × Int32 × Int32 × (Nat → Int32) × (Nat → Int32) := if (rD (17 : Int32).toNatClampNeg) = (-1) then ((-2), 0, bT, rD, uQ) else ((F_X10_goShake bW rD m_x jA rW oY pR pX).1, 0, (F_X10_remember bT rD uQ).1, (F_X10_goShake bW rD m_x jA rW oY pR pX).2, (F_X10_remember bT rD uQ).2)
set_option maxHeartbeats 200000 in
set_option maxRecDepth 10000 in
theorem dt_X10_shake {P Q : Int32 → Int32 → Int32 → (Nat → Int32) → (Nat → Int32) → Prop} {bW dG bT : Int32} {rD m_x jA rW oY pR pX uQ : Nat → Int32} (h : wp_X10_shake P bW dG bT rD m_x jA rW oY pR pX uQ) (hq : ∀ o : Int32 × Int32 × Int32 × (Nat → Int32) × (Nat → Int32), o = F_X10_shake bW dG bT rD m_x jA rW oY pR pX uQ → P o.1 o.2.1 o.2.2.1 o.2.2.2.1 o.2.2.2.2 → Q o.1 o.2.1 o.2.2.1 o.2.2.2.1 o.2.2.2.2) : wp_X10_shake Q bW dG bT rD m_x jA rW oY pR pX uQ := by
  rw [F_X10_shake] at hq
  refine ae ?_
  have h := h _ rfl
  refine And.intro (fun c1 => ?_) (fun c1 => ?_)
  · have h := And.left h c1
    rw [if_neg c1] at hq
    refine du_X10_remember h ?_
    intro h
    refine du_X10_goShake h ?_
    intro h
    have q9 := hq _ rfl
    dsimp only at q9
    exact q9 h
  · have h := And.right h c1
    rw [if_pos c1] at hq
    have q9 := hq _ rfl
    dsimp only at q9
    exact q9 h
theorem du_X10_shake {P Q : Int32 → Int32 → Int32 → (Nat → Int32) → (Nat → Int32) → Prop} {bW dG bT : Int32} {rD m_x jA rW oY pR pX uQ : Nat → Int32} (h : wp_X10_shake P bW dG bT rD m_x jA rW oY pR pX uQ) (hq : P (F_X10_shake bW dG bT rD m_x jA rW oY pR pX uQ).1 (F_X10_shake bW dG bT rD m_x jA rW oY pR pX uQ).2.1 (F_X10_shake bW dG bT rD m_x jA rW oY pR pX uQ).2.2.1 (F_X10_shake bW dG bT rD m_x jA rW oY pR pX uQ).2.2.2.1 (F_X10_shake bW dG bT rD m_x jA rW oY pR pX uQ).2.2.2.2 → Q (F_X10_shake bW dG bT rD m_x jA rW oY pR pX uQ).1 (F_X10_shake bW dG bT rD m_x jA rW oY pR pX uQ).2.1 (F_X10_shake bW dG bT rD m_x jA rW oY pR pX uQ).2.2.1 (F_X10_shake bW dG bT rD m_x jA rW oY pR pX uQ).2.2.2.1 (F_X10_shake bW dG bT rD m_x jA rW oY pR pX uQ).2.2.2.2) : wp_X10_shake Q bW dG bT rD m_x jA rW oY pR pX uQ := dt_X10_shake h (fun o eo => by rw [eo]; exact hq)
theorem dw_X10_shake {Q : Int32 → Int32 → Int32 → (Nat → Int32) → (Nat → Int32) → Prop} {bW dG bT : Int32} {rD m_x jA rW oY pR pX uQ : Nat → Int32} (h : wp_X10_shake (fun o0 o1 o2 o3 o4 => (o0, o1, o2, o3, o4) = F_X10_shake bW dG bT rD m_x jA rW oY pR pX uQ → Q o0 o1 o2 o3 o4) bW dG bT rD m_x jA rW oY pR pX uQ) : wp_X10_shake Q bW dG bT rD m_x jA rW oY pR pX uQ := dt_X10_shake h (fun o eo hp => hp eo)
noncomputable def F_X10_goSleep (bW : Int32) (rD : Nat → Int32) : Int32 × (Nat → Int32) := (((upd (upd (upd (F_X10_empty bW rD).2 (17 : Int32).toNatClampNeg (-1)) (20 : Int32).toNatClampNeg 0) (19 : Int32).toNatClampNeg (((upd (upd (F_X10_empty bW rD).2 (17 : Int32).toNatClampNeg (-1)) (20 : Int32).toNatClampNeg 0) (19 : Int32).toNatClampNeg) + 1)) (19 : Int32).toNatClampNeg), (upd (upd (upd (F_X10_empty bW rD).2 (17 : Int32).toNatClampNeg (-1)) (20 : Int32).toNatClampNeg 0) (19 : Int32).toNatClampNeg (((upd (upd (F_X10_empty bW rD).2 (17 : Int32).toNatClampNeg (-1)) (20 : Int32).toNatClampNeg 0) (19 : Int32).toNatClampNeg) + 1)))
set_option maxHeartbeats 200000 in
set_option maxRecDepth 10000 in
theorem dt_X10_goSleep {P Q : Int32 → (Nat → Int32) → Prop} {bW : Int32} {rD : Nat → Int32} (h : wp_X10_goSleep P bW rD) (hq : ∀ o : Int32 × (Nat → Int32), o = F_X10_goSleep bW rD → P o.1 o.2 → Q o.1 o.2) : wp_X10_goSleep Q bW rD := by
  rw [F_X10_goSleep] at hq
  refine du_X10_empty h ?_
  intro h
  refine ae ?_
  have h := h _ rfl
  refine ae ?_
  have h := h _ rfl
  refine ae ?_
  have h := h _ rfl
  have q9 := hq _ rfl
  dsimp only at q9
  exact q9 h
theorem du_X10_goSleep {P Q : Int32 → (Nat → Int32) → Prop} {bW : Int32} {rD : Nat → Int32} (h : wp_X10_goSleep P bW rD) (hq : P (F_X10_goSleep bW rD).1 (F_X10_goSleep bW rD).2 → Q (F_X10_goSleep bW rD).1 (F_X10_goSleep bW rD).2) : wp_X10_goSleep Q bW rD := dt_X10_goSleep h (fun o eo => by rw [eo]; exact hq)
theorem dw_X10_goSleep {Q : Int32 → (Nat → Int32) → Prop} {bW : Int32} {rD : Nat → Int32} (h : wp_X10_goSleep (fun o0 o1 => (o0, o1) = F_X10_goSleep bW rD → Q o0 o1) bW rD) : wp_X10_goSleep Q bW rD := dt_X10_goSleep h (fun o eo hp => hp eo)
noncomputable def F_X10_sleep (bW dG bT : Int32) (rD uQ : Nat → Int32) : Int32 × Int32 × Int32 × (Nat → Int32) × (Nat → Int32) := if (rD (19 : Int32).toNatClampNeg) = 9 then ((-1), 0, bT, rD, uQ) else ((F_X10_goSleep bW rD).1, 0, (F_X10_remember bT rD uQ).1, (F_X10_goSleep bW rD).2, (F_X10_remember bT rD uQ).2)
set_option maxHeartbeats 200000 in
set_option maxRecDepth 10000 in
theorem dt_X10_sleep {P Q : Int32 → Int32 → Int32 → (Nat → Int32) → (Nat → Int32) → Prop} {bW dG bT : Int32} {rD uQ : Nat → Int32} (h : wp_X10_sleep P bW dG bT rD uQ) (hq : ∀ o : Int32 × Int32 × Int32 × (Nat → Int32) × (Nat → Int32), o = F_X10_sleep bW dG bT rD uQ → P o.1 o.2.1 o.2.2.1 o.2.2.2.1 o.2.2.2.2 → Q o.1 o.2.1 o.2.2.1 o.2.2.2.1 o.2.2.2.2) : wp_X10_sleep Q bW dG bT rD uQ := by
  rw [F_X10_sleep] at hq
  refine ae ?_
  have h := h _ rfl
  refine And.intro (fun c1 => ?_) (fun c1 => ?_)
  · have h := And.left h c1
    rw [if_neg c1] at hq
    refine du_X10_remember h ?_
    intro h
    refine du_X10_goSleep h ?_
    intro h
    have q9 := hq _ rfl
    dsimp only at q9
    exact q9 h
  · have h := And.right h c1
    rw [if_pos c1] at hq
    have q9 := hq _ rfl
    dsimp only at q9
    exact q9 h
theorem du_X10_sleep {P Q : Int32 → Int32 → Int32 → (Nat → Int32) → (Nat → Int32) → Prop} {bW dG bT : Int32} {rD uQ : Nat → Int32} (h : wp_X10_sleep P bW dG bT rD uQ) (hq : P (F_X10_sleep bW dG bT rD uQ).1 (F_X10_sleep bW dG bT rD uQ).2.1 (F_X10_sleep bW dG bT rD uQ).2.2.1 (F_X10_sleep bW dG bT rD uQ).2.2.2.1 (F_X10_sleep bW dG bT rD uQ).2.2.2.2 → Q (F_X10_sleep bW dG bT rD uQ).1 (F_X10_sleep bW dG bT rD uQ).2.1 (F_X10_sleep bW dG bT rD uQ).2.2.1 (F_X10_sleep bW dG bT rD uQ).2.2.2.1 (F_X10_sleep bW dG bT rD uQ).2.2.2.2) : wp_X10_sleep Q bW dG bT rD uQ := dt_X10_sleep h (fun o eo => by rw [eo]; exact hq)
theorem dw_X10_sleep {Q : Int32 → Int32 → Int32 → (Nat → Int32) → (Nat → Int32) → Prop} {bW dG bT : Int32} {rD uQ : Nat → Int32} (h : wp_X10_sleep (fun o0 o1 o2 o3 o4 => (o0, o1, o2, o3, o4) = F_X10_sleep bW dG bT rD uQ → Q o0 o1 o2 o3 o4) bW dG bT rD uQ) : wp_X10_sleep Q bW dG bT rD uQ := dt_X10_sleep h (fun o eo hp => hp eo)
noncomputable def j_X10_readAct_109 {R : Type} (po : Int32 → Int32 → (Nat → Int32) → R) (jY : Nat) (m_length qG : Int32) (rG rQ : Nat → Int32) (x1 uW eY : Int32) (wE : Nat → Int32) : R := po ((F_X10_number 2 jY m_length qG uW eY rG rQ).2.1) ((F_X10_number 2 jY m_length qG uW eY rG rQ).2.2) (upd wE (x1 + 1).toNatClampNeg (F_X10_number 2 jY m_length qG uW eY rG rQ).1)
noncomputable def j_X10_readAct_97 {R : Type} (po : Int32 → Int32 → (Nat → Int32) → R) (jY : Nat) (m_length qG : Int32) (rG rQ : Nat → Int32) (x1 x2 uW eY : Int32) (wE : Nat → Int32) : R := if x2 = 112 then (j_X10_readAct_109 po jY m_length qG rG rQ x1 uW eY wE) else (if x2 = 104 then (j_X10_readAct_109 po jY m_length qG rG rQ x1 uW eY wE) else (po uW eY wE))
noncomputable def j_X10_readAct_61 {R : Type} (po : Int32 → Int32 → (Nat → Int32) → R) (jY : Nat) (m_length qG : Int32) (rG rQ : Nat → Int32) (x1 x2 uW eY : Int32) (wE : Nat → Int32) : R := if x2 = 109 then (j_X10_readAct_97 po jY m_length qG rG rQ x1 x2 ((F_X10_number 1 jY m_length qG (uW + 1) eY rG rQ).2.1) ((F_X10_number 1 jY m_length qG (uW + 1) eY rG rQ).2.2) (upd (upd wE x1.toNatClampNeg x2) (x1 + 1).toNatClampNeg (F_X10_number 1 jY m_length qG (uW + 1) eY rG rQ).1)) else (j_X10_readAct_97 po jY m_length qG rG rQ x1 x2 (uW + 1) eY (upd wE x1.toNatClampNeg x2))
noncomputable def F_X10_readAct (p0 : Int32) (jY : Nat) (m_length qG uW eY : Int32) (rG rQ wE : Nat → Int32) : Int32 × Int32 × (Nat → Int32) := if (F_X10_here jY m_length qG uW rG rQ) = 109 then (j_X10_readAct_61 (fun o0 o1 o2 => (o0, o1, o2)) jY m_length qG rG rQ p0 (F_X10_here jY m_length qG uW rG rQ) uW eY wE) else (if (F_X10_here jY m_length qG uW rG rQ) = 112 then (j_X10_readAct_61 (fun o0 o1 o2 => (o0, o1, o2)) jY m_length qG rG rQ p0 (F_X10_here jY m_length qG uW rG rQ) uW eY wE) else (if (F_X10_here jY m_length qG uW rG rQ) = 104 then (j_X10_readAct_61 (fun o0 o1 o2 => (o0, o1, o2)) jY m_length qG rG rQ p0 (F_X10_here jY m_length qG uW rG rQ) uW eY wE) else (if (F_X10_here jY m_length qG uW rG rQ) = 100 then (j_X10_readAct_61 (fun o0 o1 o2 => (o0, o1, o2)) jY m_length qG rG rQ p0 (F_X10_here jY m_length qG uW rG rQ) uW eY wE) else (if (F_X10_here jY m_length qG uW rG rQ) = 107 then (j_X10_readAct_61 (fun o0 o1 o2 => (o0, o1, o2)) jY m_length qG rG rQ p0 (F_X10_here jY m_length qG uW rG rQ) uW eY wE) else (if (F_X10_here jY m_length qG uW rG rQ) = 97 then (j_X10_readAct_61 (fun o0 o1 o2 => (o0, o1, o2)) jY m_length qG rG rQ p0 (F_X10_here jY m_length qG uW rG rQ) uW eY wE) else (if (F_X10_here jY m_length qG uW rG rQ) = 111 then (j_X10_readAct_61 (fun o0 o1 o2 => (o0, o1, o2)) jY m_length qG rG rQ p0 (F_X10_here jY m_length qG uW rG rQ) uW eY wE) else (if (F_X10_here jY m_length qG uW rG rQ) = 122 then (j_X10_readAct_61 (fun o0 o1 o2 => (o0, o1, o2)) jY m_length qG rG rQ p0 (F_X10_here jY m_length qG uW rG rQ) uW eY wE) else (j_X10_readAct_61 (fun o0 o1 o2 => (o0, o1, o2)) jY m_length qG rG rQ p0 (F_X10_here jY m_length qG uW rG rQ) uW (F_X10_fault uW eY) wE))))))))
set_option maxHeartbeats 200000 in
set_option maxRecDepth 10000 in
theorem dt_X10_readAct {P Q : Int32 → Int32 → (Nat → Int32) → Prop} {p0 : Int32} {jY : Nat} {m_length qG uW eY : Int32} {rG rQ wE : Nat → Int32} (h : wp_X10_readAct P p0 jY m_length qG uW eY rG rQ wE) (hq : ∀ o : Int32 × Int32 × (Nat → Int32), o = F_X10_readAct p0 jY m_length qG uW eY rG rQ wE → P o.1 o.2.1 o.2.2 → Q o.1 o.2.1 o.2.2) : wp_X10_readAct Q p0 jY m_length qG uW eY rG rQ wE := by
  rw [F_X10_readAct] at hq
  refine du_X10_here h ?_
  intro h
  refine And.intro (fun c1 => ?_) (fun c1 => ?_)
  · have h := And.left h c1
    rw [if_pos c1] at hq
    rw [j_X10_readAct_61] at hq
    unfold ws_X10_readAct_61 at h ⊢
    refine ae ?_
    have h := h _ rfl
    refine And.intro (And.left h) ?_
    have h := And.right h
    refine And.intro (fun c2 => ?_) (fun c2 => ?_)
    · have h := And.left h c2
      rw [if_neg c2] at hq
      rw [j_X10_readAct_97] at hq
      unfold ws_X10_readAct_97 at h ⊢
      refine And.intro (fun c3 => ?_) (fun c3 => ?_)
      · have h := And.left h c3
        rw [if_pos c3] at hq
        rw [j_X10_readAct_109] at hq
        unfold ws_X10_readAct_109 at h ⊢
        refine ae ?_
        have h := h _ rfl
        refine du_X10_number (by decide) h ?_
        intro h
        refine And.intro (And.left h) ?_
        have h := And.right h
        have q9 := hq _ rfl
        dsimp only at q9
        exact q9 h
      · have h := And.right h c3
        rw [if_neg c3] at hq
        refine And.intro (fun c4 => ?_) (fun c4 => ?_)
        · have h := And.left h c4
          rw [if_neg c4] at hq
          have q9 := hq _ rfl
          dsimp only at q9
          exact q9 h
        · have h := And.right h c4
          rw [if_pos c4] at hq
          rw [j_X10_readAct_109] at hq
          unfold ws_X10_readAct_109 at h ⊢
          refine ae ?_
          have h := h _ rfl
          refine du_X10_number (by decide) h ?_
          intro h
          refine And.intro (And.left h) ?_
          have h := And.right h
          have q9 := hq _ rfl
          dsimp only at q9
          exact q9 h
    · have h := And.right h c2
      rw [if_pos c2] at hq
      refine ae ?_
      have h := h _ rfl
      refine du_X10_number (by decide) h ?_
      intro h
      refine And.intro (And.left h) ?_
      have h := And.right h
      rw [j_X10_readAct_97] at hq
      unfold ws_X10_readAct_97 at h ⊢
      refine And.intro (fun c5 => ?_) (fun c5 => ?_)
      · have h := And.left h c5
        rw [if_pos c5] at hq
        rw [j_X10_readAct_109] at hq
        unfold ws_X10_readAct_109 at h ⊢
        refine ae ?_
        have h := h _ rfl
        refine du_X10_number (by decide) h ?_
        intro h
        refine And.intro (And.left h) ?_
        have h := And.right h
        have q9 := hq _ rfl
        dsimp only at q9
        exact q9 h
      · have h := And.right h c5
        rw [if_neg c5] at hq
        refine And.intro (fun c6 => ?_) (fun c6 => ?_)
        · have h := And.left h c6
          rw [if_neg c6] at hq
          have q9 := hq _ rfl
          dsimp only at q9
          exact q9 h
        · have h := And.right h c6
          rw [if_pos c6] at hq
          rw [j_X10_readAct_109] at hq
          unfold ws_X10_readAct_109 at h ⊢
          refine ae ?_
          have h := h _ rfl
          refine du_X10_number (by decide) h ?_
          intro h
          refine And.intro (And.left h) ?_
          have h := And.right h
          have q9 := hq _ rfl
          dsimp only at q9
          exact q9 h
  · have h := And.right h c1
    rw [if_neg c1] at hq
    refine And.intro (fun c7 => ?_) (fun c7 => ?_)
    · have h := And.left h c7
      rw [if_pos c7] at hq
      rw [j_X10_readAct_61] at hq
      unfold ws_X10_readAct_61 at h ⊢
      refine ae ?_
      have h := h _ rfl
      refine And.intro (And.left h) ?_
      have h := And.right h
      refine And.intro (fun c8 => ?_) (fun c8 => ?_)
      · have h := And.left h c8
        rw [if_neg c8] at hq
        rw [j_X10_readAct_97] at hq
        unfold ws_X10_readAct_97 at h ⊢
        refine And.intro (fun c9 => ?_) (fun c9 => ?_)
        · have h := And.left h c9
          rw [if_pos c9] at hq
          rw [j_X10_readAct_109] at hq
          unfold ws_X10_readAct_109 at h ⊢
          refine ae ?_
          have h := h _ rfl
          refine du_X10_number (by decide) h ?_
          intro h
          refine And.intro (And.left h) ?_
          have h := And.right h
          have q9 := hq _ rfl
          dsimp only at q9
          exact q9 h
        · have h := And.right h c9
          rw [if_neg c9] at hq
          refine And.intro (fun c10 => ?_) (fun c10 => ?_)
          · have h := And.left h c10
            rw [if_neg c10] at hq
            have q9 := hq _ rfl
            dsimp only at q9
            exact q9 h
          · have h := And.right h c10
            rw [if_pos c10] at hq
            rw [j_X10_readAct_109] at hq
            unfold ws_X10_readAct_109 at h ⊢
            refine ae ?_
            have h := h _ rfl
            refine du_X10_number (by decide) h ?_
            intro h
            refine And.intro (And.left h) ?_
            have h := And.right h
            have q9 := hq _ rfl
            dsimp only at q9
            exact q9 h
      · have h := And.right h c8
        rw [if_pos c8] at hq
        refine ae ?_
        have h := h _ rfl
        refine du_X10_number (by decide) h ?_
        intro h
        refine And.intro (And.left h) ?_
        have h := And.right h
        rw [j_X10_readAct_97] at hq
        unfold ws_X10_readAct_97 at h ⊢
        refine And.intro (fun c11 => ?_) (fun c11 => ?_)
        · have h := And.left h c11
          rw [if_pos c11] at hq
          rw [j_X10_readAct_109] at hq
          unfold ws_X10_readAct_109 at h ⊢
          refine ae ?_
          have h := h _ rfl
          refine du_X10_number (by decide) h ?_
          intro h
          refine And.intro (And.left h) ?_
          have h := And.right h
          have q9 := hq _ rfl
          dsimp only at q9
          exact q9 h
        · have h := And.right h c11
          rw [if_neg c11] at hq
          refine And.intro (fun c12 => ?_) (fun c12 => ?_)
          · have h := And.left h c12
            rw [if_neg c12] at hq
            have q9 := hq _ rfl
            dsimp only at q9
            exact q9 h
          · have h := And.right h c12
            rw [if_pos c12] at hq
            rw [j_X10_readAct_109] at hq
            unfold ws_X10_readAct_109 at h ⊢
            refine ae ?_
            have h := h _ rfl
            refine du_X10_number (by decide) h ?_
            intro h
            refine And.intro (And.left h) ?_
            have h := And.right h
            have q9 := hq _ rfl
            dsimp only at q9
            exact q9 h
    · have h := And.right h c7
      rw [if_neg c7] at hq
      refine And.intro (fun c13 => ?_) (fun c13 => ?_)
      · have h := And.left h c13
        rw [if_pos c13] at hq
        rw [j_X10_readAct_61] at hq
        unfold ws_X10_readAct_61 at h ⊢
        refine ae ?_
        have h := h _ rfl
        refine And.intro (And.left h) ?_
        have h := And.right h
        refine And.intro (fun c14 => ?_) (fun c14 => ?_)
        · have h := And.left h c14
          rw [if_neg c14] at hq
          rw [j_X10_readAct_97] at hq
          unfold ws_X10_readAct_97 at h ⊢
          refine And.intro (fun c15 => ?_) (fun c15 => ?_)
          · have h := And.left h c15
            rw [if_pos c15] at hq
            rw [j_X10_readAct_109] at hq
            unfold ws_X10_readAct_109 at h ⊢
            refine ae ?_
            have h := h _ rfl
            refine du_X10_number (by decide) h ?_
            intro h
            refine And.intro (And.left h) ?_
            have h := And.right h
            have q9 := hq _ rfl
            dsimp only at q9
            exact q9 h
          · have h := And.right h c15
            rw [if_neg c15] at hq
            refine And.intro (fun c16 => ?_) (fun c16 => ?_)
            · have h := And.left h c16
              rw [if_neg c16] at hq
              have q9 := hq _ rfl
              dsimp only at q9
              exact q9 h
            · have h := And.right h c16
              rw [if_pos c16] at hq
              rw [j_X10_readAct_109] at hq
              unfold ws_X10_readAct_109 at h ⊢
              refine ae ?_
              have h := h _ rfl
              refine du_X10_number (by decide) h ?_
              intro h
              refine And.intro (And.left h) ?_
              have h := And.right h
              have q9 := hq _ rfl
              dsimp only at q9
              exact q9 h
        · have h := And.right h c14
          rw [if_pos c14] at hq
          refine ae ?_
          have h := h _ rfl
          refine du_X10_number (by decide) h ?_
          intro h
          refine And.intro (And.left h) ?_
          have h := And.right h
          rw [j_X10_readAct_97] at hq
          unfold ws_X10_readAct_97 at h ⊢
          refine And.intro (fun c17 => ?_) (fun c17 => ?_)
          · have h := And.left h c17
            rw [if_pos c17] at hq
            rw [j_X10_readAct_109] at hq
            unfold ws_X10_readAct_109 at h ⊢
            refine ae ?_
            have h := h _ rfl
            refine du_X10_number (by decide) h ?_
            intro h
            refine And.intro (And.left h) ?_
            have h := And.right h
            have q9 := hq _ rfl
            dsimp only at q9
            exact q9 h
          · have h := And.right h c17
            rw [if_neg c17] at hq
            refine And.intro (fun c18 => ?_) (fun c18 => ?_)
            · have h := And.left h c18
              rw [if_neg c18] at hq
              have q9 := hq _ rfl
              dsimp only at q9
              exact q9 h
            · have h := And.right h c18
              rw [if_pos c18] at hq
              rw [j_X10_readAct_109] at hq
              unfold ws_X10_readAct_109 at h ⊢
              refine ae ?_
              have h := h _ rfl
              refine du_X10_number (by decide) h ?_
              intro h
              refine And.intro (And.left h) ?_
              have h := And.right h
              have q9 := hq _ rfl
              dsimp only at q9
              exact q9 h
      · have h := And.right h c13
        rw [if_neg c13] at hq
        refine And.intro (fun c19 => ?_) (fun c19 => ?_)
        · have h := And.left h c19
          rw [if_pos c19] at hq
          rw [j_X10_readAct_61] at hq
          unfold ws_X10_readAct_61 at h ⊢
          refine ae ?_
          have h := h _ rfl
          refine And.intro (And.left h) ?_
          have h := And.right h
          refine And.intro (fun c20 => ?_) (fun c20 => ?_)
          · have h := And.left h c20
            rw [if_neg c20] at hq
            rw [j_X10_readAct_97] at hq
            unfold ws_X10_readAct_97 at h ⊢
            refine And.intro (fun c21 => ?_) (fun c21 => ?_)
            · have h := And.left h c21
              rw [if_pos c21] at hq
              rw [j_X10_readAct_109] at hq
              unfold ws_X10_readAct_109 at h ⊢
              refine ae ?_
              have h := h _ rfl
              refine du_X10_number (by decide) h ?_
              intro h
              refine And.intro (And.left h) ?_
              have h := And.right h
              have q9 := hq _ rfl
              dsimp only at q9
              exact q9 h
            · have h := And.right h c21
              rw [if_neg c21] at hq
              refine And.intro (fun c22 => ?_) (fun c22 => ?_)
              · have h := And.left h c22
                rw [if_neg c22] at hq
                have q9 := hq _ rfl
                dsimp only at q9
                exact q9 h
              · have h := And.right h c22
                rw [if_pos c22] at hq
                rw [j_X10_readAct_109] at hq
                unfold ws_X10_readAct_109 at h ⊢
                refine ae ?_
                have h := h _ rfl
                refine du_X10_number (by decide) h ?_
                intro h
                refine And.intro (And.left h) ?_
                have h := And.right h
                have q9 := hq _ rfl
                dsimp only at q9
                exact q9 h
          · have h := And.right h c20
            rw [if_pos c20] at hq
            refine ae ?_
            have h := h _ rfl
            refine du_X10_number (by decide) h ?_
            intro h
            refine And.intro (And.left h) ?_
            have h := And.right h
            rw [j_X10_readAct_97] at hq
            unfold ws_X10_readAct_97 at h ⊢
            refine And.intro (fun c23 => ?_) (fun c23 => ?_)
            · have h := And.left h c23
              rw [if_pos c23] at hq
              rw [j_X10_readAct_109] at hq
              unfold ws_X10_readAct_109 at h ⊢
              refine ae ?_
              have h := h _ rfl
              refine du_X10_number (by decide) h ?_
              intro h
              refine And.intro (And.left h) ?_
              have h := And.right h
              have q9 := hq _ rfl
              dsimp only at q9
              exact q9 h
            · have h := And.right h c23
              rw [if_neg c23] at hq
              refine And.intro (fun c24 => ?_) (fun c24 => ?_)
              · have h := And.left h c24
                rw [if_neg c24] at hq
                have q9 := hq _ rfl
                dsimp only at q9
                exact q9 h
              · have h := And.right h c24
                rw [if_pos c24] at hq
                rw [j_X10_readAct_109] at hq
                unfold ws_X10_readAct_109 at h ⊢
                refine ae ?_
                have h := h _ rfl
                refine du_X10_number (by decide) h ?_
                intro h
                refine And.intro (And.left h) ?_
                have h := And.right h
                have q9 := hq _ rfl
                dsimp only at q9
                exact q9 h
        · have h := And.right h c19
          rw [if_neg c19] at hq
          refine And.intro (fun c25 => ?_) (fun c25 => ?_)
          · have h := And.left h c25
            rw [if_pos c25] at hq
            rw [j_X10_readAct_61] at hq
            unfold ws_X10_readAct_61 at h ⊢
            refine ae ?_
            have h := h _ rfl
            refine And.intro (And.left h) ?_
            have h := And.right h
            refine And.intro (fun c26 => ?_) (fun c26 => ?_)
            · have h := And.left h c26
              rw [if_neg c26] at hq
              rw [j_X10_readAct_97] at hq
              unfold ws_X10_readAct_97 at h ⊢
              refine And.intro (fun c27 => ?_) (fun c27 => ?_)
              · have h := And.left h c27
                rw [if_pos c27] at hq
                rw [j_X10_readAct_109] at hq
                unfold ws_X10_readAct_109 at h ⊢
                refine ae ?_
                have h := h _ rfl
                refine du_X10_number (by decide) h ?_
                intro h
                refine And.intro (And.left h) ?_
                have h := And.right h
                have q9 := hq _ rfl
                dsimp only at q9
                exact q9 h
              · have h := And.right h c27
                rw [if_neg c27] at hq
                refine And.intro (fun c28 => ?_) (fun c28 => ?_)
                · have h := And.left h c28
                  rw [if_neg c28] at hq
                  have q9 := hq _ rfl
                  dsimp only at q9
                  exact q9 h
                · have h := And.right h c28
                  rw [if_pos c28] at hq
                  rw [j_X10_readAct_109] at hq
                  unfold ws_X10_readAct_109 at h ⊢
                  refine ae ?_
                  have h := h _ rfl
                  refine du_X10_number (by decide) h ?_
                  intro h
                  refine And.intro (And.left h) ?_
                  have h := And.right h
                  have q9 := hq _ rfl
                  dsimp only at q9
                  exact q9 h
            · have h := And.right h c26
              rw [if_pos c26] at hq
              refine ae ?_
              have h := h _ rfl
              refine du_X10_number (by decide) h ?_
              intro h
              refine And.intro (And.left h) ?_
              have h := And.right h
              rw [j_X10_readAct_97] at hq
              unfold ws_X10_readAct_97 at h ⊢
              refine And.intro (fun c29 => ?_) (fun c29 => ?_)
              · have h := And.left h c29
                rw [if_pos c29] at hq
                rw [j_X10_readAct_109] at hq
                unfold ws_X10_readAct_109 at h ⊢
                refine ae ?_
                have h := h _ rfl
                refine du_X10_number (by decide) h ?_
                intro h
                refine And.intro (And.left h) ?_
                have h := And.right h
                have q9 := hq _ rfl
                dsimp only at q9
                exact q9 h
              · have h := And.right h c29
                rw [if_neg c29] at hq
                refine And.intro (fun c30 => ?_) (fun c30 => ?_)
                · have h := And.left h c30
                  rw [if_neg c30] at hq
                  have q9 := hq _ rfl
                  dsimp only at q9
                  exact q9 h
                · have h := And.right h c30
                  rw [if_pos c30] at hq
                  rw [j_X10_readAct_109] at hq
                  unfold ws_X10_readAct_109 at h ⊢
                  refine ae ?_
                  have h := h _ rfl
                  refine du_X10_number (by decide) h ?_
                  intro h
                  refine And.intro (And.left h) ?_
                  have h := And.right h
                  have q9 := hq _ rfl
                  dsimp only at q9
                  exact q9 h
          · have h := And.right h c25
            rw [if_neg c25] at hq
            refine And.intro (fun c31 => ?_) (fun c31 => ?_)
            · have h := And.left h c31
              rw [if_pos c31] at hq
              rw [j_X10_readAct_61] at hq
              unfold ws_X10_readAct_61 at h ⊢
              refine ae ?_
              have h := h _ rfl
              refine And.intro (And.left h) ?_
              have h := And.right h
              refine And.intro (fun c32 => ?_) (fun c32 => ?_)
              · have h := And.left h c32
                rw [if_neg c32] at hq
                rw [j_X10_readAct_97] at hq
                unfold ws_X10_readAct_97 at h ⊢
                refine And.intro (fun c33 => ?_) (fun c33 => ?_)
                · have h := And.left h c33
                  rw [if_pos c33] at hq
                  rw [j_X10_readAct_109] at hq
                  unfold ws_X10_readAct_109 at h ⊢
                  refine ae ?_
                  have h := h _ rfl
                  refine du_X10_number (by decide) h ?_
                  intro h
                  refine And.intro (And.left h) ?_
                  have h := And.right h
                  have q9 := hq _ rfl
                  dsimp only at q9
                  exact q9 h
                · have h := And.right h c33
                  rw [if_neg c33] at hq
                  refine And.intro (fun c34 => ?_) (fun c34 => ?_)
                  · have h := And.left h c34
                    rw [if_neg c34] at hq
                    have q9 := hq _ rfl
                    dsimp only at q9
                    exact q9 h
                  · have h := And.right h c34
                    rw [if_pos c34] at hq
                    rw [j_X10_readAct_109] at hq
                    unfold ws_X10_readAct_109 at h ⊢
                    refine ae ?_
                    have h := h _ rfl
                    refine du_X10_number (by decide) h ?_
                    intro h
                    refine And.intro (And.left h) ?_
                    have h := And.right h
                    have q9 := hq _ rfl
                    dsimp only at q9
                    exact q9 h
              · have h := And.right h c32
                rw [if_pos c32] at hq
                refine ae ?_
                have h := h _ rfl
                refine du_X10_number (by decide) h ?_
                intro h
                refine And.intro (And.left h) ?_
                have h := And.right h
                rw [j_X10_readAct_97] at hq
                unfold ws_X10_readAct_97 at h ⊢
                refine And.intro (fun c35 => ?_) (fun c35 => ?_)
                · have h := And.left h c35
                  rw [if_pos c35] at hq
                  rw [j_X10_readAct_109] at hq
                  unfold ws_X10_readAct_109 at h ⊢
                  refine ae ?_
                  have h := h _ rfl
                  refine du_X10_number (by decide) h ?_
                  intro h
                  refine And.intro (And.left h) ?_
                  have h := And.right h
                  have q9 := hq _ rfl
                  dsimp only at q9
                  exact q9 h
                · have h := And.right h c35
                  rw [if_neg c35] at hq
                  refine And.intro (fun c36 => ?_) (fun c36 => ?_)
                  · have h := And.left h c36
                    rw [if_neg c36] at hq
                    have q9 := hq _ rfl
                    dsimp only at q9
                    exact q9 h
                  · have h := And.right h c36
                    rw [if_pos c36] at hq
                    rw [j_X10_readAct_109] at hq
                    unfold ws_X10_readAct_109 at h ⊢
                    refine ae ?_
                    have h := h _ rfl
                    refine du_X10_number (by decide) h ?_
                    intro h
                    refine And.intro (And.left h) ?_
                    have h := And.right h
                    have q9 := hq _ rfl
                    dsimp only at q9
                    exact q9 h
            · have h := And.right h c31
              rw [if_neg c31] at hq
              refine And.intro (fun c37 => ?_) (fun c37 => ?_)
              · have h := And.left h c37
                rw [if_pos c37] at hq
                rw [j_X10_readAct_61] at hq
                unfold ws_X10_readAct_61 at h ⊢
                refine ae ?_
                have h := h _ rfl
                refine And.intro (And.left h) ?_
                have h := And.right h
                refine And.intro (fun c38 => ?_) (fun c38 => ?_)
                · have h := And.left h c38
                  rw [if_neg c38] at hq
                  rw [j_X10_readAct_97] at hq
                  unfold ws_X10_readAct_97 at h ⊢
                  refine And.intro (fun c39 => ?_) (fun c39 => ?_)
                  · have h := And.left h c39
                    rw [if_pos c39] at hq
                    rw [j_X10_readAct_109] at hq
                    unfold ws_X10_readAct_109 at h ⊢
                    refine ae ?_
                    have h := h _ rfl
                    refine du_X10_number (by decide) h ?_
                    intro h
                    refine And.intro (And.left h) ?_
                    have h := And.right h
                    have q9 := hq _ rfl
                    dsimp only at q9
                    exact q9 h
                  · have h := And.right h c39
                    rw [if_neg c39] at hq
                    refine And.intro (fun c40 => ?_) (fun c40 => ?_)
                    · have h := And.left h c40
                      rw [if_neg c40] at hq
                      have q9 := hq _ rfl
                      dsimp only at q9
                      exact q9 h
                    · have h := And.right h c40
                      rw [if_pos c40] at hq
                      rw [j_X10_readAct_109] at hq
                      unfold ws_X10_readAct_109 at h ⊢
                      refine ae ?_
                      have h := h _ rfl
                      refine du_X10_number (by decide) h ?_
                      intro h
                      refine And.intro (And.left h) ?_
                      have h := And.right h
                      have q9 := hq _ rfl
                      dsimp only at q9
                      exact q9 h
                · have h := And.right h c38
                  rw [if_pos c38] at hq
                  refine ae ?_
                  have h := h _ rfl
                  refine du_X10_number (by decide) h ?_
                  intro h
                  refine And.intro (And.left h) ?_
                  have h := And.right h
                  rw [j_X10_readAct_97] at hq
                  unfold ws_X10_readAct_97 at h ⊢
                  refine And.intro (fun c41 => ?_) (fun c41 => ?_)
                  · have h := And.left h c41
                    rw [if_pos c41] at hq
                    rw [j_X10_readAct_109] at hq
                    unfold ws_X10_readAct_109 at h ⊢
                    refine ae ?_
                    have h := h _ rfl
                    refine du_X10_number (by decide) h ?_
                    intro h
                    refine And.intro (And.left h) ?_
                    have h := And.right h
                    have q9 := hq _ rfl
                    dsimp only at q9
                    exact q9 h
                  · have h := And.right h c41
                    rw [if_neg c41] at hq
                    refine And.intro (fun c42 => ?_) (fun c42 => ?_)
                    · have h := And.left h c42
                      rw [if_neg c42] at hq
                      have q9 := hq _ rfl
                      dsimp only at q9
                      exact q9 h
                    · have h := And.right h c42
                      rw [if_pos c42] at hq
                      rw [j_X10_readAct_109] at hq
                      unfold ws_X10_readAct_109 at h ⊢
                      refine ae ?_
                      have h := h _ rfl
                      refine du_X10_number (by decide) h ?_
                      intro h
                      refine And.intro (And.left h) ?_
                      have h := And.right h
                      have q9 := hq _ rfl
                      dsimp only at q9
                      exact q9 h
              · have h := And.right h c37
                rw [if_neg c37] at hq
                refine And.intro (fun c43 => ?_) (fun c43 => ?_)
                · have h := And.left h c43
                  rw [if_pos c43] at hq
                  rw [j_X10_readAct_61] at hq
                  unfold ws_X10_readAct_61 at h ⊢
                  refine ae ?_
                  have h := h _ rfl
                  refine And.intro (And.left h) ?_
                  have h := And.right h
                  refine And.intro (fun c44 => ?_) (fun c44 => ?_)
                  · have h := And.left h c44
                    rw [if_neg c44] at hq
                    rw [j_X10_readAct_97] at hq
                    unfold ws_X10_readAct_97 at h ⊢
                    refine And.intro (fun c45 => ?_) (fun c45 => ?_)
                    · have h := And.left h c45
                      rw [if_pos c45] at hq
                      rw [j_X10_readAct_109] at hq
                      unfold ws_X10_readAct_109 at h ⊢
                      refine ae ?_
                      have h := h _ rfl
                      refine du_X10_number (by decide) h ?_
                      intro h
                      refine And.intro (And.left h) ?_
                      have h := And.right h
                      have q9 := hq _ rfl
                      dsimp only at q9
                      exact q9 h
                    · have h := And.right h c45
                      rw [if_neg c45] at hq
                      refine And.intro (fun c46 => ?_) (fun c46 => ?_)
                      · have h := And.left h c46
                        rw [if_neg c46] at hq
                        have q9 := hq _ rfl
                        dsimp only at q9
                        exact q9 h
                      · have h := And.right h c46
                        rw [if_pos c46] at hq
                        rw [j_X10_readAct_109] at hq
                        unfold ws_X10_readAct_109 at h ⊢
                        refine ae ?_
                        have h := h _ rfl
                        refine du_X10_number (by decide) h ?_
                        intro h
                        refine And.intro (And.left h) ?_
                        have h := And.right h
                        have q9 := hq _ rfl
                        dsimp only at q9
                        exact q9 h
                  · have h := And.right h c44
                    rw [if_pos c44] at hq
                    refine ae ?_
                    have h := h _ rfl
                    refine du_X10_number (by decide) h ?_
                    intro h
                    refine And.intro (And.left h) ?_
                    have h := And.right h
                    rw [j_X10_readAct_97] at hq
                    unfold ws_X10_readAct_97 at h ⊢
                    refine And.intro (fun c47 => ?_) (fun c47 => ?_)
                    · have h := And.left h c47
                      rw [if_pos c47] at hq
                      rw [j_X10_readAct_109] at hq
                      unfold ws_X10_readAct_109 at h ⊢
                      refine ae ?_
                      have h := h _ rfl
                      refine du_X10_number (by decide) h ?_
                      intro h
                      refine And.intro (And.left h) ?_
                      have h := And.right h
                      have q9 := hq _ rfl
                      dsimp only at q9
                      exact q9 h
                    · have h := And.right h c47
                      rw [if_neg c47] at hq
                      refine And.intro (fun c48 => ?_) (fun c48 => ?_)
                      · have h := And.left h c48
                        rw [if_neg c48] at hq
                        have q9 := hq _ rfl
                        dsimp only at q9
                        exact q9 h
                      · have h := And.right h c48
                        rw [if_pos c48] at hq
                        rw [j_X10_readAct_109] at hq
                        unfold ws_X10_readAct_109 at h ⊢
                        refine ae ?_
                        have h := h _ rfl
                        refine du_X10_number (by decide) h ?_
                        intro h
                        refine And.intro (And.left h) ?_
                        have h := And.right h
                        have q9 := hq _ rfl
                        dsimp only at q9
                        exact q9 h
                · have h := And.right h c43
                  rw [if_neg c43] at hq
                  refine du_X10_fault h ?_
                  intro h
                  rw [j_X10_readAct_61] at hq
                  unfold ws_X10_readAct_61 at h ⊢
                  refine ae ?_
                  have h := h _ rfl
                  refine And.intro (And.left h) ?_
                  have h := And.right h
                  refine And.intro (fun c49 => ?_) (fun c49 => ?_)
                  · have h := And.left h c49
                    rw [if_neg c49] at hq
                    rw [j_X10_readAct_97] at hq
                    unfold ws_X10_readAct_97 at h ⊢
                    refine And.intro (fun c50 => ?_) (fun c50 => ?_)
                    · have h := And.left h c50
                      rw [if_pos c50] at hq
                      rw [j_X10_readAct_109] at hq
                      unfold ws_X10_readAct_109 at h ⊢
                      refine ae ?_
                      have h := h _ rfl
                      refine du_X10_number (by decide) h ?_
                      intro h
                      refine And.intro (And.left h) ?_
                      have h := And.right h
                      have q9 := hq _ rfl
                      dsimp only at q9
                      exact q9 h
                    · have h := And.right h c50
                      rw [if_neg c50] at hq
                      refine And.intro (fun c51 => ?_) (fun c51 => ?_)
                      · have h := And.left h c51
                        rw [if_neg c51] at hq
                        have q9 := hq _ rfl
                        dsimp only at q9
                        exact q9 h
                      · have h := And.right h c51
                        rw [if_pos c51] at hq
                        rw [j_X10_readAct_109] at hq
                        unfold ws_X10_readAct_109 at h ⊢
                        refine ae ?_
                        have h := h _ rfl
                        refine du_X10_number (by decide) h ?_
                        intro h
                        refine And.intro (And.left h) ?_
                        have h := And.right h
                        have q9 := hq _ rfl
                        dsimp only at q9
                        exact q9 h
                  · have h := And.right h c49
                    rw [if_pos c49] at hq
                    refine ae ?_
                    have h := h _ rfl
                    refine du_X10_number (by decide) h ?_
                    intro h
                    refine And.intro (And.left h) ?_
                    have h := And.right h
                    rw [j_X10_readAct_97] at hq
                    unfold ws_X10_readAct_97 at h ⊢
                    refine And.intro (fun c52 => ?_) (fun c52 => ?_)
                    · have h := And.left h c52
                      rw [if_pos c52] at hq
                      rw [j_X10_readAct_109] at hq
                      unfold ws_X10_readAct_109 at h ⊢
                      refine ae ?_
                      have h := h _ rfl
                      refine du_X10_number (by decide) h ?_
                      intro h
                      refine And.intro (And.left h) ?_
                      have h := And.right h
                      have q9 := hq _ rfl
                      dsimp only at q9
                      exact q9 h
                    · have h := And.right h c52
                      rw [if_neg c52] at hq
                      refine And.intro (fun c53 => ?_) (fun c53 => ?_)
                      · have h := And.left h c53
                        rw [if_neg c53] at hq
                        have q9 := hq _ rfl
                        dsimp only at q9
                        exact q9 h
                      · have h := And.right h c53
                        rw [if_pos c53] at hq
                        rw [j_X10_readAct_109] at hq
                        unfold ws_X10_readAct_109 at h ⊢
                        refine ae ?_
                        have h := h _ rfl
                        refine du_X10_number (by decide) h ?_
                        intro h
                        refine And.intro (And.left h) ?_
                        have h := And.right h
                        have q9 := hq _ rfl
                        dsimp only at q9
                        exact q9 h
theorem du_X10_readAct {P Q : Int32 → Int32 → (Nat → Int32) → Prop} {p0 : Int32} {jY : Nat} {m_length qG uW eY : Int32} {rG rQ wE : Nat → Int32} (h : wp_X10_readAct P p0 jY m_length qG uW eY rG rQ wE) (hq : P (F_X10_readAct p0 jY m_length qG uW eY rG rQ wE).1 (F_X10_readAct p0 jY m_length qG uW eY rG rQ wE).2.1 (F_X10_readAct p0 jY m_length qG uW eY rG rQ wE).2.2 → Q (F_X10_readAct p0 jY m_length qG uW eY rG rQ wE).1 (F_X10_readAct p0 jY m_length qG uW eY rG rQ wE).2.1 (F_X10_readAct p0 jY m_length qG uW eY rG rQ wE).2.2) : wp_X10_readAct Q p0 jY m_length qG uW eY rG rQ wE := dt_X10_readAct h (fun o eo => by rw [eo]; exact hq)
theorem dw_X10_readAct {Q : Int32 → Int32 → (Nat → Int32) → Prop} {p0 : Int32} {jY : Nat} {m_length qG uW eY : Int32} {rG rQ wE : Nat → Int32} (h : wp_X10_readAct (fun o0 o1 o2 => (o0, o1, o2) = F_X10_readAct p0 jY m_length qG uW eY rG rQ wE → Q o0 o1 o2) p0 jY m_length qG uW eY rG rQ wE) : wp_X10_readAct Q p0 jY m_length qG uW eY rG rQ wE := dt_X10_readAct h (fun o eo hp => hp eo)
noncomputable def bd_X10_lay_b2_2 (rD : Nat → Int32) (x2 c : Int32) (s : (Nat → Int32)) : (Nat → Int32) := (upd s (x2 + c).toNatClampNeg (rD c.toNatClampNeg))
noncomputable def ex_X10_lay_b2_2 {R : Type} (po : (Nat → Int32) → R) (rD : Nat → Int32) (x2 c : Int32) (s : (Nat → Int32)) : R := po s
set_option maxHeartbeats 200000 in
set_option maxRecDepth 10000 in
theorem dl_X10_lay_b2_2 {P Q : (Nat → Int32) → Prop} {rD : Nat → Int32} {x2 : Int32} {a : (Nat → Int32)} {i : Nat} (hi0 : i < 2147483648) (hE : ∀ (c : Int32) (s : (Nat → Int32)), c = nI (i + (Int32.toInt 21 - ((i : Nat) : Int)).toNat) → s = itr (bd_X10_lay_b2_2 rD x2) a i (Int32.toInt 21 - ((i : Nat) : Int)).toNat → (P s) → (Q s)) : ∀ (n k : Nat) (c : Int32), c = nI (i + k) → k ≤ (Int32.toInt 21 - ((i : Nat) : Int)).toNat → wb_X10_lay_b2_2 P rD n x2 c (itr (bd_X10_lay_b2_2 rD x2) a i k) → wb_X10_lay_b2_2 Q rD n x2 c (itr (bd_X10_lay_b2_2 rD x2) a i k) := by
  intro n
  induction n with
  | zero => intro k c hc hk h; exact False.elim h
  | succ n ih =>
    intro k c hc hk h
    have hr := tp_r 21
    have hi : Int32.toInt c = ((i + k : Nat) : Int) := by rw [hc]; exact nI_toInt (by omega)
    refine And.intro (fun t0 => ?_) (fun t0 => ?_)
    · have h := And.left h t0
      have t1 := (fa_le _ _).mp t0
      have hk2 : k = (Int32.toInt 21 - ((i : Nat) : Int)).toNat := by omega
      subst hk2
      exact hE _ _ hc rfl h
    · have h := And.right h t0
      have t1 := mt (fa_le _ _).mpr t0
      have hs : ∀ o : (Nat → Int32), o = itr (bd_X10_lay_b2_2 rD x2) a i (k + 1) → wb_X10_lay_b2_2 P rD n x2 (c + 1) o → wb_X10_lay_b2_2 Q rD n x2 (c + 1) o := by
        intro o eo h9
        have q := ih (k + 1) (c + 1) (by rw [hc]; exact nI_1 _) (by omega)
        rw [← eo] at q
        exact q h9
      rw [itr_s, ← hc, bd_X10_lay_b2_2] at hs
      refine ae ?_
      have h := h _ rfl
      refine And.intro (And.left h) ?_
      have h := And.right h
      refine ae ?_
      have h := h _ rfl
      refine And.intro (And.left h) ?_
      have h := And.right h
      refine ae ?_
      have h := h _ rfl
      have q9 := hs _ rfl
      exact q9 h
noncomputable def F_X10_lay_b2 (p2 : Int32) (rD uZ : Nat → Int32) : (Nat → Int32) := ex_X10_lay_b2_2 (fun o0 => o0) rD p2 (nI (0 + (Int32.toInt 21 - ((0 : Nat) : Int)).toNat)) (itr (bd_X10_lay_b2_2 rD p2) uZ 0 (Int32.toInt 21 - ((0 : Nat) : Int)).toNat)
set_option maxHeartbeats 200000 in
set_option maxRecDepth 10000 in
theorem dt_X10_lay_b2 {P Q : (Nat → Int32) → Prop} {p2 : Int32} {rD uZ : Nat → Int32} (h : wp_X10_lay_b2 P p2 rD uZ) (hq : ∀ o : (Nat → Int32), o = F_X10_lay_b2 p2 rD uZ → P o → Q o) : wp_X10_lay_b2 Q p2 rD uZ := by
  rw [F_X10_lay_b2] at hq
  obtain ⟨n1, h⟩ := h
  refine ⟨n1, dl_X10_lay_b2_2 (a := uZ) (i := 0) (by decide) ?_ n1 0 0 (by decide) (Nat.zero_le _) h⟩
  intro cc2 s3 ec4 es5 h
  rw [← ec4, ← es5, ex_X10_lay_b2_2] at hq
  have q9 := hq _ rfl
  exact q9 h
theorem du_X10_lay_b2 {P Q : (Nat → Int32) → Prop} {p2 : Int32} {rD uZ : Nat → Int32} (h : wp_X10_lay_b2 P p2 rD uZ) (hq : P (F_X10_lay_b2 p2 rD uZ) → Q (F_X10_lay_b2 p2 rD uZ)) : wp_X10_lay_b2 Q p2 rD uZ := dt_X10_lay_b2 h (fun o eo => by rw [eo]; exact hq)
theorem dw_X10_lay_b2 {Q : (Nat → Int32) → Prop} {p2 : Int32} {rD uZ : Nat → Int32} (h : wp_X10_lay_b2 (fun o0 => o0 = F_X10_lay_b2 p2 rD uZ → Q o0) p2 rD uZ) : wp_X10_lay_b2 Q p2 rD uZ := dt_X10_lay_b2 h (fun o eo hp => hp eo)
noncomputable def bd_X10_lay_b3_2 (uZ : Nat → Int32) (x2 c : Int32) (s : (Nat → Int32)) : (Nat → Int32) := (upd s (x2 + c).toNatClampNeg (uZ c.toNatClampNeg))
noncomputable def ex_X10_lay_b3_2 {R : Type} (po : (Nat → Int32) → R) (uZ : Nat → Int32) (x2 c : Int32) (s : (Nat → Int32)) : R := po s
set_option maxHeartbeats 200000 in
set_option maxRecDepth 10000 in
theorem dl_X10_lay_b3_2 {P Q : (Nat → Int32) → Prop} {uZ : Nat → Int32} {x2 : Int32} {a : (Nat → Int32)} {i : Nat} (hi0 : i < 2147483648) (hE : ∀ (c : Int32) (s : (Nat → Int32)), c = nI (i + (Int32.toInt 21 - ((i : Nat) : Int)).toNat) → s = itr (bd_X10_lay_b3_2 uZ x2) a i (Int32.toInt 21 - ((i : Nat) : Int)).toNat → (P s) → (Q s)) : ∀ (n k : Nat) (c : Int32), c = nI (i + k) → k ≤ (Int32.toInt 21 - ((i : Nat) : Int)).toNat → wb_X10_lay_b3_2 P uZ n x2 c (itr (bd_X10_lay_b3_2 uZ x2) a i k) → wb_X10_lay_b3_2 Q uZ n x2 c (itr (bd_X10_lay_b3_2 uZ x2) a i k) := by
  intro n
  induction n with
  | zero => intro k c hc hk h; exact False.elim h
  | succ n ih =>
    intro k c hc hk h
    have hr := tp_r 21
    have hi : Int32.toInt c = ((i + k : Nat) : Int) := by rw [hc]; exact nI_toInt (by omega)
    refine And.intro (fun t0 => ?_) (fun t0 => ?_)
    · have h := And.left h t0
      have t1 := (fa_le _ _).mp t0
      have hk2 : k = (Int32.toInt 21 - ((i : Nat) : Int)).toNat := by omega
      subst hk2
      exact hE _ _ hc rfl h
    · have h := And.right h t0
      have t1 := mt (fa_le _ _).mpr t0
      have hs : ∀ o : (Nat → Int32), o = itr (bd_X10_lay_b3_2 uZ x2) a i (k + 1) → wb_X10_lay_b3_2 P uZ n x2 (c + 1) o → wb_X10_lay_b3_2 Q uZ n x2 (c + 1) o := by
        intro o eo h9
        have q := ih (k + 1) (c + 1) (by rw [hc]; exact nI_1 _) (by omega)
        rw [← eo] at q
        exact q h9
      rw [itr_s, ← hc, bd_X10_lay_b3_2] at hs
      refine ae ?_
      have h := h _ rfl
      refine And.intro (And.left h) ?_
      have h := And.right h
      refine ae ?_
      have h := h _ rfl
      refine And.intro (And.left h) ?_
      have h := And.right h
      refine ae ?_
      have h := h _ rfl
      have q9 := hs _ rfl
      exact q9 h
noncomputable def F_X10_lay_b3 (p2 : Int32) (uQ uZ : Nat → Int32) : (Nat → Int32) := ex_X10_lay_b3_2 (fun o0 => o0) uZ p2 (nI (0 + (Int32.toInt 21 - ((0 : Nat) : Int)).toNat)) (itr (bd_X10_lay_b3_2 uZ p2) uQ 0 (Int32.toInt 21 - ((0 : Nat) : Int)).toNat)
set_option maxHeartbeats 200000 in
set_option maxRecDepth 10000 in
theorem dt_X10_lay_b3 {P Q : (Nat → Int32) → Prop} {p2 : Int32} {uQ uZ : Nat → Int32} (h : wp_X10_lay_b3 P p2 uQ uZ) (hq : ∀ o : (Nat → Int32), o = F_X10_lay_b3 p2 uQ uZ → P o → Q o) : wp_X10_lay_b3 Q p2 uQ uZ := by
  rw [F_X10_lay_b3] at hq
  obtain ⟨n1, h⟩ := h
  refine ⟨n1, dl_X10_lay_b3_2 (a := uQ) (i := 0) (by decide) ?_ n1 0 0 (by decide) (Nat.zero_le _) h⟩
  intro cc2 s3 ec4 es5 h
  rw [← ec4, ← es5, ex_X10_lay_b3_2] at hq
  have q9 := hq _ rfl
  exact q9 h
theorem du_X10_lay_b3 {P Q : (Nat → Int32) → Prop} {p2 : Int32} {uQ uZ : Nat → Int32} (h : wp_X10_lay_b3 P p2 uQ uZ) (hq : P (F_X10_lay_b3 p2 uQ uZ) → Q (F_X10_lay_b3 p2 uQ uZ)) : wp_X10_lay_b3 Q p2 uQ uZ := dt_X10_lay_b3 h (fun o eo => by rw [eo]; exact hq)
theorem dw_X10_lay_b3 {Q : (Nat → Int32) → Prop} {p2 : Int32} {uQ uZ : Nat → Int32} (h : wp_X10_lay_b3 (fun o0 => o0 = F_X10_lay_b3 p2 uQ uZ → Q o0) p2 uQ uZ) : wp_X10_lay_b3 Q p2 uQ uZ := dt_X10_lay_b3 h (fun o eo hp => hp eo)
noncomputable def bd_X10_remember_b2_11 (uZ : Nat → Int32) (bT c : Int32) (s : (Nat → Int32)) : (Nat → Int32) := (upd s c.toNatClampNeg (s (c + 21).toNatClampNeg))
noncomputable def j_X10_remember_b2_49 {R : Type} (po : Int32 → (Nat → Int32) → R) (uZ : Nat → Int32) (bT : Int32) (uQ : Nat → Int32) : R := po (bT + 1) (F_X10_lay_b3 (21 * bT) uQ uZ)
noncomputable def ex_X10_remember_b2_11 {R : Type} (po : Int32 → (Nat → Int32) → R) (uZ : Nat → Int32) (bT c : Int32) (s : (Nat → Int32)) : R := j_X10_remember_b2_49 po uZ (bT - 1) s
set_option maxHeartbeats 200000 in
set_option maxRecDepth 10000 in
theorem dl_X10_remember_b2_11 {P Q : Int32 → (Nat → Int32) → Prop} {uZ : Nat → Int32} {bT : Int32} {a : (Nat → Int32)} {i : Nat} (hi0 : i < 2147483648) (hE : ∀ (c : Int32) (s : (Nat → Int32)), c = nI (i + (Int32.toInt 231 - ((i : Nat) : Int)).toNat) → s = itr (bd_X10_remember_b2_11 uZ bT) a i (Int32.toInt 231 - ((i : Nat) : Int)).toNat → (∀ v_4 : Int32, v_4 = bT - 1 → ws_X10_remember_b2_49 P uZ v_4 s) → (∀ v_4 : Int32, v_4 = bT - 1 → ws_X10_remember_b2_49 Q uZ v_4 s)) : ∀ (n k : Nat) (c : Int32), c = nI (i + k) → k ≤ (Int32.toInt 231 - ((i : Nat) : Int)).toNat → wb_X10_remember_b2_11 P uZ n c bT (itr (bd_X10_remember_b2_11 uZ bT) a i k) → wb_X10_remember_b2_11 Q uZ n c bT (itr (bd_X10_remember_b2_11 uZ bT) a i k) := by
  intro n
  induction n with
  | zero => intro k c hc hk h; exact False.elim h
  | succ n ih =>
    intro k c hc hk h
    have hr := tp_r 231
    have hi : Int32.toInt c = ((i + k : Nat) : Int) := by rw [hc]; exact nI_toInt (by omega)
    refine And.intro (fun t0 => ?_) (fun t0 => ?_)
    · have h := And.left h t0
      have t1 := (fa_le _ _).mp t0
      have hk2 : k = (Int32.toInt 231 - ((i : Nat) : Int)).toNat := by omega
      subst hk2
      exact hE _ _ hc rfl h
    · have h := And.right h t0
      have t1 := mt (fa_le _ _).mpr t0
      have hs : ∀ o : (Nat → Int32), o = itr (bd_X10_remember_b2_11 uZ bT) a i (k + 1) → wb_X10_remember_b2_11 P uZ n (c + 1) bT o → wb_X10_remember_b2_11 Q uZ n (c + 1) bT o := by
        intro o eo h9
        have q := ih (k + 1) (c + 1) (by rw [hc]; exact nI_1 _) (by omega)
        rw [← eo] at q
        exact q h9
      rw [itr_s, ← hc, bd_X10_remember_b2_11] at hs
      refine ae ?_
      have h := h _ rfl
      refine And.intro (And.left h) ?_
      have h := And.right h
      refine ae ?_
      have h := h _ rfl
      refine And.intro (And.left h) ?_
      have h := And.right h
      refine ae ?_
      have h := h _ rfl
      have q9 := hs _ rfl
      exact q9 h
noncomputable def F_X10_remember_b2 (bT : Int32) (uQ uZ : Nat → Int32) : Int32 × (Nat → Int32) := if bT = 12 then (ex_X10_remember_b2_11 (fun o0 o1 => (o0, o1)) uZ bT (nI (0 + (Int32.toInt 231 - ((0 : Nat) : Int)).toNat)) (itr (bd_X10_remember_b2_11 uZ bT) uQ 0 (Int32.toInt 231 - ((0 : Nat) : Int)).toNat)) else (j_X10_remember_b2_49 (fun o0 o1 => (o0, o1)) uZ bT uQ)
set_option maxHeartbeats 200000 in
set_option maxRecDepth 10000 in
theorem dt_X10_remember_b2 {P Q : Int32 → (Nat → Int32) → Prop} {bT : Int32} {uQ uZ : Nat → Int32} (h : wp_X10_remember_b2 P bT uQ uZ) (hq : ∀ o : Int32 × (Nat → Int32), o = F_X10_remember_b2 bT uQ uZ → P o.1 o.2 → Q o.1 o.2) : wp_X10_remember_b2 Q bT uQ uZ := by
  rw [F_X10_remember_b2] at hq
  refine And.intro (fun c1 => ?_) (fun c1 => ?_)
  · have h := And.left h c1
    rw [if_neg c1] at hq
    rw [j_X10_remember_b2_49] at hq
    unfold ws_X10_remember_b2_49 at h ⊢
    refine ae ?_
    have h := h _ rfl
    refine du_X10_lay_b3 h ?_
    intro h
    refine ae ?_
    have h := h _ rfl
    have q9 := hq _ rfl
    dsimp only at q9
    exact q9 h
  · have h := And.right h c1
    rw [if_pos c1] at hq
    obtain ⟨n2, h⟩ := h
    refine ⟨n2, dl_X10_remember_b2_11 (a := uQ) (i := 0) (by decide) ?_ n2 0 0 (by decide) (Nat.zero_le _) h⟩
    intro cc3 s4 ec5 es6 h
    rw [← ec5, ← es6, ex_X10_remember_b2_11] at hq
    refine ae ?_
    have h := h _ rfl
    rw [j_X10_remember_b2_49] at hq
    unfold ws_X10_remember_b2_49 at h ⊢
    refine ae ?_
    have h := h _ rfl
    refine du_X10_lay_b3 h ?_
    intro h
    refine ae ?_
    have h := h _ rfl
    have q9 := hq _ rfl
    dsimp only at q9
    exact q9 h
theorem du_X10_remember_b2 {P Q : Int32 → (Nat → Int32) → Prop} {bT : Int32} {uQ uZ : Nat → Int32} (h : wp_X10_remember_b2 P bT uQ uZ) (hq : P (F_X10_remember_b2 bT uQ uZ).1 (F_X10_remember_b2 bT uQ uZ).2 → Q (F_X10_remember_b2 bT uQ uZ).1 (F_X10_remember_b2 bT uQ uZ).2) : wp_X10_remember_b2 Q bT uQ uZ := dt_X10_remember_b2 h (fun o eo => by rw [eo]; exact hq)
theorem dw_X10_remember_b2 {Q : Int32 → (Nat → Int32) → Prop} {bT : Int32} {uQ uZ : Nat → Int32} (h : wp_X10_remember_b2 (fun o0 o1 => (o0, o1) = F_X10_remember_b2 bT uQ uZ → Q o0 o1) bT uQ uZ) : wp_X10_remember_b2 Q bT uQ uZ := dt_X10_remember_b2 h (fun o eo hp => hp eo)
noncomputable def bd_X10_undo_26 (uQ : Nat → Int32) (dG bT c : Int32) (s : (Nat → Int32)) : (Nat → Int32) := (upd s c.toNatClampNeg (uQ ((21 * bT) + c).toNatClampNeg))
noncomputable def ex_X10_undo_26 {R : Type} (po : Int32 → Int32 → Int32 → (Nat → Int32) → R) (uQ : Nat → Int32) (dG bT c : Int32) (s : (Nat → Int32)) : R := po bT dG bT s
set_option maxHeartbeats 200000 in
set_option maxRecDepth 10000 in
theorem dl_X10_undo_26 {P Q : Int32 → Int32 → Int32 → (Nat → Int32) → Prop} {uQ : Nat → Int32} {dG bT : Int32} {a : (Nat → Int32)} {i : Nat} (hi0 : i < 2147483648) (hE : ∀ (c : Int32) (s : (Nat → Int32)), c = nI (i + (Int32.toInt 21 - ((i : Nat) : Int)).toNat) → s = itr (bd_X10_undo_26 uQ dG bT) a i (Int32.toInt 21 - ((i : Nat) : Int)).toNat → (P bT dG bT s) → (Q bT dG bT s)) : ∀ (n k : Nat) (c : Int32), c = nI (i + k) → k ≤ (Int32.toInt 21 - ((i : Nat) : Int)).toNat → wb_X10_undo_26 P uQ n c dG bT (itr (bd_X10_undo_26 uQ dG bT) a i k) → wb_X10_undo_26 Q uQ n c dG bT (itr (bd_X10_undo_26 uQ dG bT) a i k) := by
  intro n
  induction n with
  | zero => intro k c hc hk h; exact False.elim h
  | succ n ih =>
    intro k c hc hk h
    have hr := tp_r 21
    have hi : Int32.toInt c = ((i + k : Nat) : Int) := by rw [hc]; exact nI_toInt (by omega)
    refine And.intro (fun t0 => ?_) (fun t0 => ?_)
    · have h := And.left h t0
      have t1 := (fa_le _ _).mp t0
      have hk2 : k = (Int32.toInt 21 - ((i : Nat) : Int)).toNat := by omega
      subst hk2
      exact hE _ _ hc rfl h
    · have h := And.right h t0
      have t1 := mt (fa_le _ _).mpr t0
      have hs : ∀ o : (Nat → Int32), o = itr (bd_X10_undo_26 uQ dG bT) a i (k + 1) → wb_X10_undo_26 P uQ n (c + 1) dG bT o → wb_X10_undo_26 Q uQ n (c + 1) dG bT o := by
        intro o eo h9
        have q := ih (k + 1) (c + 1) (by rw [hc]; exact nI_1 _) (by omega)
        rw [← eo] at q
        exact q h9
      rw [itr_s, ← hc, bd_X10_undo_26] at hs
      refine ae ?_
      have h := h _ rfl
      refine ae ?_
      have h := h _ rfl
      refine And.intro (And.left h) ?_
      have h := And.right h
      refine ae ?_
      have h := h _ rfl
      refine And.intro (And.left h) ?_
      have h := And.right h
      refine ae ?_
      have h := h _ rfl
      have q9 := hs _ rfl
      exact q9 h
noncomputable def F_X10_undo (dG bT : Int32) (rD uQ : Nat → Int32) : Int32 × Int32 × Int32 × (Nat → Int32) := if bT = 0 then ((-1), 0, bT, rD) else (ex_X10_undo_26 (fun o0 o1 o2 o3 => (o0, o1, o2, o3)) uQ 0 (bT - 1) (nI (0 + (Int32.toInt 21 - ((0 : Nat) : Int)).toNat)) (itr (bd_X10_undo_26 uQ 0 (bT - 1)) rD 0 (Int32.toInt 21 - ((0 : Nat) : Int)).toNat))
set_option maxHeartbeats 200000 in
set_option maxRecDepth 10000 in
theorem dt_X10_undo {P Q : Int32 → Int32 → Int32 → (Nat → Int32) → Prop} {dG bT : Int32} {rD uQ : Nat → Int32} (h : wp_X10_undo P dG bT rD uQ) (hq : ∀ o : Int32 × Int32 × Int32 × (Nat → Int32), o = F_X10_undo dG bT rD uQ → P o.1 o.2.1 o.2.2.1 o.2.2.2 → Q o.1 o.2.1 o.2.2.1 o.2.2.2) : wp_X10_undo Q dG bT rD uQ := by
  rw [F_X10_undo] at hq
  refine And.intro (fun c1 => ?_) (fun c1 => ?_)
  · have h := And.left h c1
    rw [if_neg c1] at hq
    refine ae ?_
    have h := h _ rfl
    obtain ⟨n2, h⟩ := h
    refine ⟨n2, dl_X10_undo_26 (a := rD) (i := 0) (by decide) ?_ n2 0 0 (by decide) (Nat.zero_le _) h⟩
    intro cc3 s4 ec5 es6 h
    rw [← ec5, ← es6, ex_X10_undo_26] at hq
    have q9 := hq _ rfl
    dsimp only at q9
    exact q9 h
  · have h := And.right h c1
    rw [if_pos c1] at hq
    have q9 := hq _ rfl
    dsimp only at q9
    exact q9 h
theorem du_X10_undo {P Q : Int32 → Int32 → Int32 → (Nat → Int32) → Prop} {dG bT : Int32} {rD uQ : Nat → Int32} (h : wp_X10_undo P dG bT rD uQ) (hq : P (F_X10_undo dG bT rD uQ).1 (F_X10_undo dG bT rD uQ).2.1 (F_X10_undo dG bT rD uQ).2.2.1 (F_X10_undo dG bT rD uQ).2.2.2 → Q (F_X10_undo dG bT rD uQ).1 (F_X10_undo dG bT rD uQ).2.1 (F_X10_undo dG bT rD uQ).2.2.1 (F_X10_undo dG bT rD uQ).2.2.2) : wp_X10_undo Q dG bT rD uQ := dt_X10_undo h (fun o eo => by rw [eo]; exact hq)
theorem dw_X10_undo {Q : Int32 → Int32 → Int32 → (Nat → Int32) → Prop} {dG bT : Int32} {rD uQ : Nat → Int32} (h : wp_X10_undo (fun o0 o1 o2 o3 => (o0, o1, o2, o3) = F_X10_undo dG bT rD uQ → Q o0 o1 o2 o3) dG bT rD uQ) : wp_X10_undo Q dG bT rD uQ := dt_X10_undo h (fun o eo hp => hp eo)
noncomputable def j_X10_from_69 {R : Type} (k29 : Int32 → Int32 → Int32 → Int32 → Int32 → R) (bW aG : Int32) (rD m_x jA oY pR pX : Nat → Int32) (x1 x2 x4 k0 k1 dG : Int32) : R := k29 x1 x2 (k0 ||| k1) (x4 + 1) dG
noncomputable def bd_X10_from_29 (bW aG : Int32) (rD m_x jA oY pR pX : Nat → Int32) (x1 x2 dG c s : Int32) : Int32 := if (F_X10_isWithin x1 c (F_X10_reachBy (rD (18 : Int32).toNatClampNeg) x2 pX) m_x jA oY pR) = 0 then (j_X10_from_69 (fun q0 q1 q2 q3 q4 => q2) bW aG rD m_x jA oY pR pX x1 x2 c s 0 dG) else (j_X10_from_69 (fun q0 q1 q2 q3 q4 => q2) bW aG rD m_x jA oY pR pX x1 x2 c s (1 <<< (c &&& 31)) dG)
noncomputable def ex_X10_from_29 {R : Type} (po : Int32 → Int32 → R) (bW aG : Int32) (rD m_x jA oY pR pX : Nat → Int32) (x1 x2 dG c s : Int32) : R := po s dG
set_option maxHeartbeats 200000 in
set_option maxRecDepth 10000 in
theorem dl_X10_from_29 {P Q : Int32 → Int32 → Prop} {bW aG : Int32} {rD m_x jA oY pR pX : Nat → Int32} {x1 x2 dG a : Int32} {i : Nat} (hi0 : i < 2147483648) (hE : ∀ (c : Int32) (s : Int32), c = nI (i + (Int32.toInt aG - ((i : Nat) : Int)).toNat) → s = itr (bd_X10_from_29 bW aG rD m_x jA oY pR pX x1 x2 dG) a i (Int32.toInt aG - ((i : Nat) : Int)).toNat → (P s dG) → (Q s dG)) : ∀ (n k : Nat) (c : Int32), c = nI (i + k) → k ≤ (Int32.toInt aG - ((i : Nat) : Int)).toNat → wb_X10_from_29 P bW aG rD m_x jA oY pR pX n x1 x2 (itr (bd_X10_from_29 bW aG rD m_x jA oY pR pX x1 x2 dG) a i k) c dG → wb_X10_from_29 Q bW aG rD m_x jA oY pR pX n x1 x2 (itr (bd_X10_from_29 bW aG rD m_x jA oY pR pX x1 x2 dG) a i k) c dG := by
  intro n
  induction n with
  | zero => intro k c hc hk h; exact False.elim h
  | succ n ih =>
    intro k c hc hk h
    have hr := tp_r aG
    have hi : Int32.toInt c = ((i + k : Nat) : Int) := by rw [hc]; exact nI_toInt (by omega)
    refine And.intro (fun t0 => ?_) (fun t0 => ?_)
    · have h := And.left h t0
      have t1 := (fa_le _ _).mp t0
      have hk2 : k = (Int32.toInt aG - ((i : Nat) : Int)).toNat := by omega
      subst hk2
      exact hE _ _ hc rfl h
    · have h := And.right h t0
      have t1 := mt (fa_le _ _).mpr t0
      have hs : ∀ o : Int32, o = itr (bd_X10_from_29 bW aG rD m_x jA oY pR pX x1 x2 dG) a i (k + 1) → wb_X10_from_29 P bW aG rD m_x jA oY pR pX n x1 x2 o (c + 1) dG → wb_X10_from_29 Q bW aG rD m_x jA oY pR pX n x1 x2 o (c + 1) dG := by
        intro o eo h9
        have q := ih (k + 1) (c + 1) (by rw [hc]; exact nI_1 _) (by omega)
        rw [← eo] at q
        exact q h9
      rw [itr_s, ← hc, bd_X10_from_29] at hs
      refine ae ?_
      have h := h _ rfl
      refine du_X10_reachBy h ?_
      intro h
      refine du_X10_isWithin h ?_
      intro h
      refine And.intro (fun c1 => ?_) (fun c1 => ?_)
      · have h := And.left h c1
        rw [if_pos c1] at hs
        rw [j_X10_from_69] at hs
        unfold ws_X10_from_69 at h ⊢
        refine ae ?_
        have h := h _ rfl
        refine ae ?_
        have h := h _ rfl
        have q9 := hs _ rfl
        exact q9 h
      · have h := And.right h c1
        rw [if_neg c1] at hs
        refine ae ?_
        have h := h _ rfl
        rw [j_X10_from_69] at hs
        unfold ws_X10_from_69 at h ⊢
        refine ae ?_
        have h := h _ rfl
        refine ae ?_
        have h := h _ rfl
        have q9 := hs _ rfl
        exact q9 h
noncomputable def F_X10_from (p0 p1 bW aG dG : Int32) (rD m_x jA oY pR pX : Nat → Int32) : Int32 × Int32 := if (F_X10_isFruit p0 bW) = 0 then ((-1), 0) else (if (F_X10_in p1 0 1) = 0 then ((-1), 0) else (ex_X10_from_29 (fun o0 o1 => (o0, o1)) bW aG rD m_x jA oY pR pX p0 p1 0 (nI (0 + (Int32.toInt aG - ((0 : Nat) : Int)).toNat)) (itr (bd_X10_from_29 bW aG rD m_x jA oY pR pX p0 p1 0) 0 0 (Int32.toInt aG - ((0 : Nat) : Int)).toNat)))
set_option maxHeartbeats 200000 in
set_option maxRecDepth 10000 in
theorem dt_X10_from {P Q : Int32 → Int32 → Prop} {p0 p1 bW aG dG : Int32} {rD m_x jA oY pR pX : Nat → Int32} (h : wp_X10_from P p0 p1 bW aG dG rD m_x jA oY pR pX) (hq : ∀ o : Int32 × Int32, o = F_X10_from p0 p1 bW aG dG rD m_x jA oY pR pX → P o.1 o.2 → Q o.1 o.2) : wp_X10_from Q p0 p1 bW aG dG rD m_x jA oY pR pX := by
  rw [F_X10_from] at hq
  refine du_X10_isFruit h ?_
  intro h
  refine And.intro (fun c1 => ?_) (fun c1 => ?_)
  · have h := And.left h c1
    rw [if_pos c1] at hq
    have q9 := hq _ rfl
    dsimp only at q9
    exact q9 h
  · have h := And.right h c1
    rw [if_neg c1] at hq
    refine du_X10_in h ?_
    intro h
    refine And.intro (fun c2 => ?_) (fun c2 => ?_)
    · have h := And.left h c2
      rw [if_neg c2] at hq
      obtain ⟨n3, h⟩ := h
      refine ⟨n3, dl_X10_from_29 (a := 0) (i := 0) (by decide) ?_ n3 0 0 (by decide) (Nat.zero_le _) h⟩
      intro cc4 s5 ec6 es7 h
      rw [← ec6, ← es7, ex_X10_from_29] at hq
      have q9 := hq _ rfl
      dsimp only at q9
      exact q9 h
    · have h := And.right h c2
      rw [if_pos c2] at hq
      have q9 := hq _ rfl
      dsimp only at q9
      exact q9 h
theorem du_X10_from {P Q : Int32 → Int32 → Prop} {p0 p1 bW aG dG : Int32} {rD m_x jA oY pR pX : Nat → Int32} (h : wp_X10_from P p0 p1 bW aG dG rD m_x jA oY pR pX) (hq : P (F_X10_from p0 p1 bW aG dG rD m_x jA oY pR pX).1 (F_X10_from p0 p1 bW aG dG rD m_x jA oY pR pX).2 → Q (F_X10_from p0 p1 bW aG dG rD m_x jA oY pR pX).1 (F_X10_from p0 p1 bW aG dG rD m_x jA oY pR pX).2) : wp_X10_from Q p0 p1 bW aG dG rD m_x jA oY pR pX := dt_X10_from h (fun o eo => by rw [eo]; exact hq)
theorem dw_X10_from {Q : Int32 → Int32 → Prop} {p0 p1 bW aG dG : Int32} {rD m_x jA oY pR pX : Nat → Int32} (h : wp_X10_from (fun o0 o1 => (o0, o1) = F_X10_from p0 p1 bW aG dG rD m_x jA oY pR pX → Q o0 o1) p0 p1 bW aG dG rD m_x jA oY pR pX) : wp_X10_from Q p0 p1 bW aG dG rD m_x jA oY pR pX := dt_X10_from h (fun o eo hp => hp eo)
noncomputable def F_X10_worthOf (p0 p1 : Int32) (pY : Nat → Int32) : Int32 := if (F_X10_has p1 p0) = 0 then (pY p0.toNatClampNeg) else ((pY p0.toNatClampNeg) / 2)
set_option maxHeartbeats 200000 in
set_option maxRecDepth 10000 in
theorem dt_X10_worthOf {P Q : Int32 → Prop} {p0 p1 : Int32} {pY : Nat → Int32} (h : wp_X10_worthOf P p0 p1 pY) (hq : ∀ o : Int32, o = F_X10_worthOf p0 p1 pY → P o → Q o) : wp_X10_worthOf Q p0 p1 pY := by
  rw [F_X10_worthOf] at hq
  refine du_X10_has h ?_
  intro h
  refine And.intro (fun c1 => ?_) (fun c1 => ?_)
  · have h := And.left h c1
    rw [if_pos c1] at hq
    refine And.intro (And.left h) ?_
    have h := And.right h
    have q9 := hq _ rfl
    exact q9 h
  · have h := And.right h c1
    rw [if_neg c1] at hq
    refine And.intro (And.left h) ?_
    have h := And.right h
    refine ae ?_
    have h := h _ rfl
    refine ae ?_
    have h := h _ rfl
    have q9 := hq _ rfl
    exact q9 h
theorem du_X10_worthOf {P Q : Int32 → Prop} {p0 p1 : Int32} {pY : Nat → Int32} (h : wp_X10_worthOf P p0 p1 pY) (hq : P (F_X10_worthOf p0 p1 pY) → Q (F_X10_worthOf p0 p1 pY)) : wp_X10_worthOf Q p0 p1 pY := dt_X10_worthOf h (fun o eo => by rw [eo]; exact hq)
theorem dw_X10_worthOf {Q : Int32 → Prop} {p0 p1 : Int32} {pY : Nat → Int32} (h : wp_X10_worthOf (fun o0 => o0 = F_X10_worthOf p0 p1 pY → Q o0) p0 p1 pY) : wp_X10_worthOf Q p0 p1 pY := dt_X10_worthOf h (fun o eo hp => hp eo)
noncomputable def j_X10_worthOfAll_35 {R : Type} (k5 : Int32 → Int32 → Int32 → Int32 → R) (bW : Int32) (pY : Nat → Int32) (x1 x2 x4 k0 k1 : Int32) : R := k5 x1 x2 (k0 + k1) (x4 + 1)
noncomputable def bd_X10_worthOfAll_5 (bW : Int32) (pY : Nat → Int32) (x1 x2 c s : Int32) : Int32 := if (F_X10_has x1 c) = 0 then (j_X10_worthOfAll_35 (fun q0 q1 q2 q3 => q2) bW pY x1 x2 c s 0) else (j_X10_worthOfAll_35 (fun q0 q1 q2 q3 => q2) bW pY x1 x2 c s (F_X10_worthOf c x2 pY))
noncomputable def ex_X10_worthOfAll_5 {R : Type} (po : Int32 → R) (bW : Int32) (pY : Nat → Int32) (x1 x2 c s : Int32) : R := po s
set_option maxHeartbeats 200000 in
set_option maxRecDepth 10000 in
theorem dl_X10_worthOfAll_5 {P Q : Int32 → Prop} {bW : Int32} {pY : Nat → Int32} {x1 x2 a : Int32} {i : Nat} (hi0 : i < 2147483648) (hE : ∀ (c : Int32) (s : Int32), c = nI (i + (Int32.toInt bW - ((i : Nat) : Int)).toNat) → s = itr (bd_X10_worthOfAll_5 bW pY x1 x2) a i (Int32.toInt bW - ((i : Nat) : Int)).toNat → (P s) → (Q s)) : ∀ (n k : Nat) (c : Int32), c = nI (i + k) → k ≤ (Int32.toInt bW - ((i : Nat) : Int)).toNat → wb_X10_worthOfAll_5 P bW pY n x1 x2 (itr (bd_X10_worthOfAll_5 bW pY x1 x2) a i k) c → wb_X10_worthOfAll_5 Q bW pY n x1 x2 (itr (bd_X10_worthOfAll_5 bW pY x1 x2) a i k) c := by
  intro n
  induction n with
  | zero => intro k c hc hk h; exact False.elim h
  | succ n ih =>
    intro k c hc hk h
    have hr := tp_r bW
    have hi : Int32.toInt c = ((i + k : Nat) : Int) := by rw [hc]; exact nI_toInt (by omega)
    refine And.intro (fun t0 => ?_) (fun t0 => ?_)
    · have h := And.left h t0
      have t1 := (fa_le _ _).mp t0
      have hk2 : k = (Int32.toInt bW - ((i : Nat) : Int)).toNat := by omega
      subst hk2
      exact hE _ _ hc rfl h
    · have h := And.right h t0
      have t1 := mt (fa_le _ _).mpr t0
      have hs : ∀ o : Int32, o = itr (bd_X10_worthOfAll_5 bW pY x1 x2) a i (k + 1) → wb_X10_worthOfAll_5 P bW pY n x1 x2 o (c + 1) → wb_X10_worthOfAll_5 Q bW pY n x1 x2 o (c + 1) := by
        intro o eo h9
        have q := ih (k + 1) (c + 1) (by rw [hc]; exact nI_1 _) (by omega)
        rw [← eo] at q
        exact q h9
      rw [itr_s, ← hc, bd_X10_worthOfAll_5] at hs
      refine du_X10_has h ?_
      intro h
      refine And.intro (fun c1 => ?_) (fun c1 => ?_)
      · have h := And.left h c1
        rw [if_pos c1] at hs
        rw [j_X10_worthOfAll_35] at hs
        unfold ws_X10_worthOfAll_35 at h ⊢
        refine ae ?_
        have h := h _ rfl
        refine ae ?_
        have h := h _ rfl
        have q9 := hs _ rfl
        exact q9 h
      · have h := And.right h c1
        rw [if_neg c1] at hs
        refine du_X10_worthOf h ?_
        intro h
        rw [j_X10_worthOfAll_35] at hs
        unfold ws_X10_worthOfAll_35 at h ⊢
        refine ae ?_
        have h := h _ rfl
        refine ae ?_
        have h := h _ rfl
        have q9 := hs _ rfl
        exact q9 h
noncomputable def F_X10_worthOfAll (p0 p1 bW : Int32) (pY : Nat → Int32) : Int32 := ex_X10_worthOfAll_5 (fun o0 => o0) bW pY p0 p1 (nI (0 + (Int32.toInt bW - ((0 : Nat) : Int)).toNat)) (itr (bd_X10_worthOfAll_5 bW pY p0 p1) 0 0 (Int32.toInt bW - ((0 : Nat) : Int)).toNat)
set_option maxHeartbeats 200000 in
set_option maxRecDepth 10000 in
theorem dt_X10_worthOfAll {P Q : Int32 → Prop} {p0 p1 bW : Int32} {pY : Nat → Int32} (h : wp_X10_worthOfAll P p0 p1 bW pY) (hq : ∀ o : Int32, o = F_X10_worthOfAll p0 p1 bW pY → P o → Q o) : wp_X10_worthOfAll Q p0 p1 bW pY := by
  rw [F_X10_worthOfAll] at hq
  obtain ⟨n1, h⟩ := h
  refine ⟨n1, dl_X10_worthOfAll_5 (a := 0) (i := 0) (by decide) ?_ n1 0 0 (by decide) (Nat.zero_le _) h⟩
  intro cc2 s3 ec4 es5 h
  rw [← ec4, ← es5, ex_X10_worthOfAll_5] at hq
  have q9 := hq _ rfl
  exact q9 h
theorem du_X10_worthOfAll {P Q : Int32 → Prop} {p0 p1 bW : Int32} {pY : Nat → Int32} (h : wp_X10_worthOfAll P p0 p1 bW pY) (hq : P (F_X10_worthOfAll p0 p1 bW pY) → Q (F_X10_worthOfAll p0 p1 bW pY)) : wp_X10_worthOfAll Q p0 p1 bW pY := dt_X10_worthOfAll h (fun o eo => by rw [eo]; exact hq)
theorem dw_X10_worthOfAll {Q : Int32 → Prop} {p0 p1 bW : Int32} {pY : Nat → Int32} (h : wp_X10_worthOfAll (fun o0 => o0 = F_X10_worthOfAll p0 p1 bW pY → Q o0) p0 p1 bW pY) : wp_X10_worthOfAll Q p0 p1 bW pY := dt_X10_worthOfAll h (fun o eo hp => hp eo)
noncomputable def bd_X10_never_17 (bW aG : Int32) (rD m_x jA pY oY pR pX : Nat → Int32) (bQ dG : Int32) (uM : Nat → Int32) (c s : Int32) : Int32 := (s &&& ((F_X10_reachedFrom c 1 1 bW m_x jA oY pR pX) ^^^ (-1)))
noncomputable def ex_X10_never_17 {R : Type} (po : Int32 → Int32 → Int32 → (Nat → Int32) → R) (bW aG : Int32) (rD m_x jA pY oY pR pX : Nat → Int32) (bQ dG : Int32) (uM : Nat → Int32) (c s : Int32) : R := po s ((F_X10_tell (F_X10_worthOfAll s (rD (16 : Int32).toNatClampNeg) bW pY) 0 uM).1) dG ((F_X10_tell (F_X10_worthOfAll s (rD (16 : Int32).toNatClampNeg) bW pY) 0 uM).2)
set_option maxHeartbeats 200000 in
set_option maxRecDepth 10000 in
theorem dl_X10_never_17 {P Q : Int32 → Int32 → Int32 → (Nat → Int32) → Prop} {bW aG : Int32} {rD m_x jA pY oY pR pX : Nat → Int32} {bQ dG : Int32} {uM : Nat → Int32} {a : Int32} {i : Nat} (hi0 : i < 2147483648) (hE : ∀ (c : Int32) (s : Int32), c = nI (i + (Int32.toInt aG - ((i : Nat) : Int)).toNat) → s = itr (bd_X10_never_17 bW aG rD m_x jA pY oY pR pX bQ dG uM) a i (Int32.toInt aG - ((i : Nat) : Int)).toNat → (∀ v_2 : Int32, v_2 = rD (16 : Int32).toNatClampNeg → wp_X10_worthOfAll (fun r_3 => wp_X10_tell (fun aAl aCV => P s aAl dG aCV) r_3 0 uM) s v_2 bW pY) → (∀ v_2 : Int32, v_2 = rD (16 : Int32).toNatClampNeg → wp_X10_worthOfAll (fun r_3 => wp_X10_tell (fun aAl aCV => Q s aAl dG aCV) r_3 0 uM) s v_2 bW pY)) : ∀ (n k : Nat) (c : Int32), c = nI (i + k) → k ≤ (Int32.toInt aG - ((i : Nat) : Int)).toNat → wb_X10_never_17 P bW aG rD m_x jA pY oY pR pX n (itr (bd_X10_never_17 bW aG rD m_x jA pY oY pR pX bQ dG uM) a i k) c bQ dG uM → wb_X10_never_17 Q bW aG rD m_x jA pY oY pR pX n (itr (bd_X10_never_17 bW aG rD m_x jA pY oY pR pX bQ dG uM) a i k) c bQ dG uM := by
  intro n
  induction n with
  | zero => intro k c hc hk h; exact False.elim h
  | succ n ih =>
    intro k c hc hk h
    have hr := tp_r aG
    have hi : Int32.toInt c = ((i + k : Nat) : Int) := by rw [hc]; exact nI_toInt (by omega)
    refine And.intro (fun t0 => ?_) (fun t0 => ?_)
    · have h := And.left h t0
      have t1 := (fa_le _ _).mp t0
      have hk2 : k = (Int32.toInt aG - ((i : Nat) : Int)).toNat := by omega
      subst hk2
      exact hE _ _ hc rfl h
    · have h := And.right h t0
      have t1 := mt (fa_le _ _).mpr t0
      have hs : ∀ o : Int32, o = itr (bd_X10_never_17 bW aG rD m_x jA pY oY pR pX bQ dG uM) a i (k + 1) → wb_X10_never_17 P bW aG rD m_x jA pY oY pR pX n o (c + 1) bQ dG uM → wb_X10_never_17 Q bW aG rD m_x jA pY oY pR pX n o (c + 1) bQ dG uM := by
        intro o eo h9
        have q := ih (k + 1) (c + 1) (by rw [hc]; exact nI_1 _) (by omega)
        rw [← eo] at q
        exact q h9
      rw [itr_s, ← hc, bd_X10_never_17] at hs
      refine du_X10_reachedFrom h ?_
      intro h
      refine ae ?_
      have h := h _ rfl
      refine ae ?_
      have h := h _ rfl
      have q9 := hs _ rfl
      exact q9 h
noncomputable def F_X10_never (bW aG bQ dG : Int32) (rD m_x jA pY oY pR pX uM : Nat → Int32) : Int32 × Int32 × Int32 × (Nat → Int32) := ex_X10_never_17 (fun o0 o1 o2 o3 => (o0, o1, o2, o3)) bW aG rD m_x jA pY oY pR pX bQ 0 uM (nI (0 + (Int32.toInt aG - ((0 : Nat) : Int)).toNat)) (itr (bd_X10_never_17 bW aG rD m_x jA pY oY pR pX bQ 0 uM) (F_X10_which 0 bW rD) 0 (Int32.toInt aG - ((0 : Nat) : Int)).toNat)
set_option maxHeartbeats 200000 in
set_option maxRecDepth 10000 in
theorem dt_X10_never {P Q : Int32 → Int32 → Int32 → (Nat → Int32) → Prop} {bW aG bQ dG : Int32} {rD m_x jA pY oY pR pX uM : Nat → Int32} (h : wp_X10_never P bW aG bQ dG rD m_x jA pY oY pR pX uM) (hq : ∀ o : Int32 × Int32 × Int32 × (Nat → Int32), o = F_X10_never bW aG bQ dG rD m_x jA pY oY pR pX uM → P o.1 o.2.1 o.2.2.1 o.2.2.2 → Q o.1 o.2.1 o.2.2.1 o.2.2.2) : wp_X10_never Q bW aG bQ dG rD m_x jA pY oY pR pX uM := by
  rw [F_X10_never] at hq
  refine du_X10_which h ?_
  intro h
  obtain ⟨n1, h⟩ := h
  refine ⟨n1, dl_X10_never_17 (a := (F_X10_which 0 bW rD)) (i := 0) (by decide) ?_ n1 0 0 (by decide) (Nat.zero_le _) h⟩
  intro cc2 s3 ec4 es5 h
  rw [← ec4, ← es5, ex_X10_never_17] at hq
  refine ae ?_
  have h := h _ rfl
  refine du_X10_worthOfAll h ?_
  intro h
  refine du_X10_tell h ?_
  intro h
  have q9 := hq _ rfl
  dsimp only at q9
  exact q9 h
theorem du_X10_never {P Q : Int32 → Int32 → Int32 → (Nat → Int32) → Prop} {bW aG bQ dG : Int32} {rD m_x jA pY oY pR pX uM : Nat → Int32} (h : wp_X10_never P bW aG bQ dG rD m_x jA pY oY pR pX uM) (hq : P (F_X10_never bW aG bQ dG rD m_x jA pY oY pR pX uM).1 (F_X10_never bW aG bQ dG rD m_x jA pY oY pR pX uM).2.1 (F_X10_never bW aG bQ dG rD m_x jA pY oY pR pX uM).2.2.1 (F_X10_never bW aG bQ dG rD m_x jA pY oY pR pX uM).2.2.2 → Q (F_X10_never bW aG bQ dG rD m_x jA pY oY pR pX uM).1 (F_X10_never bW aG bQ dG rD m_x jA pY oY pR pX uM).2.1 (F_X10_never bW aG bQ dG rD m_x jA pY oY pR pX uM).2.2.1 (F_X10_never bW aG bQ dG rD m_x jA pY oY pR pX uM).2.2.2) : wp_X10_never Q bW aG bQ dG rD m_x jA pY oY pR pX uM := dt_X10_never h (fun o eo => by rw [eo]; exact hq)
theorem dw_X10_never {Q : Int32 → Int32 → Int32 → (Nat → Int32) → Prop} {bW aG bQ dG : Int32} {rD m_x jA pY oY pR pX uM : Nat → Int32} (h : wp_X10_never (fun o0 o1 o2 o3 => (o0, o1, o2, o3) = F_X10_never bW aG bQ dG rD m_x jA pY oY pR pX uM → Q o0 o1 o2 o3) bW aG bQ dG rD m_x jA pY oY pR pX uM) : wp_X10_never Q bW aG bQ dG rD m_x jA pY oY pR pX uM := dt_X10_never h (fun o eo hp => hp eo)
noncomputable def F_X10_allStandings (aG : Int32) : Int32 := ((1 <<< (aG &&& 31)) - 1)
set_option maxHeartbeats 200000 in
set_option maxRecDepth 10000 in
theorem dt_X10_allStandings {P Q : Int32 → Prop} {aG : Int32} (h : wp_X10_allStandings P aG) (hq : ∀ o : Int32, o = F_X10_allStandings aG → P o → Q o) : wp_X10_allStandings Q aG := by
  rw [F_X10_allStandings] at hq
  refine ae ?_
  have h := h _ rfl
  have q9 := hq _ rfl
  exact q9 h
theorem du_X10_allStandings {P Q : Int32 → Prop} {aG : Int32} (h : wp_X10_allStandings P aG) (hq : P (F_X10_allStandings aG) → Q (F_X10_allStandings aG)) : wp_X10_allStandings Q aG := dt_X10_allStandings h (fun o eo => by rw [eo]; exact hq)
theorem dw_X10_allStandings {Q : Int32 → Prop} {aG : Int32} (h : wp_X10_allStandings (fun o0 => o0 = F_X10_allStandings aG → Q o0) aG) : wp_X10_allStandings Q aG := dt_X10_allStandings h (fun o eo hp => hp eo)
noncomputable def j_X10_handOf_31 {R : Type} (k4 : Int32 → Int32 → Int32 → R) (aG : Int32) (tD : Nat → Int32) (x1 x3 k0 k1 : Int32) : R := k4 x1 (k0 ||| k1) (x3 + 1)
noncomputable def bd_X10_handOf_4 (aG : Int32) (tD : Nat → Int32) (x1 c s : Int32) : Int32 := if (F_X10_has x1 c) = 0 then (j_X10_handOf_31 (fun q0 q1 q2 => q1) aG tD x1 c s 0) else (j_X10_handOf_31 (fun q0 q1 q2 => q1) aG tD x1 c s (tD c.toNatClampNeg))
noncomputable def ex_X10_handOf_4 {R : Type} (po : Int32 → R) (aG : Int32) (tD : Nat → Int32) (x1 c s : Int32) : R := po s
set_option maxHeartbeats 200000 in
set_option maxRecDepth 10000 in
theorem dl_X10_handOf_4 {P Q : Int32 → Prop} {aG : Int32} {tD : Nat → Int32} {x1 a : Int32} {i : Nat} (hi0 : i < 2147483648) (hE : ∀ (c : Int32) (s : Int32), c = nI (i + (Int32.toInt aG - ((i : Nat) : Int)).toNat) → s = itr (bd_X10_handOf_4 aG tD x1) a i (Int32.toInt aG - ((i : Nat) : Int)).toNat → (P s) → (Q s)) : ∀ (n k : Nat) (c : Int32), c = nI (i + k) → k ≤ (Int32.toInt aG - ((i : Nat) : Int)).toNat → wb_X10_handOf_4 P aG tD n x1 (itr (bd_X10_handOf_4 aG tD x1) a i k) c → wb_X10_handOf_4 Q aG tD n x1 (itr (bd_X10_handOf_4 aG tD x1) a i k) c := by
  intro n
  induction n with
  | zero => intro k c hc hk h; exact False.elim h
  | succ n ih =>
    intro k c hc hk h
    have hr := tp_r aG
    have hi : Int32.toInt c = ((i + k : Nat) : Int) := by rw [hc]; exact nI_toInt (by omega)
    refine And.intro (fun t0 => ?_) (fun t0 => ?_)
    · have h := And.left h t0
      have t1 := (fa_le _ _).mp t0
      have hk2 : k = (Int32.toInt aG - ((i : Nat) : Int)).toNat := by omega
      subst hk2
      exact hE _ _ hc rfl h
    · have h := And.right h t0
      have t1 := mt (fa_le _ _).mpr t0
      have hs : ∀ o : Int32, o = itr (bd_X10_handOf_4 aG tD x1) a i (k + 1) → wb_X10_handOf_4 P aG tD n x1 o (c + 1) → wb_X10_handOf_4 Q aG tD n x1 o (c + 1) := by
        intro o eo h9
        have q := ih (k + 1) (c + 1) (by rw [hc]; exact nI_1 _) (by omega)
        rw [← eo] at q
        exact q h9
      rw [itr_s, ← hc, bd_X10_handOf_4] at hs
      refine du_X10_has h ?_
      intro h
      refine And.intro (fun c1 => ?_) (fun c1 => ?_)
      · have h := And.left h c1
        rw [if_pos c1] at hs
        rw [j_X10_handOf_31] at hs
        unfold ws_X10_handOf_31 at h ⊢
        refine ae ?_
        have h := h _ rfl
        refine ae ?_
        have h := h _ rfl
        have q9 := hs _ rfl
        exact q9 h
      · have h := And.right h c1
        rw [if_neg c1] at hs
        refine And.intro (And.left h) ?_
        have h := And.right h
        refine ae ?_
        have h := h _ rfl
        rw [j_X10_handOf_31] at hs
        unfold ws_X10_handOf_31 at h ⊢
        refine ae ?_
        have h := h _ rfl
        refine ae ?_
        have h := h _ rfl
        have q9 := hs _ rfl
        exact q9 h
noncomputable def F_X10_handOf (p0 aG : Int32) (tD : Nat → Int32) : Int32 := ex_X10_handOf_4 (fun o0 => o0) aG tD p0 (nI (0 + (Int32.toInt aG - ((0 : Nat) : Int)).toNat)) (itr (bd_X10_handOf_4 aG tD p0) 0 0 (Int32.toInt aG - ((0 : Nat) : Int)).toNat)
set_option maxHeartbeats 200000 in
set_option maxRecDepth 10000 in
theorem dt_X10_handOf {P Q : Int32 → Prop} {p0 aG : Int32} {tD : Nat → Int32} (h : wp_X10_handOf P p0 aG tD) (hq : ∀ o : Int32, o = F_X10_handOf p0 aG tD → P o → Q o) : wp_X10_handOf Q p0 aG tD := by
  rw [F_X10_handOf] at hq
  obtain ⟨n1, h⟩ := h
  refine ⟨n1, dl_X10_handOf_4 (a := 0) (i := 0) (by decide) ?_ n1 0 0 (by decide) (Nat.zero_le _) h⟩
  intro cc2 s3 ec4 es5 h
  rw [← ec4, ← es5, ex_X10_handOf_4] at hq
  have q9 := hq _ rfl
  exact q9 h
theorem du_X10_handOf {P Q : Int32 → Prop} {p0 aG : Int32} {tD : Nat → Int32} (h : wp_X10_handOf P p0 aG tD) (hq : P (F_X10_handOf p0 aG tD) → Q (F_X10_handOf p0 aG tD)) : wp_X10_handOf Q p0 aG tD := dt_X10_handOf h (fun o eo => by rw [eo]; exact hq)
theorem dw_X10_handOf {Q : Int32 → Prop} {p0 aG : Int32} {tD : Nat → Int32} (h : wp_X10_handOf (fun o0 => o0 = F_X10_handOf p0 aG tD → Q o0) p0 aG tD) : wp_X10_handOf Q p0 aG tD := dt_X10_handOf h (fun o eo hp => hp eo)
noncomputable def bd_X10_layHands__2 (bW aG : Int32) (rD m_x jA rW oY pR pX : Nat → Int32) (x1 dU c : Int32) (s : (Nat → Int32)) : (Nat → Int32) := (upd s c.toNatClampNeg (F_X10_reachedFrom c x1 0 bW m_x jA oY pR pX))
noncomputable def ex_X10_layHands__2 {R : Type} (po : Int32 → (Nat → Int32) → R) (bW aG : Int32) (rD m_x jA rW oY pR pX : Nat → Int32) (x1 dU c : Int32) (s : (Nat → Int32)) : R := po (((F_X10_which 0 bW rD) &&& (F_X10_ripeOnes (rD (19 : Int32).toNatClampNeg) bW rW)) &&& (F_X10_handOf (F_X10_allStandings aG) aG s)) s
set_option maxHeartbeats 200000 in
set_option maxRecDepth 10000 in
theorem dl_X10_layHands__2 {P Q : Int32 → (Nat → Int32) → Prop} {bW aG : Int32} {rD m_x jA rW oY pR pX : Nat → Int32} {x1 dU : Int32} {a : (Nat → Int32)} {i : Nat} (hi0 : i < 2147483648) (hE : ∀ (c : Int32) (s : (Nat → Int32)), c = nI (i + (Int32.toInt aG - ((i : Nat) : Int)).toNat) → s = itr (bd_X10_layHands__2 bW aG rD m_x jA rW oY pR pX x1 dU) a i (Int32.toInt aG - ((i : Nat) : Int)).toNat → (wp_X10_which (fun r_1 => ∀ v_2 : Int32, v_2 = rD (19 : Int32).toNatClampNeg → wp_X10_ripeOnes (fun r_3 => ∀ v_4 : Int32, v_4 = r_1 &&& r_3 → wp_X10_allStandings (fun r_5 => wp_X10_handOf (fun r_6 => ∀ v_7 : Int32, v_7 = v_4 &&& r_6 → P v_7 s) r_5 aG s) aG) v_2 bW rW) 0 bW rD) → (wp_X10_which (fun r_1 => ∀ v_2 : Int32, v_2 = rD (19 : Int32).toNatClampNeg → wp_X10_ripeOnes (fun r_3 => ∀ v_4 : Int32, v_4 = r_1 &&& r_3 → wp_X10_allStandings (fun r_5 => wp_X10_handOf (fun r_6 => ∀ v_7 : Int32, v_7 = v_4 &&& r_6 → Q v_7 s) r_5 aG s) aG) v_2 bW rW) 0 bW rD)) : ∀ (n k : Nat) (c : Int32), c = nI (i + k) → k ≤ (Int32.toInt aG - ((i : Nat) : Int)).toNat → wb_X10_layHands__2 P bW aG rD m_x jA rW oY pR pX n x1 c dU (itr (bd_X10_layHands__2 bW aG rD m_x jA rW oY pR pX x1 dU) a i k) → wb_X10_layHands__2 Q bW aG rD m_x jA rW oY pR pX n x1 c dU (itr (bd_X10_layHands__2 bW aG rD m_x jA rW oY pR pX x1 dU) a i k) := by
  intro n
  induction n with
  | zero => intro k c hc hk h; exact False.elim h
  | succ n ih =>
    intro k c hc hk h
    have hr := tp_r aG
    have hi : Int32.toInt c = ((i + k : Nat) : Int) := by rw [hc]; exact nI_toInt (by omega)
    refine And.intro (fun t0 => ?_) (fun t0 => ?_)
    · have h := And.left h t0
      have t1 := (fa_le _ _).mp t0
      have hk2 : k = (Int32.toInt aG - ((i : Nat) : Int)).toNat := by omega
      subst hk2
      exact hE _ _ hc rfl h
    · have h := And.right h t0
      have t1 := mt (fa_le _ _).mpr t0
      have hs : ∀ o : (Nat → Int32), o = itr (bd_X10_layHands__2 bW aG rD m_x jA rW oY pR pX x1 dU) a i (k + 1) → wb_X10_layHands__2 P bW aG rD m_x jA rW oY pR pX n x1 (c + 1) dU o → wb_X10_layHands__2 Q bW aG rD m_x jA rW oY pR pX n x1 (c + 1) dU o := by
        intro o eo h9
        have q := ih (k + 1) (c + 1) (by rw [hc]; exact nI_1 _) (by omega)
        rw [← eo] at q
        exact q h9
      rw [itr_s, ← hc, bd_X10_layHands__2] at hs
      refine du_X10_reachedFrom h ?_
      intro h
      refine And.intro (And.left h) ?_
      have h := And.right h
      refine ae ?_
      have h := h _ rfl
      have q9 := hs _ rfl
      exact q9 h
noncomputable def F_X10_layHands_ (p0 bW aG dU : Int32) (rD m_x jA rW oY pR pX tD : Nat → Int32) : Int32 × (Nat → Int32) := ex_X10_layHands__2 (fun o0 o1 => (o0, o1)) bW aG rD m_x jA rW oY pR pX p0 dU (nI (0 + (Int32.toInt aG - ((0 : Nat) : Int)).toNat)) (itr (bd_X10_layHands__2 bW aG rD m_x jA rW oY pR pX p0 dU) tD 0 (Int32.toInt aG - ((0 : Nat) : Int)).toNat)
set_option maxHeartbeats 200000 in
set_option maxRecDepth 10000 in
theorem dt_X10_layHands_ {P Q : Int32 → (Nat → Int32) → Prop} {p0 bW aG dU : Int32} {rD m_x jA rW oY pR pX tD : Nat → Int32} (h : wp_X10_layHands_ P p0 bW aG dU rD m_x jA rW oY pR pX tD) (hq : ∀ o : Int32 × (Nat → Int32), o = F_X10_layHands_ p0 bW aG dU rD m_x jA rW oY pR pX tD → P o.1 o.2 → Q o.1 o.2) : wp_X10_layHands_ Q p0 bW aG dU rD m_x jA rW oY pR pX tD := by
  rw [F_X10_layHands_] at hq
  obtain ⟨n1, h⟩ := h
  refine ⟨n1, dl_X10_layHands__2 (a := tD) (i := 0) (by decide) ?_ n1 0 0 (by decide) (Nat.zero_le _) h⟩
  intro cc2 s3 ec4 es5 h
  rw [← ec4, ← es5, ex_X10_layHands__2] at hq
  refine du_X10_which h ?_
  intro h
  refine ae ?_
  have h := h _ rfl
  refine du_X10_ripeOnes h ?_
  intro h
  refine ae ?_
  have h := h _ rfl
  refine du_X10_allStandings h ?_
  intro h
  refine du_X10_handOf h ?_
  intro h
  refine ae ?_
  have h := h _ rfl
  have q9 := hq _ rfl
  dsimp only at q9
  exact q9 h
theorem du_X10_layHands_ {P Q : Int32 → (Nat → Int32) → Prop} {p0 bW aG dU : Int32} {rD m_x jA rW oY pR pX tD : Nat → Int32} (h : wp_X10_layHands_ P p0 bW aG dU rD m_x jA rW oY pR pX tD) (hq : P (F_X10_layHands_ p0 bW aG dU rD m_x jA rW oY pR pX tD).1 (F_X10_layHands_ p0 bW aG dU rD m_x jA rW oY pR pX tD).2 → Q (F_X10_layHands_ p0 bW aG dU rD m_x jA rW oY pR pX tD).1 (F_X10_layHands_ p0 bW aG dU rD m_x jA rW oY pR pX tD).2) : wp_X10_layHands_ Q p0 bW aG dU rD m_x jA rW oY pR pX tD := dt_X10_layHands_ h (fun o eo => by rw [eo]; exact hq)
theorem dw_X10_layHands_ {Q : Int32 → (Nat → Int32) → Prop} {p0 bW aG dU : Int32} {rD m_x jA rW oY pR pX tD : Nat → Int32} (h : wp_X10_layHands_ (fun o0 o1 => (o0, o1) = F_X10_layHands_ p0 bW aG dU rD m_x jA rW oY pR pX tD → Q o0 o1) p0 bW aG dU rD m_x jA rW oY pR pX tD) : wp_X10_layHands_ Q p0 bW aG dU rD m_x jA rW oY pR pX tD := dt_X10_layHands_ h (fun o eo hp => hp eo)
noncomputable def F_X10_layHands (bW aG dU : Int32) (rD m_x jA rW oY pR pX tD : Nat → Int32) : Int32 × (Nat → Int32) := ((F_X10_layHands_ (rD (18 : Int32).toNatClampNeg) bW aG dU rD m_x jA rW oY pR pX tD).1, (F_X10_layHands_ (rD (18 : Int32).toNatClampNeg) bW aG dU rD m_x jA rW oY pR pX tD).2)
set_option maxHeartbeats 200000 in
set_option maxRecDepth 10000 in
theorem dt_X10_layHands {P Q : Int32 → (Nat → Int32) → Prop} {bW aG dU : Int32} {rD m_x jA rW oY pR pX tD : Nat → Int32} (h : wp_X10_layHands P bW aG dU rD m_x jA rW oY pR pX tD) (hq : ∀ o : Int32 × (Nat → Int32), o = F_X10_layHands bW aG dU rD m_x jA rW oY pR pX tD → P o.1 o.2 → Q o.1 o.2) : wp_X10_layHands Q bW aG dU rD m_x jA rW oY pR pX tD := by
  rw [F_X10_layHands] at hq
  refine ae ?_
  have h := h _ rfl
  refine du_X10_layHands_ h ?_
  intro h
  have q9 := hq _ rfl
  dsimp only at q9
  exact q9 h
theorem du_X10_layHands {P Q : Int32 → (Nat → Int32) → Prop} {bW aG dU : Int32} {rD m_x jA rW oY pR pX tD : Nat → Int32} (h : wp_X10_layHands P bW aG dU rD m_x jA rW oY pR pX tD) (hq : P (F_X10_layHands bW aG dU rD m_x jA rW oY pR pX tD).1 (F_X10_layHands bW aG dU rD m_x jA rW oY pR pX tD).2 → Q (F_X10_layHands bW aG dU rD m_x jA rW oY pR pX tD).1 (F_X10_layHands bW aG dU rD m_x jA rW oY pR pX tD).2) : wp_X10_layHands Q bW aG dU rD m_x jA rW oY pR pX tD := dt_X10_layHands h (fun o eo => by rw [eo]; exact hq)
theorem dw_X10_layHands {Q : Int32 → (Nat → Int32) → Prop} {bW aG dU : Int32} {rD m_x jA rW oY pR pX tD : Nat → Int32} (h : wp_X10_layHands (fun o0 o1 => (o0, o1) = F_X10_layHands bW aG dU rD m_x jA rW oY pR pX tD → Q o0 o1) bW aG dU rD m_x jA rW oY pR pX tD) : wp_X10_layHands Q bW aG dU rD m_x jA rW oY pR pX tD := dt_X10_layHands h (fun o eo hp => hp eo)
noncomputable def F_X10_both (p0 p1 bW aG bQ dG dU : Int32) (rD m_x jA rW oY pR pX uM tD : Nat → Int32) : Int32 × Int32 × Int32 × Int32 × (Nat → Int32) × (Nat → Int32) := if (F_X10_isStanding p0 aG) = 0 then ((-1), bQ, 0, dU, uM, tD) else (if (F_X10_isStanding p1 aG) = 0 then ((-1), bQ, 0, dU, uM, tD) else (if p0 = p1 then ((-1), bQ, 0, dU, uM, tD) else ((((F_X10_layHands bW aG dU rD m_x jA rW oY pR pX tD).1 &&& ((F_X10_layHands bW aG dU rD m_x jA rW oY pR pX tD).2 p0.toNatClampNeg)) &&& ((F_X10_layHands bW aG dU rD m_x jA rW oY pR pX tD).2 p1.toNatClampNeg)), (F_X10_tell (((F_X10_layHands bW aG dU rD m_x jA rW oY pR pX tD).1 &&& ((F_X10_layHands bW aG dU rD m_x jA rW oY pR pX tD).2 p1.toNatClampNeg)) &&& (((F_X10_layHands bW aG dU rD m_x jA rW oY pR pX tD).2 p0.toNatClampNeg) ^^^ (-1))) (F_X10_tell (((F_X10_layHands bW aG dU rD m_x jA rW oY pR pX tD).1 &&& ((F_X10_layHands bW aG dU rD m_x jA rW oY pR pX tD).2 p0.toNatClampNeg)) &&& (((F_X10_layHands bW aG dU rD m_x jA rW oY pR pX tD).2 p1.toNatClampNeg) ^^^ (-1))) 0 uM).1 (F_X10_tell (((F_X10_layHands bW aG dU rD m_x jA rW oY pR pX tD).1 &&& ((F_X10_layHands bW aG dU rD m_x jA rW oY pR pX tD).2 p0.toNatClampNeg)) &&& (((F_X10_layHands bW aG dU rD m_x jA rW oY pR pX tD).2 p1.toNatClampNeg) ^^^ (-1))) 0 uM).2).1, 0, (F_X10_layHands bW aG dU rD m_x jA rW oY pR pX tD).1, (F_X10_tell (((F_X10_layHands bW aG dU rD m_x jA rW oY pR pX tD).1 &&& ((F_X10_layHands bW aG dU rD m_x jA rW oY pR pX tD).2 p1.toNatClampNeg)) &&& (((F_X10_layHands bW aG dU rD m_x jA rW oY pR pX tD).2 p0.toNatClampNeg) ^^^ (-1))) (F_X10_tell (((F_X10_layHands bW aG dU rD m_x jA rW oY pR pX tD).1 &&& ((F_X10_layHands bW aG dU rD m_x jA rW oY pR pX tD).2 p0.toNatClampNeg)) &&& (((F_X10_layHands bW aG dU rD m_x jA rW oY pR pX tD).2 p1.toNatClampNeg) ^^^ (-1))) 0 uM).1 (F_X10_tell (((F_X10_layHands bW aG dU rD m_x jA rW oY pR pX tD).1 &&& ((F_X10_layHands bW aG dU rD m_x jA rW oY pR pX tD).2 p0.toNatClampNeg)) &&& (((F_X10_layHands bW aG dU rD m_x jA rW oY pR pX tD).2 p1.toNatClampNeg) ^^^ (-1))) 0 uM).2).2, (F_X10_layHands bW aG dU rD m_x jA rW oY pR pX tD).2)))
set_option maxHeartbeats 200000 in
set_option maxRecDepth 10000 in
theorem dt_X10_both {P Q : Int32 → Int32 → Int32 → Int32 → (Nat → Int32) → (Nat → Int32) → Prop} {p0 p1 bW aG bQ dG dU : Int32} {rD m_x jA rW oY pR pX uM tD : Nat → Int32} (h : wp_X10_both P p0 p1 bW aG bQ dG dU rD m_x jA rW oY pR pX uM tD) (hq : ∀ o : Int32 × Int32 × Int32 × Int32 × (Nat → Int32) × (Nat → Int32), o = F_X10_both p0 p1 bW aG bQ dG dU rD m_x jA rW oY pR pX uM tD → P o.1 o.2.1 o.2.2.1 o.2.2.2.1 o.2.2.2.2.1 o.2.2.2.2.2 → Q o.1 o.2.1 o.2.2.1 o.2.2.2.1 o.2.2.2.2.1 o.2.2.2.2.2) : wp_X10_both Q p0 p1 bW aG bQ dG dU rD m_x jA rW oY pR pX uM tD := by
  rw [F_X10_both] at hq
  refine du_X10_isStanding h ?_
  intro h
  refine And.intro (fun c1 => ?_) (fun c1 => ?_)
  · have h := And.left h c1
    rw [if_pos c1] at hq
    have q9 := hq _ rfl
    dsimp only at q9
    exact q9 h
  · have h := And.right h c1
    rw [if_neg c1] at hq
    refine du_X10_isStanding h ?_
    intro h
    refine And.intro (fun c2 => ?_) (fun c2 => ?_)
    · have h := And.left h c2
      rw [if_pos c2] at hq
      have q9 := hq _ rfl
      dsimp only at q9
      exact q9 h
    · have h := And.right h c2
      rw [if_neg c2] at hq
      refine And.intro (fun c3 => ?_) (fun c3 => ?_)
      · have h := And.left h c3
        rw [if_neg c3] at hq
        refine du_X10_layHands h ?_
        intro h
        refine And.intro (And.left h) ?_
        have h := And.right h
        refine ae ?_
        have h := h _ rfl
        refine And.intro (And.left h) ?_
        have h := And.right h
        refine ae ?_
        have h := h _ rfl
        refine ae ?_
        have h := h _ rfl
        refine du_X10_tell h ?_
        intro h
        refine And.intro (And.left h) ?_
        have h := And.right h
        refine ae ?_
        have h := h _ rfl
        refine And.intro (And.left h) ?_
        have h := And.right h
        refine ae ?_
        have h := h _ rfl
        refine ae ?_
        have h := h _ rfl
        refine du_X10_tell h ?_
        intro h
        refine And.intro (And.left h) ?_
        have h := And.right h
        refine ae ?_
        have h := h _ rfl
        refine And.intro (And.left h) ?_
        have h := And.right h
        have q9 := hq _ rfl
        dsimp only at q9
        exact q9 h
      · have h := And.right h c3
        rw [if_pos c3] at hq
        have q9 := hq _ rfl
        dsimp only at q9
        exact q9 h
theorem du_X10_both {P Q : Int32 → Int32 → Int32 → Int32 → (Nat → Int32) → (Nat → Int32) → Prop} {p0 p1 bW aG bQ dG dU : Int32} {rD m_x jA rW oY pR pX uM tD : Nat → Int32} (h : wp_X10_both P p0 p1 bW aG bQ dG dU rD m_x jA rW oY pR pX uM tD) (hq : P (F_X10_both p0 p1 bW aG bQ dG dU rD m_x jA rW oY pR pX uM tD).1 (F_X10_both p0 p1 bW aG bQ dG dU rD m_x jA rW oY pR pX uM tD).2.1 (F_X10_both p0 p1 bW aG bQ dG dU rD m_x jA rW oY pR pX uM tD).2.2.1 (F_X10_both p0 p1 bW aG bQ dG dU rD m_x jA rW oY pR pX uM tD).2.2.2.1 (F_X10_both p0 p1 bW aG bQ dG dU rD m_x jA rW oY pR pX uM tD).2.2.2.2.1 (F_X10_both p0 p1 bW aG bQ dG dU rD m_x jA rW oY pR pX uM tD).2.2.2.2.2 → Q (F_X10_both p0 p1 bW aG bQ dG dU rD m_x jA rW oY pR pX uM tD).1 (F_X10_both p0 p1 bW aG bQ dG dU rD m_x jA rW oY pR pX uM tD).2.1 (F_X10_both p0 p1 bW aG bQ dG dU rD m_x jA rW oY pR pX uM tD).2.2.1 (F_X10_both p0 p1 bW aG bQ dG dU rD m_x jA rW oY pR pX uM tD).2.2.2.1 (F_X10_both p0 p1 bW aG bQ dG dU rD m_x jA rW oY pR pX uM tD).2.2.2.2.1 (F_X10_both p0 p1 bW aG bQ dG dU rD m_x jA rW oY pR pX uM tD).2.2.2.2.2) : wp_X10_both Q p0 p1 bW aG bQ dG dU rD m_x jA rW oY pR pX uM tD := dt_X10_both h (fun o eo => by rw [eo]; exact hq)
theorem dw_X10_both {Q : Int32 → Int32 → Int32 → Int32 → (Nat → Int32) → (Nat → Int32) → Prop} {p0 p1 bW aG bQ dG dU : Int32} {rD m_x jA rW oY pR pX uM tD : Nat → Int32} (h : wp_X10_both (fun o0 o1 o2 o3 o4 o5 => (o0, o1, o2, o3, o4, o5) = F_X10_both p0 p1 bW aG bQ dG dU rD m_x jA rW oY pR pX uM tD → Q o0 o1 o2 o3 o4 o5) p0 p1 bW aG bQ dG dU rD m_x jA rW oY pR pX uM tD) : wp_X10_both Q p0 p1 bW aG bQ dG dU rD m_x jA rW oY pR pX uM tD := dt_X10_both h (fun o eo hp => hp eo)
noncomputable def F_X10_hereWanted (bW : Int32) (rD m_x jA rW oY pR pX : Nat → Int32) : Int32 := (((F_X10_which 0 bW rD) &&& (F_X10_ripeOnes (rD (19 : Int32).toNatClampNeg) bW rW)) &&& (F_X10_byHand (rD (17 : Int32).toNatClampNeg) bW rD m_x jA oY pR pX))
set_option maxHeartbeats 200000 in
set_option maxRecDepth 10000 in
theorem dt_X10_hereWanted {P Q : Int32 → Prop} {bW : Int32} {rD m_x jA rW oY pR pX : Nat → Int32} (h : wp_X10_hereWanted P bW rD m_x jA rW oY pR pX) (hq : ∀ o : Int32, o = F_X10_hereWanted bW rD m_x jA rW oY pR pX → P o → Q o) : wp_X10_hereWanted Q bW rD m_x jA rW oY pR pX := by
  rw [F_X10_hereWanted] at hq
  refine du_X10_which h ?_
  intro h
  refine ae ?_
  have h := h _ rfl
  refine du_X10_ripeOnes h ?_
  intro h
  refine ae ?_
  have h := h _ rfl
  refine ae ?_
  have h := h _ rfl
  refine du_X10_byHand h ?_
  intro h
  have q9 := hq _ rfl
  exact q9 h
theorem du_X10_hereWanted {P Q : Int32 → Prop} {bW : Int32} {rD m_x jA rW oY pR pX : Nat → Int32} (h : wp_X10_hereWanted P bW rD m_x jA rW oY pR pX) (hq : P (F_X10_hereWanted bW rD m_x jA rW oY pR pX) → Q (F_X10_hereWanted bW rD m_x jA rW oY pR pX)) : wp_X10_hereWanted Q bW rD m_x jA rW oY pR pX := dt_X10_hereWanted h (fun o eo => by rw [eo]; exact hq)
theorem dw_X10_hereWanted {Q : Int32 → Prop} {bW : Int32} {rD m_x jA rW oY pR pX : Nat → Int32} (h : wp_X10_hereWanted (fun o0 => o0 = F_X10_hereWanted bW rD m_x jA rW oY pR pX → Q o0) bW rD m_x jA rW oY pR pX) : wp_X10_hereWanted Q bW rD m_x jA rW oY pR pX := dt_X10_hereWanted h (fun o eo hp => hp eo)
noncomputable def bd_X10_lay_b4_2 (rD : Nat → Int32) (x2 c : Int32) (s : (Nat → Int32)) : (Nat → Int32) := (upd s (x2 + c).toNatClampNeg (rD c.toNatClampNeg))
noncomputable def ex_X10_lay_b4_2 {R : Type} (po : (Nat → Int32) → R) (rD : Nat → Int32) (x2 c : Int32) (s : (Nat → Int32)) : R := po s
set_option maxHeartbeats 200000 in
set_option maxRecDepth 10000 in
theorem dl_X10_lay_b4_2 {P Q : (Nat → Int32) → Prop} {rD : Nat → Int32} {x2 : Int32} {a : (Nat → Int32)} {i : Nat} (hi0 : i < 2147483648) (hE : ∀ (c : Int32) (s : (Nat → Int32)), c = nI (i + (Int32.toInt 21 - ((i : Nat) : Int)).toNat) → s = itr (bd_X10_lay_b4_2 rD x2) a i (Int32.toInt 21 - ((i : Nat) : Int)).toNat → (P s) → (Q s)) : ∀ (n k : Nat) (c : Int32), c = nI (i + k) → k ≤ (Int32.toInt 21 - ((i : Nat) : Int)).toNat → wb_X10_lay_b4_2 P rD n x2 c (itr (bd_X10_lay_b4_2 rD x2) a i k) → wb_X10_lay_b4_2 Q rD n x2 c (itr (bd_X10_lay_b4_2 rD x2) a i k) := by
  intro n
  induction n with
  | zero => intro k c hc hk h; exact False.elim h
  | succ n ih =>
    intro k c hc hk h
    have hr := tp_r 21
    have hi : Int32.toInt c = ((i + k : Nat) : Int) := by rw [hc]; exact nI_toInt (by omega)
    refine And.intro (fun t0 => ?_) (fun t0 => ?_)
    · have h := And.left h t0
      have t1 := (fa_le _ _).mp t0
      have hk2 : k = (Int32.toInt 21 - ((i : Nat) : Int)).toNat := by omega
      subst hk2
      exact hE _ _ hc rfl h
    · have h := And.right h t0
      have t1 := mt (fa_le _ _).mpr t0
      have hs : ∀ o : (Nat → Int32), o = itr (bd_X10_lay_b4_2 rD x2) a i (k + 1) → wb_X10_lay_b4_2 P rD n x2 (c + 1) o → wb_X10_lay_b4_2 Q rD n x2 (c + 1) o := by
        intro o eo h9
        have q := ih (k + 1) (c + 1) (by rw [hc]; exact nI_1 _) (by omega)
        rw [← eo] at q
        exact q h9
      rw [itr_s, ← hc, bd_X10_lay_b4_2] at hs
      refine ae ?_
      have h := h _ rfl
      refine And.intro (And.left h) ?_
      have h := And.right h
      refine ae ?_
      have h := h _ rfl
      refine And.intro (And.left h) ?_
      have h := And.right h
      refine ae ?_
      have h := h _ rfl
      have q9 := hs _ rfl
      exact q9 h
noncomputable def F_X10_lay_b4 (p2 : Int32) (rD wF : Nat → Int32) : (Nat → Int32) := ex_X10_lay_b4_2 (fun o0 => o0) rD p2 (nI (0 + (Int32.toInt 21 - ((0 : Nat) : Int)).toNat)) (itr (bd_X10_lay_b4_2 rD p2) wF 0 (Int32.toInt 21 - ((0 : Nat) : Int)).toNat)
set_option maxHeartbeats 200000 in
set_option maxRecDepth 10000 in
theorem dt_X10_lay_b4 {P Q : (Nat → Int32) → Prop} {p2 : Int32} {rD wF : Nat → Int32} (h : wp_X10_lay_b4 P p2 rD wF) (hq : ∀ o : (Nat → Int32), o = F_X10_lay_b4 p2 rD wF → P o → Q o) : wp_X10_lay_b4 Q p2 rD wF := by
  rw [F_X10_lay_b4] at hq
  obtain ⟨n1, h⟩ := h
  refine ⟨n1, dl_X10_lay_b4_2 (a := wF) (i := 0) (by decide) ?_ n1 0 0 (by decide) (Nat.zero_le _) h⟩
  intro cc2 s3 ec4 es5 h
  rw [← ec4, ← es5, ex_X10_lay_b4_2] at hq
  have q9 := hq _ rfl
  exact q9 h
theorem du_X10_lay_b4 {P Q : (Nat → Int32) → Prop} {p2 : Int32} {rD wF : Nat → Int32} (h : wp_X10_lay_b4 P p2 rD wF) (hq : P (F_X10_lay_b4 p2 rD wF) → Q (F_X10_lay_b4 p2 rD wF)) : wp_X10_lay_b4 Q p2 rD wF := dt_X10_lay_b4 h (fun o eo => by rw [eo]; exact hq)
theorem dw_X10_lay_b4 {Q : (Nat → Int32) → Prop} {p2 : Int32} {rD wF : Nat → Int32} (h : wp_X10_lay_b4 (fun o0 => o0 = F_X10_lay_b4 p2 rD wF → Q o0) p2 rD wF) : wp_X10_lay_b4 Q p2 rD wF := dt_X10_lay_b4 h (fun o eo hp => hp eo)
noncomputable def F_X10_keep (p0 dG pW : Int32) (rD wF vF tY : Nat → Int32) : Int32 × Int32 × (Nat → Int32) × (Nat → Int32) × (Nat → Int32) := if (F_X10_in p0 0 1) = 0 then (0, 0, wF, vF, tY) else (1, 0, (F_X10_lay_b4 (21 * p0) rD wF), (upd vF p0.toNatClampNeg (vp_nar .boolean 1)), (upd tY p0.toNatClampNeg pW))
set_option maxHeartbeats 200000 in
set_option maxRecDepth 10000 in
theorem dt_X10_keep {P Q : Int32 → Int32 → (Nat → Int32) → (Nat → Int32) → (Nat → Int32) → Prop} {p0 dG pW : Int32} {rD wF vF tY : Nat → Int32} (h : wp_X10_keep P p0 dG pW rD wF vF tY) (hq : ∀ o : Int32 × Int32 × (Nat → Int32) × (Nat → Int32) × (Nat → Int32), o = F_X10_keep p0 dG pW rD wF vF tY → P o.1 o.2.1 o.2.2.1 o.2.2.2.1 o.2.2.2.2 → Q o.1 o.2.1 o.2.2.1 o.2.2.2.1 o.2.2.2.2) : wp_X10_keep Q p0 dG pW rD wF vF tY := by
  rw [F_X10_keep] at hq
  refine du_X10_in h ?_
  intro h
  refine And.intro (fun c1 => ?_) (fun c1 => ?_)
  · have h := And.left h c1
    rw [if_neg c1] at hq
    refine And.intro (And.left h) ?_
    have h := And.right h
    refine And.intro (And.left h) ?_
    have h := And.right h
    refine ae ?_
    have h := h _ rfl
    refine du_X10_lay_b4 h ?_
    intro h
    have q9 := hq _ rfl
    dsimp only at q9
    exact q9 h
  · have h := And.right h c1
    rw [if_pos c1] at hq
    have q9 := hq _ rfl
    dsimp only at q9
    exact q9 h
theorem du_X10_keep {P Q : Int32 → Int32 → (Nat → Int32) → (Nat → Int32) → (Nat → Int32) → Prop} {p0 dG pW : Int32} {rD wF vF tY : Nat → Int32} (h : wp_X10_keep P p0 dG pW rD wF vF tY) (hq : P (F_X10_keep p0 dG pW rD wF vF tY).1 (F_X10_keep p0 dG pW rD wF vF tY).2.1 (F_X10_keep p0 dG pW rD wF vF tY).2.2.1 (F_X10_keep p0 dG pW rD wF vF tY).2.2.2.1 (F_X10_keep p0 dG pW rD wF vF tY).2.2.2.2 → Q (F_X10_keep p0 dG pW rD wF vF tY).1 (F_X10_keep p0 dG pW rD wF vF tY).2.1 (F_X10_keep p0 dG pW rD wF vF tY).2.2.1 (F_X10_keep p0 dG pW rD wF vF tY).2.2.2.1 (F_X10_keep p0 dG pW rD wF vF tY).2.2.2.2) : wp_X10_keep Q p0 dG pW rD wF vF tY := dt_X10_keep h (fun o eo => by rw [eo]; exact hq)
theorem dw_X10_keep {Q : Int32 → Int32 → (Nat → Int32) → (Nat → Int32) → (Nat → Int32) → Prop} {p0 dG pW : Int32} {rD wF vF tY : Nat → Int32} (h : wp_X10_keep (fun o0 o1 o2 o3 o4 => (o0, o1, o2, o3, o4) = F_X10_keep p0 dG pW rD wF vF tY → Q o0 o1 o2 o3 o4) p0 dG pW rD wF vF tY) : wp_X10_keep Q p0 dG pW rD wF vF tY := dt_X10_keep h (fun o eo hp => hp eo)
noncomputable def bd_X10_again_40 (pW : Int32) (wF vF tY : Nat → Int32) (x1 dG bT c : Int32) (s : (Nat → Int32)) : (Nat → Int32) := (upd s c.toNatClampNeg (wF ((21 * x1) + c).toNatClampNeg))
noncomputable def ex_X10_again_40 {R : Type} (po : Int32 → Int32 → Int32 → (Nat → Int32) → R) (pW : Int32) (wF vF tY : Nat → Int32) (x1 dG bT c : Int32) (s : (Nat → Int32)) : R := po 1 dG 0 s
set_option maxHeartbeats 200000 in
set_option maxRecDepth 10000 in
theorem dl_X10_again_40 {P Q : Int32 → Int32 → Int32 → (Nat → Int32) → Prop} {pW : Int32} {wF vF tY : Nat → Int32} {x1 dG bT : Int32} {a : (Nat → Int32)} {i : Nat} (hi0 : i < 2147483648) (hE : ∀ (c : Int32) (s : (Nat → Int32)), c = nI (i + (Int32.toInt 21 - ((i : Nat) : Int)).toNat) → s = itr (bd_X10_again_40 pW wF vF tY x1 dG bT) a i (Int32.toInt 21 - ((i : Nat) : Int)).toNat → (P 1 dG 0 s) → (Q 1 dG 0 s)) : ∀ (n k : Nat) (c : Int32), c = nI (i + k) → k ≤ (Int32.toInt 21 - ((i : Nat) : Int)).toNat → wb_X10_again_40 P pW wF vF tY n x1 c dG bT (itr (bd_X10_again_40 pW wF vF tY x1 dG bT) a i k) → wb_X10_again_40 Q pW wF vF tY n x1 c dG bT (itr (bd_X10_again_40 pW wF vF tY x1 dG bT) a i k) := by
  intro n
  induction n with
  | zero => intro k c hc hk h; exact False.elim h
  | succ n ih =>
    intro k c hc hk h
    have hr := tp_r 21
    have hi : Int32.toInt c = ((i + k : Nat) : Int) := by rw [hc]; exact nI_toInt (by omega)
    refine And.intro (fun t0 => ?_) (fun t0 => ?_)
    · have h := And.left h t0
      have t1 := (fa_le _ _).mp t0
      have hk2 : k = (Int32.toInt 21 - ((i : Nat) : Int)).toNat := by omega
      subst hk2
      exact hE _ _ hc rfl h
    · have h := And.right h t0
      have t1 := mt (fa_le _ _).mpr t0
      have hs : ∀ o : (Nat → Int32), o = itr (bd_X10_again_40 pW wF vF tY x1 dG bT) a i (k + 1) → wb_X10_again_40 P pW wF vF tY n x1 (c + 1) dG bT o → wb_X10_again_40 Q pW wF vF tY n x1 (c + 1) dG bT o := by
        intro o eo h9
        have q := ih (k + 1) (c + 1) (by rw [hc]; exact nI_1 _) (by omega)
        rw [← eo] at q
        exact q h9
      rw [itr_s, ← hc, bd_X10_again_40] at hs
      refine ae ?_
      have h := h _ rfl
      refine ae ?_
      have h := h _ rfl
      refine And.intro (And.left h) ?_
      have h := And.right h
      refine ae ?_
      have h := h _ rfl
      refine And.intro (And.left h) ?_
      have h := And.right h
      refine ae ?_
      have h := h _ rfl
      have q9 := hs _ rfl
      exact q9 h
noncomputable def F_X10_again (p0 dG bT pW : Int32) (rD wF vF tY : Nat → Int32) : Int32 × Int32 × Int32 × (Nat → Int32) := if (F_X10_in p0 0 1) = 0 then (0, 0, bT, rD) else (if (vF p0.toNatClampNeg) = 0 then (0, 0, bT, rD) else (if (tY p0.toNatClampNeg) = pW then (ex_X10_again_40 (fun o0 o1 o2 o3 => (o0, o1, o2, o3)) pW wF vF tY p0 0 bT (nI (0 + (Int32.toInt 21 - ((0 : Nat) : Int)).toNat)) (itr (bd_X10_again_40 pW wF vF tY p0 0 bT) rD 0 (Int32.toInt 21 - ((0 : Nat) : Int)).toNat)) else (0, 0, bT, rD)))
set_option maxHeartbeats 200000 in
set_option maxRecDepth 10000 in
theorem dt_X10_again {P Q : Int32 → Int32 → Int32 → (Nat → Int32) → Prop} {p0 dG bT pW : Int32} {rD wF vF tY : Nat → Int32} (h : wp_X10_again P p0 dG bT pW rD wF vF tY) (hq : ∀ o : Int32 × Int32 × Int32 × (Nat → Int32), o = F_X10_again p0 dG bT pW rD wF vF tY → P o.1 o.2.1 o.2.2.1 o.2.2.2 → Q o.1 o.2.1 o.2.2.1 o.2.2.2) : wp_X10_again Q p0 dG bT pW rD wF vF tY := by
  rw [F_X10_again] at hq
  refine du_X10_in h ?_
  intro h
  refine And.intro (fun c1 => ?_) (fun c1 => ?_)
  · have h := And.left h c1
    rw [if_pos c1] at hq
    have q9 := hq _ rfl
    dsimp only at q9
    exact q9 h
  · have h := And.right h c1
    rw [if_neg c1] at hq
    refine And.intro (And.left h) ?_
    have h := And.right h
    refine And.intro (fun c2 => ?_) (fun c2 => ?_)
    · have h := And.left h c2
      rw [if_pos c2] at hq
      have q9 := hq _ rfl
      dsimp only at q9
      exact q9 h
    · have h := And.right h c2
      rw [if_neg c2] at hq
      refine And.intro (And.left h) ?_
      have h := And.right h
      refine ae ?_
      have h := h _ rfl
      refine And.intro (fun c3 => ?_) (fun c3 => ?_)
      · have h := And.left h c3
        rw [if_pos c3] at hq
        obtain ⟨n4, h⟩ := h
        refine ⟨n4, dl_X10_again_40 (a := rD) (i := 0) (by decide) ?_ n4 0 0 (by decide) (Nat.zero_le _) h⟩
        intro cc5 s6 ec7 es8 h
        rw [← ec7, ← es8, ex_X10_again_40] at hq
        have q9 := hq _ rfl
        dsimp only at q9
        exact q9 h
      · have h := And.right h c3
        rw [if_neg c3] at hq
        have q9 := hq _ rfl
        dsimp only at q9
        exact q9 h
theorem du_X10_again {P Q : Int32 → Int32 → Int32 → (Nat → Int32) → Prop} {p0 dG bT pW : Int32} {rD wF vF tY : Nat → Int32} (h : wp_X10_again P p0 dG bT pW rD wF vF tY) (hq : P (F_X10_again p0 dG bT pW rD wF vF tY).1 (F_X10_again p0 dG bT pW rD wF vF tY).2.1 (F_X10_again p0 dG bT pW rD wF vF tY).2.2.1 (F_X10_again p0 dG bT pW rD wF vF tY).2.2.2 → Q (F_X10_again p0 dG bT pW rD wF vF tY).1 (F_X10_again p0 dG bT pW rD wF vF tY).2.1 (F_X10_again p0 dG bT pW rD wF vF tY).2.2.1 (F_X10_again p0 dG bT pW rD wF vF tY).2.2.2) : wp_X10_again Q p0 dG bT pW rD wF vF tY := dt_X10_again h (fun o eo => by rw [eo]; exact hq)
theorem dw_X10_again {Q : Int32 → Int32 → Int32 → (Nat → Int32) → Prop} {p0 dG bT pW : Int32} {rD wF vF tY : Nat → Int32} (h : wp_X10_again (fun o0 o1 o2 o3 => (o0, o1, o2, o3) = F_X10_again p0 dG bT pW rD wF vF tY → Q o0 o1 o2 o3) p0 dG bT pW rD wF vF tY) : wp_X10_again Q p0 dG bT pW rD wF vF tY := dt_X10_again h (fun o eo hp => hp eo)
