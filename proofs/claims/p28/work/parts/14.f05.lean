set_option maxHeartbeats 200000 in
set_option maxRecDepth 10000 in
theorem dl_X9_doActs_21 {P Q : Int32 -> Int32 -> Int32 -> Int32 -> Int32 -> Int32 -> Int32 -> Int32 -> Int32 -> (Nat -> Int32) -> (Nat -> Int32) -> Int32 -> Int32 -> (Nat -> Int32) -> Int32 -> (Nat -> Int32) -> Prop} {wE : Nat -> Int32} {dN bD : Int32} {uU gF pL qF mX oE dY : Nat -> Int32} {pQ : Int32} {pN : Nat -> Int32} {R : Type} {po : Int32 -> Int32 -> Int32 -> Int32 -> Int32 -> Int32 -> Int32 -> Int32 -> Int32 -> (Nat -> Int32) -> (Nat -> Int32) -> Int32 -> Int32 -> (Nat -> Int32) -> Int32 -> (Nat -> Int32) -> R} {d : Int32 -> Int32 -> Int32 -> Int32 -> Int32 -> Int32 -> Int32 -> Int32 -> Int32 -> Int32 -> Int32 -> Int32 -> Int32 -> (Nat -> Int32) -> (Nat -> Int32) -> Int32 -> Int32 -> (Nat -> Int32) -> Int32 -> (Nat -> Int32) -> R} : ∀ (n m : Nat) (x1 x2 x3 x4 x5 jE eW eY dU fY gJ jG nU : Int32) (qY qU : Nat -> Int32) (pR uM : Int32) (tD : Nat -> Int32) (qB : Int32) (jK : Nat -> Int32), 0 <= Int32.toInt x5 /\ Int32.toInt x5 <= 30 -> 30 - Int32.toInt x5 < (m : Int) -> wb_X9_doActs_21 P wE dN bD uU gF pL qF mX oE dY pQ pN n x1 x2 x3 x4 x5 jE eW eY dU fY gJ jG nU qY qU pR uM tD qB jK -> (∀ (b0 b1 b2 b3 b4 b5 b6 b7 b8 : Int32) (b9 b10 : Nat -> Int32) (b11 b12 : Int32) (b13 : Nat -> Int32) (b14 : Int32) (b15 : Nat -> Int32), po b0 b1 b2 b3 b4 b5 b6 b7 b8 b9 b10 b11 b12 b13 b14 b15 = flp (fs_X9_doActs_21 po wE dN bD uU gF pL qF mX oE dY pQ pN) d m x1 x2 x3 x4 x5 jE eW eY dU fY gJ jG nU qY qU pR uM tD qB jK -> P b0 b1 b2 b3 b4 b5 b6 b7 b8 b9 b10 b11 b12 b13 b14 b15 -> Q b0 b1 b2 b3 b4 b5 b6 b7 b8 b9 b10 b11 b12 b13 b14 b15) -> wb_X9_doActs_21 Q wE dN bD uU gF pL qF mX oE dY pQ pN n x1 x2 x3 x4 x5 jE eW eY dU fY gJ jG nU qY qU pR uM tD qB jK := by
  have l1 : Int32.toInt (1 : Int32) = 1 := by decide
  have l30 : Int32.toInt (30 : Int32) = 30 := by decide
  intro n
  induction n with
  | zero => intro m x1 x2 x3 x4 x5 jE eW eY dU fY gJ jG nU qY qU pR uM tD qB jK hv hm h hq; exact False.elim h
  | succ n ih =>
    intro m x1 x2 x3 x4 x5 jE eW eY dU fY gJ jG nU qY qU pR uM tD qB jK hv hm h hq
    cases m with
    | zero => exfalso; omega
    | succ m =>
      rw [flp_s, fs_X9_doActs_21] at hq
      have h : ws_X9_doActs_21 P (wb_X9_doActs_21 P wE dN bD uU gF pL qF mX oE dY pQ pN n) wE dN bD uU gF pL qF mX oE dY pQ pN x1 x2 x3 x4 x5 jE eW eY dU fY gJ jG nU qY qU pR uM tD qB jK := h
      show ws_X9_doActs_21 Q (wb_X9_doActs_21 Q wE dN bD uU gF pL qF mX oE dY pQ pN n) wE dN bD uU gF pL qF mX oE dY pQ pN x1 x2 x3 x4 x5 jE eW eY dU fY gJ jG nU qY qU pR uM tD qB jK
      unfold ws_X9_doActs_21 at h ⊢
      refine And.intro (fun c1 => ?_) (fun c1 => ?_)
      · have h := And.left h c1
        rw [if_pos c1] at hq
        have dc1 := (aAO _ _).mp c1
        rw [j_X9_doActs_107] at hq
        unfold ws_X9_doActs_107 at h ⊢
        refine And.intro (fun c2 => ?_) (fun c2 => ?_)
        · have h := And.left h c2
          rw [if_pos c2] at hq
          have dc2 := (aAO _ _).mp c2
          rw [j_X9_doActs_118] at hq
          unfold bCZ at h ⊢
          refine du_X9_tell_ h ?_
          intro h
          exact hq _ _ _ _ _ _ _ _ _ _ _ _ _ _ _ _ rfl h
        · have h := And.right h c2
          rw [if_neg c2] at hq
          have dc2 := mt (aAO _ _).mpr c2
          refine du_X4_hold h ?_
          intro h
          rw [j_X9_doActs_118] at hq
          unfold bCZ at h ⊢
          refine du_X9_tell_ h ?_
          intro h
          exact hq _ _ _ _ _ _ _ _ _ _ _ _ _ _ _ _ rfl h
      · have h := And.right h c1
        rw [if_neg c1] at hq
        have dc1 := mt (aAO _ _).mpr c1
        refine And.intro (fun c3 => ?_) (fun c3 => ?_)
        · have h := And.left h c3
          rw [if_pos c3] at hq
          have dc3 := (aAO _ _).mp c3
          rw [j_X9_doActs_107] at hq
          unfold ws_X9_doActs_107 at h ⊢
          refine And.intro (fun c4 => ?_) (fun c4 => ?_)
          · have h := And.left h c4
            rw [if_pos c4] at hq
            have dc4 := (aAO _ _).mp c4
            rw [j_X9_doActs_118] at hq
            unfold bCZ at h ⊢
            refine du_X9_tell_ h ?_
            intro h
            exact hq _ _ _ _ _ _ _ _ _ _ _ _ _ _ _ _ rfl h
          · have h := And.right h c4
            rw [if_neg c4] at hq
            have dc4 := mt (aAO _ _).mpr c4
            refine du_X4_hold h ?_
            intro h
            rw [j_X9_doActs_118] at hq
            unfold bCZ at h ⊢
            refine du_X9_tell_ h ?_
            intro h
            exact hq _ _ _ _ _ _ _ _ _ _ _ _ _ _ _ _ rfl h
        · have h := And.right h c3
          rw [if_neg c3] at hq
          have dc3 := mt (aAO _ _).mpr c3
          refine And.intro (fun c5 => ?_) (fun c5 => ?_)
          · have h := And.left h c5
            rw [if_neg c5] at hq
            have dc5 := mt (zJ _ _).mpr c5
            rw [j_X9_doActs_107] at hq
            unfold ws_X9_doActs_107 at h ⊢
            refine And.intro (fun c6 => ?_) (fun c6 => ?_)
            · have h := And.left h c6
              rw [if_pos c6] at hq
              have dc6 := (aAO _ _).mp c6
              rw [j_X9_doActs_118] at hq
              unfold bCZ at h ⊢
              refine du_X9_tell_ h ?_
              intro h
              exact hq _ _ _ _ _ _ _ _ _ _ _ _ _ _ _ _ rfl h
            · have h := And.right h c6
              rw [if_neg c6] at hq
              have dc6 := mt (aAO _ _).mpr c6
              refine du_X4_hold h ?_
              intro h
              rw [j_X9_doActs_118] at hq
              unfold bCZ at h ⊢
              refine du_X9_tell_ h ?_
              intro h
              exact hq _ _ _ _ _ _ _ _ _ _ _ _ _ _ _ _ rfl h
          · have h := And.right h c5
            rw [if_pos c5] at hq
            have dc5 := (zJ _ _).mp c5
            refine And.intro (And.left h) ?_
            have h := And.right h
            refine ae ?_
            have h := h _ rfl
            refine ae ?_
            have h := h _ rfl
            refine And.intro (And.left h) ?_
            have h := And.right h
            refine ae ?_
            have h := h _ rfl
            refine ae ?_
            have h := h _ rfl
            refine du_X9_doAct h ?_
            intro h
            refine And.intro (fun c7 => ?_) (fun c7 => ?_)
            · have h := And.left h c7
              rw [if_pos c7] at hq
              have dc7 := (aAO _ _).mp c7
              refine ae ?_
              have h := h _ rfl
              refine And.intro (fun c8 => ?_) (fun c8 => ?_)
              · have h := And.left h c8
                rw [if_pos c8] at hq
                have dc8 := (zJ _ _).mp c8
                rw [j_X9_doActs_94] at hq
                unfold ws_X9_doActs_94 at h ⊢
                rw [j_X9_doActs_99] at hq
                unfold ws_X9_doActs_99 at h ⊢
                refine ae ?_
                have h := h _ rfl
                rw [j_X9_doActs_101] at hq
                unfold ws_X9_doActs_101 at h ⊢
                refine ae ?_
                have h := h _ rfl
                have f9 := aAD x5 1 (by omega)
                exact ih m _ _ _ _ _ _ _ _ _ _ _ _ _ _ _ _ _ _ _ _ (by omega) (by omega) h hq
              · have h := And.right h c8
                rw [if_neg c8] at hq
                have dc8 := mt (zJ _ _).mpr c8
                refine And.intro (fun c9 => ?_) (fun c9 => ?_)
                · have h := And.left h c9
                  rw [if_neg c9] at hq
                  have dc9 := mt (zJ _ _).mpr c9
                  rw [j_X9_doActs_99] at hq
                  unfold ws_X9_doActs_99 at h ⊢
                  refine ae ?_
                  have h := h _ rfl
                  rw [j_X9_doActs_101] at hq
                  unfold ws_X9_doActs_101 at h ⊢
                  refine ae ?_
                  have h := h _ rfl
                  have f9 := aAD x5 1 (by omega)
                  exact ih m _ _ _ _ _ _ _ _ _ _ _ _ _ _ _ _ _ _ _ _ (by omega) (by omega) h hq
                · have h := And.right h c9
                  rw [if_pos c9] at hq
                  have dc9 := (zJ _ _).mp c9
                  rw [j_X9_doActs_94] at hq
                  unfold ws_X9_doActs_94 at h ⊢
                  rw [j_X9_doActs_99] at hq
                  unfold ws_X9_doActs_99 at h ⊢
                  refine ae ?_
                  have h := h _ rfl
                  rw [j_X9_doActs_101] at hq
                  unfold ws_X9_doActs_101 at h ⊢
                  refine ae ?_
                  have h := h _ rfl
                  have f9 := aAD x5 1 (by omega)
                  exact ih m _ _ _ _ _ _ _ _ _ _ _ _ _ _ _ _ _ _ _ _ (by omega) (by omega) h hq
            · have h := And.right h c7
              rw [if_neg c7] at hq
              have dc7 := mt (aAO _ _).mpr c7
              rw [j_X9_doActs_101] at hq
              unfold ws_X9_doActs_101 at h ⊢
              refine ae ?_
              have h := h _ rfl
              have f9 := aAD x5 1 (by omega)
              exact ih m _ _ _ _ _ _ _ _ _ _ _ _ _ _ _ _ _ _ _ _ (by omega) (by omega) h hq
noncomputable def aHg (p0 : Int32) (wE : Nat -> Int32) (dN bD : Int32) (uU gF pL qF mX oE dY : Nat -> Int32) (jE eW eY dU fY gJ jG nU pQ : Int32) (qY qU pN : Nat -> Int32) (pR uM : Int32) (tD : Nat -> Int32) (qB : Int32) (jK : Nat -> Int32) : Int32 × Int32 × Int32 × Int32 × Int32 × Int32 × Int32 × Int32 × Int32 × (Nat -> Int32) × (Nat -> Int32) × Int32 × Int32 × (Nat -> Int32) × Int32 × (Nat -> Int32) := flp (fs_X9_doActs_21 (fun o0 o1 o2 o3 o4 o5 o6 o7 o8 o9 o10 o11 o12 o13 o14 o15 => (o0, o1, o2, o3, o4, o5, o6, o7, o8, o9, o10, o11, o12, o13, o14, o15)) wE dN bD uU gF pL qF mX oE dY pQ pN) (fun _ _ _ _ _ _ _ _ _ _ _ _ _ _ _ _ _ _ _ _ => (0, 0, 0, 0, 0, 0, 0, 0, 0, (fun _ => 0), (fun _ => 0), 0, 0, (fun _ => 0), 0, (fun _ => 0))) 31 p0 0 0 0 0 jE eW eY dU fY gJ jG nU qY qU pR uM (F_X4_note jE eW eY dU fY gJ jG nU uM tD) qB jK
set_option maxHeartbeats 200000 in
set_option maxRecDepth 10000 in
theorem dt_X9_doActs {P Q : Int32 -> Int32 -> Int32 -> Int32 -> Int32 -> Int32 -> Int32 -> Int32 -> Int32 -> (Nat -> Int32) -> (Nat -> Int32) -> Int32 -> Int32 -> (Nat -> Int32) -> Int32 -> (Nat -> Int32) -> Prop} {p0 : Int32} {wE : Nat -> Int32} {dN bD : Int32} {uU gF pL qF mX oE dY : Nat -> Int32} {jE eW eY dU fY gJ jG nU pQ : Int32} {qY qU pN : Nat -> Int32} {pR uM : Int32} {tD : Nat -> Int32} {qB : Int32} {jK : Nat -> Int32} (h : wp_X9_doActs P p0 wE dN bD uU gF pL qF mX oE dY jE eW eY dU fY gJ jG nU pQ qY qU pN pR uM tD qB jK) (hq : ∀ o : Int32 × Int32 × Int32 × Int32 × Int32 × Int32 × Int32 × Int32 × Int32 × (Nat -> Int32) × (Nat -> Int32) × Int32 × Int32 × (Nat -> Int32) × Int32 × (Nat -> Int32), o = aHg p0 wE dN bD uU gF pL qF mX oE dY jE eW eY dU fY gJ jG nU pQ qY qU pN pR uM tD qB jK -> P o.1 o.2.1 o.2.2.1 o.2.2.2.1 o.2.2.2.2.1 o.2.2.2.2.2.1 o.2.2.2.2.2.2.1 o.2.2.2.2.2.2.2.1 o.2.2.2.2.2.2.2.2.1 o.2.2.2.2.2.2.2.2.2.1 o.2.2.2.2.2.2.2.2.2.2.1 o.2.2.2.2.2.2.2.2.2.2.2.1 o.2.2.2.2.2.2.2.2.2.2.2.2.1 o.2.2.2.2.2.2.2.2.2.2.2.2.2.1 o.2.2.2.2.2.2.2.2.2.2.2.2.2.2.1 o.2.2.2.2.2.2.2.2.2.2.2.2.2.2.2 -> Q o.1 o.2.1 o.2.2.1 o.2.2.2.1 o.2.2.2.2.1 o.2.2.2.2.2.1 o.2.2.2.2.2.2.1 o.2.2.2.2.2.2.2.1 o.2.2.2.2.2.2.2.2.1 o.2.2.2.2.2.2.2.2.2.1 o.2.2.2.2.2.2.2.2.2.2.1 o.2.2.2.2.2.2.2.2.2.2.2.1 o.2.2.2.2.2.2.2.2.2.2.2.2.1 o.2.2.2.2.2.2.2.2.2.2.2.2.2.1 o.2.2.2.2.2.2.2.2.2.2.2.2.2.2.1 o.2.2.2.2.2.2.2.2.2.2.2.2.2.2.2) : wp_X9_doActs Q p0 wE dN bD uU gF pL qF mX oE dY jE eW eY dU fY gJ jG nU pQ qY qU pN pR uM tD qB jK := by
  rw [aHg] at hq
  refine du_X4_note h ?_
  intro h
  obtain ⟨n1, h⟩ := h
  exact ⟨n1, dl_X9_doActs_21 n1 31 _ _ _ _ _ _ _ _ _ _ _ _ _ _ _ _ _ _ _ _ (by decide) (by decide) h (fun b0 b1 b2 b3 b4 b5 b6 b7 b8 b9 b10 b11 b12 b13 b14 b15 e9 h9 => hq (b0, b1, b2, b3, b4, b5, b6, b7, b8, b9, b10, b11, b12, b13, b14, b15) e9 h9)⟩
theorem du_X9_doActs {P Q : Int32 -> Int32 -> Int32 -> Int32 -> Int32 -> Int32 -> Int32 -> Int32 -> Int32 -> (Nat -> Int32) -> (Nat -> Int32) -> Int32 -> Int32 -> (Nat -> Int32) -> Int32 -> (Nat -> Int32) -> Prop} {p0 : Int32} {wE : Nat -> Int32} {dN bD : Int32} {uU gF pL qF mX oE dY : Nat -> Int32} {jE eW eY dU fY gJ jG nU pQ : Int32} {qY qU pN : Nat -> Int32} {pR uM : Int32} {tD : Nat -> Int32} {qB : Int32} {jK : Nat -> Int32} (h : wp_X9_doActs P p0 wE dN bD uU gF pL qF mX oE dY jE eW eY dU fY gJ jG nU pQ qY qU pN pR uM tD qB jK) (hq : P (aHg p0 wE dN bD uU gF pL qF mX oE dY jE eW eY dU fY gJ jG nU pQ qY qU pN pR uM tD qB jK).1 (aHg p0 wE dN bD uU gF pL qF mX oE dY jE eW eY dU fY gJ jG nU pQ qY qU pN pR uM tD qB jK).2.1 (aHg p0 wE dN bD uU gF pL qF mX oE dY jE eW eY dU fY gJ jG nU pQ qY qU pN pR uM tD qB jK).2.2.1 (aHg p0 wE dN bD uU gF pL qF mX oE dY jE eW eY dU fY gJ jG nU pQ qY qU pN pR uM tD qB jK).2.2.2.1 (aHg p0 wE dN bD uU gF pL qF mX oE dY jE eW eY dU fY gJ jG nU pQ qY qU pN pR uM tD qB jK).2.2.2.2.1 (aHg p0 wE dN bD uU gF pL qF mX oE dY jE eW eY dU fY gJ jG nU pQ qY qU pN pR uM tD qB jK).2.2.2.2.2.1 (aHg p0 wE dN bD uU gF pL qF mX oE dY jE eW eY dU fY gJ jG nU pQ qY qU pN pR uM tD qB jK).2.2.2.2.2.2.1 (aHg p0 wE dN bD uU gF pL qF mX oE dY jE eW eY dU fY gJ jG nU pQ qY qU pN pR uM tD qB jK).2.2.2.2.2.2.2.1 (aHg p0 wE dN bD uU gF pL qF mX oE dY jE eW eY dU fY gJ jG nU pQ qY qU pN pR uM tD qB jK).2.2.2.2.2.2.2.2.1 (aHg p0 wE dN bD uU gF pL qF mX oE dY jE eW eY dU fY gJ jG nU pQ qY qU pN pR uM tD qB jK).2.2.2.2.2.2.2.2.2.1 (aHg p0 wE dN bD uU gF pL qF mX oE dY jE eW eY dU fY gJ jG nU pQ qY qU pN pR uM tD qB jK).2.2.2.2.2.2.2.2.2.2.1 (aHg p0 wE dN bD uU gF pL qF mX oE dY jE eW eY dU fY gJ jG nU pQ qY qU pN pR uM tD qB jK).2.2.2.2.2.2.2.2.2.2.2.1 (aHg p0 wE dN bD uU gF pL qF mX oE dY jE eW eY dU fY gJ jG nU pQ qY qU pN pR uM tD qB jK).2.2.2.2.2.2.2.2.2.2.2.2.1 (aHg p0 wE dN bD uU gF pL qF mX oE dY jE eW eY dU fY gJ jG nU pQ qY qU pN pR uM tD qB jK).2.2.2.2.2.2.2.2.2.2.2.2.2.1 (aHg p0 wE dN bD uU gF pL qF mX oE dY jE eW eY dU fY gJ jG nU pQ qY qU pN pR uM tD qB jK).2.2.2.2.2.2.2.2.2.2.2.2.2.2.1 (aHg p0 wE dN bD uU gF pL qF mX oE dY jE eW eY dU fY gJ jG nU pQ qY qU pN pR uM tD qB jK).2.2.2.2.2.2.2.2.2.2.2.2.2.2.2 -> Q (aHg p0 wE dN bD uU gF pL qF mX oE dY jE eW eY dU fY gJ jG nU pQ qY qU pN pR uM tD qB jK).1 (aHg p0 wE dN bD uU gF pL qF mX oE dY jE eW eY dU fY gJ jG nU pQ qY qU pN pR uM tD qB jK).2.1 (aHg p0 wE dN bD uU gF pL qF mX oE dY jE eW eY dU fY gJ jG nU pQ qY qU pN pR uM tD qB jK).2.2.1 (aHg p0 wE dN bD uU gF pL qF mX oE dY jE eW eY dU fY gJ jG nU pQ qY qU pN pR uM tD qB jK).2.2.2.1 (aHg p0 wE dN bD uU gF pL qF mX oE dY jE eW eY dU fY gJ jG nU pQ qY qU pN pR uM tD qB jK).2.2.2.2.1 (aHg p0 wE dN bD uU gF pL qF mX oE dY jE eW eY dU fY gJ jG nU pQ qY qU pN pR uM tD qB jK).2.2.2.2.2.1 (aHg p0 wE dN bD uU gF pL qF mX oE dY jE eW eY dU fY gJ jG nU pQ qY qU pN pR uM tD qB jK).2.2.2.2.2.2.1 (aHg p0 wE dN bD uU gF pL qF mX oE dY jE eW eY dU fY gJ jG nU pQ qY qU pN pR uM tD qB jK).2.2.2.2.2.2.2.1 (aHg p0 wE dN bD uU gF pL qF mX oE dY jE eW eY dU fY gJ jG nU pQ qY qU pN pR uM tD qB jK).2.2.2.2.2.2.2.2.1 (aHg p0 wE dN bD uU gF pL qF mX oE dY jE eW eY dU fY gJ jG nU pQ qY qU pN pR uM tD qB jK).2.2.2.2.2.2.2.2.2.1 (aHg p0 wE dN bD uU gF pL qF mX oE dY jE eW eY dU fY gJ jG nU pQ qY qU pN pR uM tD qB jK).2.2.2.2.2.2.2.2.2.2.1 (aHg p0 wE dN bD uU gF pL qF mX oE dY jE eW eY dU fY gJ jG nU pQ qY qU pN pR uM tD qB jK).2.2.2.2.2.2.2.2.2.2.2.1 (aHg p0 wE dN bD uU gF pL qF mX oE dY jE eW eY dU fY gJ jG nU pQ qY qU pN pR uM tD qB jK).2.2.2.2.2.2.2.2.2.2.2.2.1 (aHg p0 wE dN bD uU gF pL qF mX oE dY jE eW eY dU fY gJ jG nU pQ qY qU pN pR uM tD qB jK).2.2.2.2.2.2.2.2.2.2.2.2.2.1 (aHg p0 wE dN bD uU gF pL qF mX oE dY jE eW eY dU fY gJ jG nU pQ qY qU pN pR uM tD qB jK).2.2.2.2.2.2.2.2.2.2.2.2.2.2.1 (aHg p0 wE dN bD uU gF pL qF mX oE dY jE eW eY dU fY gJ jG nU pQ qY qU pN pR uM tD qB jK).2.2.2.2.2.2.2.2.2.2.2.2.2.2.2) : wp_X9_doActs Q p0 wE dN bD uU gF pL qF mX oE dY jE eW eY dU fY gJ jG nU pQ qY qU pN pR uM tD qB jK := dt_X9_doActs h (fun o eo => by rw [eo]; exact hq)
theorem dw_X9_doActs {Q : Int32 -> Int32 -> Int32 -> Int32 -> Int32 -> Int32 -> Int32 -> Int32 -> Int32 -> (Nat -> Int32) -> (Nat -> Int32) -> Int32 -> Int32 -> (Nat -> Int32) -> Int32 -> (Nat -> Int32) -> Prop} {p0 : Int32} {wE : Nat -> Int32} {dN bD : Int32} {uU gF pL qF mX oE dY : Nat -> Int32} {jE eW eY dU fY gJ jG nU pQ : Int32} {qY qU pN : Nat -> Int32} {pR uM : Int32} {tD : Nat -> Int32} {qB : Int32} {jK : Nat -> Int32} (h : wp_X9_doActs (fun o0 o1 o2 o3 o4 o5 o6 o7 o8 o9 o10 o11 o12 o13 o14 o15 => (o0, o1, o2, o3, o4, o5, o6, o7, o8, o9, o10, o11, o12, o13, o14, o15) = aHg p0 wE dN bD uU gF pL qF mX oE dY jE eW eY dU fY gJ jG nU pQ qY qU pN pR uM tD qB jK -> Q o0 o1 o2 o3 o4 o5 o6 o7 o8 o9 o10 o11 o12 o13 o14 o15) p0 wE dN bD uU gF pL qF mX oE dY jE eW eY dU fY gJ jG nU pQ qY qU pN pR uM tD qB jK) : wp_X9_doActs Q p0 wE dN bD uU gF pL qF mX oE dY jE eW eY dU fY gJ jG nU pQ qY qU pN pR uM tD qB jK := dt_X9_doActs h (fun o eo hp => hp eo)
noncomputable def aUF {R : Type} (po : Int32 -> Int32 -> R) (rX : Int32) (qM : Nat -> Int32) (x1 x2 qJ : Int32) : R := if x2 = 0 then (po (x1 * 100) (aVj qJ rX)) else (if (aCW x2 (aVj qJ rX) rX qM).1 = (-1) then (po (-1) ((aCW x2 (aVj qJ rX) rX qM).2)) else (po ((x1 * 100) + (aCW x2 (aVj qJ rX) rX qM).1) ((aCW x2 (aVj qJ rX) rX qM).2)))
noncomputable def bBX {R : Type} (po : Int32 -> Int32 -> R) (rX : Int32) (qM : Nat -> Int32) (x1 x2 qJ : Int32) : R := aUF po rX qM x1 x2 qJ
noncomputable def j_X9_readAct_133 {R : Type} (po : Int32 -> Int32 -> R) (rX : Int32) (qM : Nat -> Int32) (x1 qJ : Int32) : R := aUF po rX qM x1 2 qJ
noncomputable def aVT (qJ rX : Int32) (qM : Nat -> Int32) : Int32 × Int32 := if (aE7 qJ rX qM) = 97 then (bBX (fun o0 o1 => (o0, o1)) rX qM (aE7 qJ rX qM) 0 qJ) else (if (aE7 qJ rX qM) = 100 then (bBX (fun o0 o1 => (o0, o1)) rX qM (aE7 qJ rX qM) 0 qJ) else (if (aE7 qJ rX qM) = 104 then (j_X9_readAct_133 (fun o0 o1 => (o0, o1)) rX qM (aE7 qJ rX qM) qJ) else (if (aE7 qJ rX qM) = 107 then (bBX (fun o0 o1 => (o0, o1)) rX qM (aE7 qJ rX qM) 0 qJ) else (if (aE7 qJ rX qM) = 109 then (aUF (fun o0 o1 => (o0, o1)) rX qM (aE7 qJ rX qM) 1 qJ) else (if (aE7 qJ rX qM) = 111 then (bBX (fun o0 o1 => (o0, o1)) rX qM (aE7 qJ rX qM) 0 qJ) else (if (aE7 qJ rX qM) = 112 then (j_X9_readAct_133 (fun o0 o1 => (o0, o1)) rX qM (aE7 qJ rX qM) qJ) else (if (aE7 qJ rX qM) = 122 then (bBX (fun o0 o1 => (o0, o1)) rX qM (aE7 qJ rX qM) 0 qJ) else ((-1), qJ))))))))
set_option maxHeartbeats 200000 in
set_option maxRecDepth 10000 in
theorem dt_X9_readAct {P Q : Int32 -> Int32 -> Prop} {qJ rX : Int32} {qM : Nat -> Int32} (h : wp_X9_readAct P qJ rX qM) (hq : ∀ o : Int32 × Int32, o = aVT qJ rX qM -> P o.1 o.2 -> Q o.1 o.2) : wp_X9_readAct Q qJ rX qM := by
  rw [aVT] at hq
  refine du_X8_here h ?_
  intro h
  refine (And.intro (fun c1 => ?_) (And.intro (fun c2 => ?_) (And.intro (fun c3 => ?_) (And.intro (fun c4 => ?_) (And.intro (fun c5 => ?_) (And.intro (fun c6 => ?_) (And.intro (fun c7 => ?_) (And.intro (fun c8 => ?_) (fun c1 c2 c3 c4 c5 c6 c7 c8 => ?_)))))))))
  · have h := And.left h c1
    rw [if_pos c1] at hq
    rw [bBX] at hq
    unfold aUI at h ⊢
    rw [aUF] at hq
    unfold aUJ at h ⊢
    refine du_X8_skip h ?_
    intro h
    refine And.intro (fun c9 => ?_) (fun c9 => ?_)
    · have h := And.left h c9
      rw [if_neg c9] at hq
      refine aUE (by decide) h ?_
      intro h
      refine And.intro (fun c10 => ?_) (fun c10 => ?_)
      · have h := And.left h c10
        rw [if_neg c10] at hq
        refine ae ?_
        have h := h _ rfl
        have q9 := hq _ rfl
        dsimp only at q9
        exact q9 h
      · have h := And.right h c10
        rw [if_pos c10] at hq
        have q9 := hq _ rfl
        dsimp only at q9
        exact q9 h
    · have h := And.right h c9
      rw [if_pos c9] at hq
      have q9 := hq _ rfl
      dsimp only at q9
      exact q9 h
  · have h := And.left (And.right h) c2
    rw [if_neg (fun e9 => absurd (e9.symm.trans c2) (by decide)), if_pos c2] at hq
    rw [bBX] at hq
    unfold aUI at h ⊢
    rw [aUF] at hq
    unfold aUJ at h ⊢
    refine du_X8_skip h ?_
    intro h
    refine And.intro (fun c11 => ?_) (fun c11 => ?_)
    · have h := And.left h c11
      rw [if_neg c11] at hq
      refine aUE (by decide) h ?_
      intro h
      refine And.intro (fun c12 => ?_) (fun c12 => ?_)
      · have h := And.left h c12
        rw [if_neg c12] at hq
        refine ae ?_
        have h := h _ rfl
        have q9 := hq _ rfl
        dsimp only at q9
        exact q9 h
      · have h := And.right h c12
        rw [if_pos c12] at hq
        have q9 := hq _ rfl
        dsimp only at q9
        exact q9 h
    · have h := And.right h c11
      rw [if_pos c11] at hq
      have q9 := hq _ rfl
      dsimp only at q9
      exact q9 h
  · have h := And.left (And.right (And.right h)) c3
    rw [if_neg (fun e9 => absurd (e9.symm.trans c3) (by decide)), if_neg (fun e9 => absurd (e9.symm.trans c3) (by decide)), if_pos c3] at hq
    rw [j_X9_readAct_133] at hq
    unfold ws_X9_readAct_133 at h ⊢
    rw [aUF] at hq
    unfold aUJ at h ⊢
    refine du_X8_skip h ?_
    intro h
    refine And.intro (fun c13 => ?_) (fun c13 => ?_)
    · have h := And.left h c13
      rw [if_neg c13] at hq
      refine aUE (by decide) h ?_
      intro h
      refine And.intro (fun c14 => ?_) (fun c14 => ?_)
      · have h := And.left h c14
        rw [if_neg c14] at hq
        refine ae ?_
        have h := h _ rfl
        have q9 := hq _ rfl
        dsimp only at q9
        exact q9 h
      · have h := And.right h c14
        rw [if_pos c14] at hq
        have q9 := hq _ rfl
        dsimp only at q9
        exact q9 h
    · have h := And.right h c13
      rw [if_pos c13] at hq
      have q9 := hq _ rfl
      dsimp only at q9
      exact q9 h
  · have h := And.left (And.right (And.right (And.right h))) c4
    rw [if_neg (fun e9 => absurd (e9.symm.trans c4) (by decide)), if_neg (fun e9 => absurd (e9.symm.trans c4) (by decide)), if_neg (fun e9 => absurd (e9.symm.trans c4) (by decide)), if_pos c4] at hq
    rw [bBX] at hq
    unfold aUI at h ⊢
    rw [aUF] at hq
    unfold aUJ at h ⊢
    refine du_X8_skip h ?_
    intro h
    refine And.intro (fun c15 => ?_) (fun c15 => ?_)
    · have h := And.left h c15
      rw [if_neg c15] at hq
      refine aUE (by decide) h ?_
      intro h
      refine And.intro (fun c16 => ?_) (fun c16 => ?_)
      · have h := And.left h c16
        rw [if_neg c16] at hq
        refine ae ?_
        have h := h _ rfl
        have q9 := hq _ rfl
        dsimp only at q9
        exact q9 h
      · have h := And.right h c16
        rw [if_pos c16] at hq
        have q9 := hq _ rfl
        dsimp only at q9
        exact q9 h
    · have h := And.right h c15
      rw [if_pos c15] at hq
      have q9 := hq _ rfl
      dsimp only at q9
      exact q9 h
  · have h := And.left (And.right (And.right (And.right (And.right h)))) c5
    rw [if_neg (fun e9 => absurd (e9.symm.trans c5) (by decide)), if_neg (fun e9 => absurd (e9.symm.trans c5) (by decide)), if_neg (fun e9 => absurd (e9.symm.trans c5) (by decide)), if_neg (fun e9 => absurd (e9.symm.trans c5) (by decide)), if_pos c5] at hq
    rw [aUF] at hq
    unfold aUJ at h ⊢
    refine du_X8_skip h ?_
    intro h
    refine And.intro (fun c17 => ?_) (fun c17 => ?_)
    · have h := And.left h c17
      rw [if_neg c17] at hq
      refine aUE (by decide) h ?_
      intro h
      refine And.intro (fun c18 => ?_) (fun c18 => ?_)
      · have h := And.left h c18
        rw [if_neg c18] at hq
        refine ae ?_
        have h := h _ rfl
        have q9 := hq _ rfl
        dsimp only at q9
        exact q9 h
      · have h := And.right h c18
        rw [if_pos c18] at hq
        have q9 := hq _ rfl
        dsimp only at q9
        exact q9 h
    · have h := And.right h c17
      rw [if_pos c17] at hq
      have q9 := hq _ rfl
      dsimp only at q9
      exact q9 h
  · have h := And.left (And.right (And.right (And.right (And.right (And.right h))))) c6
    rw [if_neg (fun e9 => absurd (e9.symm.trans c6) (by decide)), if_neg (fun e9 => absurd (e9.symm.trans c6) (by decide)), if_neg (fun e9 => absurd (e9.symm.trans c6) (by decide)), if_neg (fun e9 => absurd (e9.symm.trans c6) (by decide)), if_neg (fun e9 => absurd (e9.symm.trans c6) (by decide)), if_pos c6] at hq
    rw [bBX] at hq
    unfold aUI at h ⊢
    rw [aUF] at hq
    unfold aUJ at h ⊢
    refine du_X8_skip h ?_
    intro h
    refine And.intro (fun c19 => ?_) (fun c19 => ?_)
    · have h := And.left h c19
      rw [if_neg c19] at hq
      refine aUE (by decide) h ?_
      intro h
      refine And.intro (fun c20 => ?_) (fun c20 => ?_)
      · have h := And.left h c20
        rw [if_neg c20] at hq
        refine ae ?_
        have h := h _ rfl
        have q9 := hq _ rfl
        dsimp only at q9
        exact q9 h
      · have h := And.right h c20
        rw [if_pos c20] at hq
        have q9 := hq _ rfl
        dsimp only at q9
        exact q9 h
    · have h := And.right h c19
      rw [if_pos c19] at hq
      have q9 := hq _ rfl
      dsimp only at q9
      exact q9 h
  · have h := And.left (And.right (And.right (And.right (And.right (And.right (And.right h)))))) c7
    rw [if_neg (fun e9 => absurd (e9.symm.trans c7) (by decide)), if_neg (fun e9 => absurd (e9.symm.trans c7) (by decide)), if_neg (fun e9 => absurd (e9.symm.trans c7) (by decide)), if_neg (fun e9 => absurd (e9.symm.trans c7) (by decide)), if_neg (fun e9 => absurd (e9.symm.trans c7) (by decide)), if_neg (fun e9 => absurd (e9.symm.trans c7) (by decide)), if_pos c7] at hq
    rw [j_X9_readAct_133] at hq
    unfold ws_X9_readAct_133 at h ⊢
    rw [aUF] at hq
    unfold aUJ at h ⊢
    refine du_X8_skip h ?_
    intro h
    refine And.intro (fun c21 => ?_) (fun c21 => ?_)
    · have h := And.left h c21
      rw [if_neg c21] at hq
      refine aUE (by decide) h ?_
      intro h
      refine And.intro (fun c22 => ?_) (fun c22 => ?_)
      · have h := And.left h c22
        rw [if_neg c22] at hq
        refine ae ?_
        have h := h _ rfl
        have q9 := hq _ rfl
        dsimp only at q9
        exact q9 h
      · have h := And.right h c22
        rw [if_pos c22] at hq
        have q9 := hq _ rfl
        dsimp only at q9
        exact q9 h
    · have h := And.right h c21
      rw [if_pos c21] at hq
      have q9 := hq _ rfl
      dsimp only at q9
      exact q9 h
  · have h := And.left (And.right (And.right (And.right (And.right (And.right (And.right (And.right h))))))) c8
    rw [if_neg (fun e9 => absurd (e9.symm.trans c8) (by decide)), if_neg (fun e9 => absurd (e9.symm.trans c8) (by decide)), if_neg (fun e9 => absurd (e9.symm.trans c8) (by decide)), if_neg (fun e9 => absurd (e9.symm.trans c8) (by decide)), if_neg (fun e9 => absurd (e9.symm.trans c8) (by decide)), if_neg (fun e9 => absurd (e9.symm.trans c8) (by decide)), if_neg (fun e9 => absurd (e9.symm.trans c8) (by decide)), if_pos c8] at hq
    rw [bBX] at hq
    unfold aUI at h ⊢
    rw [aUF] at hq
    unfold aUJ at h ⊢
    refine du_X8_skip h ?_
    intro h
    refine And.intro (fun c23 => ?_) (fun c23 => ?_)
    · have h := And.left h c23
      rw [if_neg c23] at hq
      refine aUE (by decide) h ?_
      intro h
      refine And.intro (fun c24 => ?_) (fun c24 => ?_)
      · have h := And.left h c24
        rw [if_neg c24] at hq
        refine ae ?_
        have h := h _ rfl
        have q9 := hq _ rfl
        dsimp only at q9
        exact q9 h
      · have h := And.right h c24
        rw [if_pos c24] at hq
        have q9 := hq _ rfl
        dsimp only at q9
        exact q9 h
    · have h := And.right h c23
      rw [if_pos c23] at hq
      have q9 := hq _ rfl
      dsimp only at q9
      exact q9 h
  · have h := And.right (And.right (And.right (And.right (And.right (And.right (And.right (And.right h))))))) c1 c2 c3 c4 c5 c6 c7 c8
    rw [if_neg c1, if_neg c2, if_neg c3, if_neg c4, if_neg c5, if_neg c6, if_neg c7, if_neg c8] at hq
    have q9 := hq _ rfl
    dsimp only at q9
    exact q9 h
theorem du_X9_readAct {P Q : Int32 -> Int32 -> Prop} {qJ rX : Int32} {qM : Nat -> Int32} (h : wp_X9_readAct P qJ rX qM) (hq : P (aVT qJ rX qM).1 (aVT qJ rX qM).2 -> Q (aVT qJ rX qM).1 (aVT qJ rX qM).2) : wp_X9_readAct Q qJ rX qM := dt_X9_readAct h (fun o eo => by rw [eo]; exact hq)
theorem dw_X9_readAct {Q : Int32 -> Int32 -> Prop} {qJ rX : Int32} {qM : Nat -> Int32} (h : wp_X9_readAct (fun o0 o1 => (o0, o1) = aVT qJ rX qM -> Q o0 o1) qJ rX qM) : wp_X9_readAct Q qJ rX qM := dt_X9_readAct h (fun o eo hp => hp eo)
noncomputable def fs_X9_readActs_2 {R : Type} (po : Int32 -> (Nat -> Int32) -> Int32 -> R) (rX : Int32) (qM : Nat -> Int32) (nx : Int32 -> (Nat -> Int32) -> Int32 -> R) (x1 : Int32) (wE : Nat -> Int32) (qJ : Int32) : R := if 30 <= x1 then (po (-1) wE qJ) else (if (aVT qJ rX qM).1 = (-1) then (po (-1) wE ((aVT qJ rX qM).2)) else (if (aGm 59 (aVT qJ rX qM).2 rX qM).1 = 0 then (po (x1 + 1) (upd wE x1.toNatClampNeg (aVT qJ rX qM).1) ((aGm 59 (aVT qJ rX qM).2 rX qM).2)) else (nx (x1 + 1) (upd wE x1.toNatClampNeg (aVT qJ rX qM).1) ((aGm 59 (aVT qJ rX qM).2 rX qM).2))))
set_option maxHeartbeats 200000 in
set_option maxRecDepth 10000 in
theorem dl_X9_readActs_2 {P Q : Int32 -> (Nat -> Int32) -> Int32 -> Prop} {rX : Int32} {qM : Nat -> Int32} {R : Type} {po d : Int32 -> (Nat -> Int32) -> Int32 -> R} : ∀ (n m : Nat) (x1 : Int32) (wE : Nat -> Int32) (qJ : Int32), 0 <= Int32.toInt x1 /\ Int32.toInt x1 <= 30 -> 30 - Int32.toInt x1 < (m : Int) -> wb_X9_readActs_2 P rX qM n x1 wE qJ -> (∀ (b0 : Int32) (b1 : Nat -> Int32) (b2 : Int32), po b0 b1 b2 = flp (fs_X9_readActs_2 po rX qM) d m x1 wE qJ -> P b0 b1 b2 -> Q b0 b1 b2) -> wb_X9_readActs_2 Q rX qM n x1 wE qJ := by
  have l1 : Int32.toInt (1 : Int32) = 1 := by decide
  have l30 : Int32.toInt (30 : Int32) = 30 := by decide
  intro n
  induction n with
  | zero => intro m x1 wE qJ hv hm h hq; exact False.elim h
  | succ n ih =>
    intro m x1 wE qJ hv hm h hq
    cases m with
    | zero => exfalso; omega
    | succ m =>
      rw [flp_s, fs_X9_readActs_2] at hq
      have h : ws_X9_readActs_2 P (wb_X9_readActs_2 P rX qM n) rX qM x1 wE qJ := h
      show ws_X9_readActs_2 Q (wb_X9_readActs_2 Q rX qM n) rX qM x1 wE qJ
      unfold ws_X9_readActs_2 at h ⊢
      refine And.intro (fun c1 => ?_) (fun c1 => ?_)
      · have h := And.left h c1
        rw [if_pos c1] at hq
        have dc1 := (aAO _ _).mp c1
        exact hq _ _ _ rfl h
      · have h := And.right h c1
        rw [if_neg c1] at hq
        have dc1 := mt (aAO _ _).mpr c1
        refine du_X9_readAct h ?_
        intro h
        refine And.intro (fun c2 => ?_) (fun c2 => ?_)
        · have h := And.left h c2
          rw [if_neg c2] at hq
          have dc2 := mt (zJ _ _).mpr c2
          refine And.intro (And.left h) ?_
          have h := And.right h
          refine du_X8_take h ?_
          intro h
          refine And.intro (fun c3 => ?_) (fun c3 => ?_)
          · have h := And.left h c3
            rw [if_neg c3] at hq
            have dc3 := mt (zJ _ _).mpr c3
            refine ae ?_
            have h := h _ rfl
            have f9 := aAD x1 1 (by omega)
            exact ih m _ _ _ (by omega) (by omega) h hq
          · have h := And.right h c3
            rw [if_pos c3] at hq
            have dc3 := (zJ _ _).mp c3
            exact hq _ _ _ rfl h
        · have h := And.right h c2
          rw [if_pos c2] at hq
          have dc2 := (zJ _ _).mp c2
          exact hq _ _ _ rfl h
noncomputable def F_X9_readActs (wE : Nat -> Int32) (qJ rX : Int32) (qM : Nat -> Int32) : Int32 × (Nat -> Int32) × Int32 := flp (fs_X9_readActs_2 (fun o0 o1 o2 => (o0, o1, o2)) rX qM) (fun _ _ _ => (0, (fun _ => 0), 0)) 31 0 wE qJ
set_option maxHeartbeats 200000 in
set_option maxRecDepth 10000 in
theorem dt_X9_readActs {P Q : Int32 -> (Nat -> Int32) -> Int32 -> Prop} {wE : Nat -> Int32} {qJ rX : Int32} {qM : Nat -> Int32} (h : wp_X9_readActs P wE qJ rX qM) (hq : ∀ o : Int32 × (Nat -> Int32) × Int32, o = F_X9_readActs wE qJ rX qM -> P o.1 o.2.1 o.2.2 -> Q o.1 o.2.1 o.2.2) : wp_X9_readActs Q wE qJ rX qM := by
  rw [F_X9_readActs] at hq
  obtain ⟨n1, h⟩ := h
  exact ⟨n1, dl_X9_readActs_2 n1 31 _ _ _ (by decide) (by decide) h (fun b0 b1 b2 e9 h9 => hq (b0, b1, b2) e9 h9)⟩
theorem du_X9_readActs {P Q : Int32 -> (Nat -> Int32) -> Int32 -> Prop} {wE : Nat -> Int32} {qJ rX : Int32} {qM : Nat -> Int32} (h : wp_X9_readActs P wE qJ rX qM) (hq : P (F_X9_readActs wE qJ rX qM).1 (F_X9_readActs wE qJ rX qM).2.1 (F_X9_readActs wE qJ rX qM).2.2 -> Q (F_X9_readActs wE qJ rX qM).1 (F_X9_readActs wE qJ rX qM).2.1 (F_X9_readActs wE qJ rX qM).2.2) : wp_X9_readActs Q wE qJ rX qM := dt_X9_readActs h (fun o eo => by rw [eo]; exact hq)
theorem dw_X9_readActs {Q : Int32 -> (Nat -> Int32) -> Int32 -> Prop} {wE : Nat -> Int32} {qJ rX : Int32} {qM : Nat -> Int32} (h : wp_X9_readActs (fun o0 o1 o2 => (o0, o1, o2) = F_X9_readActs wE qJ rX qM -> Q o0 o1 o2) wE qJ rX qM) : wp_X9_readActs Q wE qJ rX qM := dt_X9_readActs h (fun o eo hp => hp eo)
noncomputable def j_X9_day_68 {R : Type} (po : Int32 -> (Nat -> Int32) -> Int32 -> Int32 -> Int32 -> Int32 -> Int32 -> Int32 -> Int32 -> Int32 -> Int32 -> Int32 -> Int32 -> (Nat -> Int32) -> (Nat -> Int32) -> Int32 -> Int32 -> (Nat -> Int32) -> Int32 -> (Nat -> Int32) -> R) (qM : Nat -> Int32) (dN bD : Int32) (uU gF pL qF mX oE dY : Nat -> Int32) (pQ : Int32) (pN : Nat -> Int32) (k0 : Int32) (wE : Nat -> Int32) (qL qJ rX jE eW eY dU fY gJ jG nU : Int32) (qY qU : Nat -> Int32) (pR uM : Int32) (tD : Nat -> Int32) (qB : Int32) (jK : Nat -> Int32) : R := po k0 wE (F_X8_clear qL) qJ rX jE eW eY dU fY gJ jG nU qY qU pR uM tD qB jK
noncomputable def j_X9_day_48 {R : Type} (po : Int32 -> (Nat -> Int32) -> Int32 -> Int32 -> Int32 -> Int32 -> Int32 -> Int32 -> Int32 -> Int32 -> Int32 -> Int32 -> Int32 -> (Nat -> Int32) -> (Nat -> Int32) -> Int32 -> Int32 -> (Nat -> Int32) -> Int32 -> (Nat -> Int32) -> R) (qM : Nat -> Int32) (dN bD : Int32) (uU gF pL qF mX oE dY : Nat -> Int32) (pQ : Int32) (pN : Nat -> Int32) (x1 k0 : Int32) (wE : Nat -> Int32) (qL qJ rX jE eW eY dU fY gJ jG nU : Int32) (qY qU : Nat -> Int32) (pR uM : Int32) (tD : Nat -> Int32) (qB : Int32) (jK : Nat -> Int32) : R := if k0 = 0 then (j_X9_day_68 po qM dN bD uU gF pL qF mX oE dY pQ pN (F_X8_wrong qJ) wE qL qJ rX jE eW eY dU fY gJ jG nU qY qU pR uM tD qB jK) else (j_X9_day_68 po qM dN bD uU gF pL qF mX oE dY pQ pN ((aHg x1 wE dN bD uU gF pL qF mX oE dY jE eW eY dU fY gJ jG nU pQ qY qU pN pR uM tD qB jK).1) wE qL qJ rX ((aHg x1 wE dN bD uU gF pL qF mX oE dY jE eW eY dU fY gJ jG nU pQ qY qU pN pR uM tD qB jK).2.1) ((aHg x1 wE dN bD uU gF pL qF mX oE dY jE eW eY dU fY gJ jG nU pQ qY qU pN pR uM tD qB jK).2.2.1) ((aHg x1 wE dN bD uU gF pL qF mX oE dY jE eW eY dU fY gJ jG nU pQ qY qU pN pR uM tD qB jK).2.2.2.1) ((aHg x1 wE dN bD uU gF pL qF mX oE dY jE eW eY dU fY gJ jG nU pQ qY qU pN pR uM tD qB jK).2.2.2.2.1) ((aHg x1 wE dN bD uU gF pL qF mX oE dY jE eW eY dU fY gJ jG nU pQ qY qU pN pR uM tD qB jK).2.2.2.2.2.1) ((aHg x1 wE dN bD uU gF pL qF mX oE dY jE eW eY dU fY gJ jG nU pQ qY qU pN pR uM tD qB jK).2.2.2.2.2.2.1) ((aHg x1 wE dN bD uU gF pL qF mX oE dY jE eW eY dU fY gJ jG nU pQ qY qU pN pR uM tD qB jK).2.2.2.2.2.2.2.1) ((aHg x1 wE dN bD uU gF pL qF mX oE dY jE eW eY dU fY gJ jG nU pQ qY qU pN pR uM tD qB jK).2.2.2.2.2.2.2.2.1) ((aHg x1 wE dN bD uU gF pL qF mX oE dY jE eW eY dU fY gJ jG nU pQ qY qU pN pR uM tD qB jK).2.2.2.2.2.2.2.2.2.1) ((aHg x1 wE dN bD uU gF pL qF mX oE dY jE eW eY dU fY gJ jG nU pQ qY qU pN pR uM tD qB jK).2.2.2.2.2.2.2.2.2.2.1) ((aHg x1 wE dN bD uU gF pL qF mX oE dY jE eW eY dU fY gJ jG nU pQ qY qU pN pR uM tD qB jK).2.2.2.2.2.2.2.2.2.2.2.1) ((aHg x1 wE dN bD uU gF pL qF mX oE dY jE eW eY dU fY gJ jG nU pQ qY qU pN pR uM tD qB jK).2.2.2.2.2.2.2.2.2.2.2.2.1) ((aHg x1 wE dN bD uU gF pL qF mX oE dY jE eW eY dU fY gJ jG nU pQ qY qU pN pR uM tD qB jK).2.2.2.2.2.2.2.2.2.2.2.2.2.1) ((aHg x1 wE dN bD uU gF pL qF mX oE dY jE eW eY dU fY gJ jG nU pQ qY qU pN pR uM tD qB jK).2.2.2.2.2.2.2.2.2.2.2.2.2.2.1) ((aHg x1 wE dN bD uU gF pL qF mX oE dY jE eW eY dU fY gJ jG nU pQ qY qU pN pR uM tD qB jK).2.2.2.2.2.2.2.2.2.2.2.2.2.2.2))
noncomputable def j_X9_day_47 {R : Type} (po : Int32 -> (Nat -> Int32) -> Int32 -> Int32 -> Int32 -> Int32 -> Int32 -> Int32 -> Int32 -> Int32 -> Int32 -> Int32 -> Int32 -> (Nat -> Int32) -> (Nat -> Int32) -> Int32 -> Int32 -> (Nat -> Int32) -> Int32 -> (Nat -> Int32) -> R) (qM : Nat -> Int32) (dN bD : Int32) (uU gF pL qF mX oE dY : Nat -> Int32) (pQ : Int32) (pN : Nat -> Int32) (x1 : Int32) (wE : Nat -> Int32) (qL qJ rX jE eW eY dU fY gJ jG nU : Int32) (qY qU : Nat -> Int32) (pR uM : Int32) (tD : Nat -> Int32) (qB : Int32) (jK : Nat -> Int32) : R := j_X9_day_48 po qM dN bD uU gF pL qF mX oE dY pQ pN x1 0 wE qL qJ rX jE eW eY dU fY gJ jG nU qY qU pR uM tD qB jK
noncomputable def j_X9_day_27 {R : Type} (po : Int32 -> (Nat -> Int32) -> Int32 -> Int32 -> Int32 -> Int32 -> Int32 -> Int32 -> Int32 -> Int32 -> Int32 -> Int32 -> Int32 -> (Nat -> Int32) -> (Nat -> Int32) -> Int32 -> Int32 -> (Nat -> Int32) -> Int32 -> (Nat -> Int32) -> R) (qM : Nat -> Int32) (dN bD : Int32) (uU gF pL qF mX oE dY : Nat -> Int32) (pQ : Int32) (pN : Nat -> Int32) (k0 : Int32) (wE : Nat -> Int32) (qL qJ rX jE eW eY dU fY gJ jG nU : Int32) (qY qU : Nat -> Int32) (pR uM : Int32) (tD : Nat -> Int32) (qB : Int32) (jK : Nat -> Int32) : R := if k0 = (-1) then (j_X9_day_47 po qM dN bD uU gF pL qF mX oE dY pQ pN k0 wE qL qJ rX jE eW eY dU fY gJ jG nU qY qU pR uM tD qB jK) else (if (F_X8_isThrough qL qJ) = 0 then (j_X9_day_47 po qM dN bD uU gF pL qF mX oE dY pQ pN k0 wE qL qJ rX jE eW eY dU fY gJ jG nU qY qU pR uM tD qB jK) else (j_X9_day_48 po qM dN bD uU gF pL qF mX oE dY pQ pN k0 1 wE qL qJ rX jE eW eY dU fY gJ jG nU qY qU pR uM tD qB jK))
noncomputable def aM7 (wE : Nat -> Int32) (qL qJ rX : Int32) (qM : Nat -> Int32) (dN bD : Int32) (uU gF pL qF mX oE dY : Nat -> Int32) (jE eW eY dU fY gJ jG nU pQ : Int32) (qY qU pN : Nat -> Int32) (pR uM : Int32) (tD : Nat -> Int32) (qB : Int32) (jK : Nat -> Int32) : Int32 × (Nat -> Int32) × Int32 × Int32 × Int32 × Int32 × Int32 × Int32 × Int32 × Int32 × Int32 × Int32 × Int32 × (Nat -> Int32) × (Nat -> Int32) × Int32 × Int32 × (Nat -> Int32) × Int32 × (Nat -> Int32) := if qL = 0 then (j_X9_day_27 (fun o0 o1 o2 o3 o4 o5 o6 o7 o8 o9 o10 o11 o12 o13 o14 o15 o16 o17 o18 o19 => (o0, o1, o2, o3, o4, o5, o6, o7, o8, o9, o10, o11, o12, o13, o14, o15, o16, o17, o18, o19)) qM dN bD uU gF pL qF mX oE dY pQ pN 0 wE qL ((aJ0 60 qL qJ rX).1) ((aJ0 60 qL qJ rX).2) jE eW eY dU fY gJ jG nU qY qU pR uM tD qB jK) else (j_X9_day_27 (fun o0 o1 o2 o3 o4 o5 o6 o7 o8 o9 o10 o11 o12 o13 o14 o15 o16 o17 o18 o19 => (o0, o1, o2, o3, o4, o5, o6, o7, o8, o9, o10, o11, o12, o13, o14, o15, o16, o17, o18, o19)) qM dN bD uU gF pL qF mX oE dY pQ pN ((F_X9_readActs wE (aJ0 60 qL qJ rX).1 (aJ0 60 qL qJ rX).2 qM).1) ((F_X9_readActs wE (aJ0 60 qL qJ rX).1 (aJ0 60 qL qJ rX).2 qM).2.1) qL ((F_X9_readActs wE (aJ0 60 qL qJ rX).1 (aJ0 60 qL qJ rX).2 qM).2.2) ((aJ0 60 qL qJ rX).2) jE eW eY dU fY gJ jG nU qY qU pR uM tD qB jK)
set_option maxHeartbeats 200000 in
set_option maxRecDepth 10000 in
theorem dt_X9_day {P Q : Int32 -> (Nat -> Int32) -> Int32 -> Int32 -> Int32 -> Int32 -> Int32 -> Int32 -> Int32 -> Int32 -> Int32 -> Int32 -> Int32 -> (Nat -> Int32) -> (Nat -> Int32) -> Int32 -> Int32 -> (Nat -> Int32) -> Int32 -> (Nat -> Int32) -> Prop} {wE : Nat -> Int32} {qL qJ rX : Int32} {qM : Nat -> Int32} {dN bD : Int32} {uU gF pL qF mX oE dY : Nat -> Int32} {jE eW eY dU fY gJ jG nU pQ : Int32} {qY qU pN : Nat -> Int32} {pR uM : Int32} {tD : Nat -> Int32} {qB : Int32} {jK : Nat -> Int32} (h : wp_X9_day P wE qL qJ rX qM dN bD uU gF pL qF mX oE dY jE eW eY dU fY gJ jG nU pQ qY qU pN pR uM tD qB jK) (hq : ∀ o : Int32 × (Nat -> Int32) × Int32 × Int32 × Int32 × Int32 × Int32 × Int32 × Int32 × Int32 × Int32 × Int32 × Int32 × (Nat -> Int32) × (Nat -> Int32) × Int32 × Int32 × (Nat -> Int32) × Int32 × (Nat -> Int32), o = aM7 wE qL qJ rX qM dN bD uU gF pL qF mX oE dY jE eW eY dU fY gJ jG nU pQ qY qU pN pR uM tD qB jK -> P o.1 o.2.1 o.2.2.1 o.2.2.2.1 o.2.2.2.2.1 o.2.2.2.2.2.1 o.2.2.2.2.2.2.1 o.2.2.2.2.2.2.2.1 o.2.2.2.2.2.2.2.2.1 o.2.2.2.2.2.2.2.2.2.1 o.2.2.2.2.2.2.2.2.2.2.1 o.2.2.2.2.2.2.2.2.2.2.2.1 o.2.2.2.2.2.2.2.2.2.2.2.2.1 o.2.2.2.2.2.2.2.2.2.2.2.2.2.1 o.2.2.2.2.2.2.2.2.2.2.2.2.2.2.1 o.2.2.2.2.2.2.2.2.2.2.2.2.2.2.2.1 o.2.2.2.2.2.2.2.2.2.2.2.2.2.2.2.2.1 o.2.2.2.2.2.2.2.2.2.2.2.2.2.2.2.2.2.1 o.2.2.2.2.2.2.2.2.2.2.2.2.2.2.2.2.2.2.1 o.2.2.2.2.2.2.2.2.2.2.2.2.2.2.2.2.2.2.2 -> Q o.1 o.2.1 o.2.2.1 o.2.2.2.1 o.2.2.2.2.1 o.2.2.2.2.2.1 o.2.2.2.2.2.2.1 o.2.2.2.2.2.2.2.1 o.2.2.2.2.2.2.2.2.1 o.2.2.2.2.2.2.2.2.2.1 o.2.2.2.2.2.2.2.2.2.2.1 o.2.2.2.2.2.2.2.2.2.2.2.1 o.2.2.2.2.2.2.2.2.2.2.2.2.1 o.2.2.2.2.2.2.2.2.2.2.2.2.2.1 o.2.2.2.2.2.2.2.2.2.2.2.2.2.2.1 o.2.2.2.2.2.2.2.2.2.2.2.2.2.2.2.1 o.2.2.2.2.2.2.2.2.2.2.2.2.2.2.2.2.1 o.2.2.2.2.2.2.2.2.2.2.2.2.2.2.2.2.2.1 o.2.2.2.2.2.2.2.2.2.2.2.2.2.2.2.2.2.2.1 o.2.2.2.2.2.2.2.2.2.2.2.2.2.2.2.2.2.2.2) : wp_X9_day Q wE qL qJ rX qM dN bD uU gF pL qF mX oE dY jE eW eY dU fY gJ jG nU pQ qY qU pN pR uM tD qB jK := by
  rw [aM7] at hq
  refine du_X8_open h ?_
  intro h
  refine And.intro (fun c1 => ?_) (fun c1 => ?_)
  · have h := And.left h c1
    rw [if_neg c1] at hq
    refine du_X9_readActs h ?_
    intro h
    rw [j_X9_day_27] at hq
    unfold ws_X9_day_27 at h ⊢
    refine And.intro (fun c2 => ?_) (fun c2 => ?_)
    · have h := And.left h c2
      rw [if_pos c2] at hq
      rw [j_X9_day_47] at hq
      unfold ws_X9_day_47 at h ⊢
      rw [j_X9_day_48] at hq
      unfold ws_X9_day_48 at h ⊢
      refine And.intro (fun c3 => ?_) (fun c3 => ?_)
      · have h := And.left h c3
        rw [if_pos c3] at hq
        refine du_X8_wrong h ?_
        intro h
        rw [j_X9_day_68] at hq
        unfold ws_X9_day_68 at h ⊢
        refine aFm h ?_
        intro h
        have q9 := hq _ rfl
        dsimp only at q9
        exact q9 h
      · have h := And.right h c3
        rw [if_neg c3] at hq
        refine du_X9_doActs h ?_
        intro h
        rw [j_X9_day_68] at hq
        unfold ws_X9_day_68 at h ⊢
        refine aFm h ?_
        intro h
        have q9 := hq _ rfl
        dsimp only at q9
        exact q9 h
    · have h := And.right h c2
      rw [if_neg c2] at hq
      refine du_X8_isThrough h ?_
      intro h
      refine And.intro (fun c4 => ?_) (fun c4 => ?_)
      · have h := And.left h c4
        rw [if_pos c4] at hq
        rw [j_X9_day_47] at hq
        unfold ws_X9_day_47 at h ⊢
        rw [j_X9_day_48] at hq
        unfold ws_X9_day_48 at h ⊢
        refine And.intro (fun c5 => ?_) (fun c5 => ?_)
        · have h := And.left h c5
          rw [if_pos c5] at hq
          refine du_X8_wrong h ?_
          intro h
          rw [j_X9_day_68] at hq
          unfold ws_X9_day_68 at h ⊢
          refine aFm h ?_
          intro h
          have q9 := hq _ rfl
          dsimp only at q9
          exact q9 h
        · have h := And.right h c5
          rw [if_neg c5] at hq
          refine du_X9_doActs h ?_
          intro h
          rw [j_X9_day_68] at hq
          unfold ws_X9_day_68 at h ⊢
          refine aFm h ?_
          intro h
          have q9 := hq _ rfl
          dsimp only at q9
          exact q9 h
      · have h := And.right h c4
        rw [if_neg c4] at hq
        rw [j_X9_day_48] at hq
        unfold ws_X9_day_48 at h ⊢
        refine And.intro (fun c6 => ?_) (fun c6 => ?_)
        · have h := And.left h c6
          rw [if_pos c6] at hq
          refine du_X8_wrong h ?_
          intro h
          rw [j_X9_day_68] at hq
          unfold ws_X9_day_68 at h ⊢
          refine aFm h ?_
          intro h
          have q9 := hq _ rfl
          dsimp only at q9
          exact q9 h
        · have h := And.right h c6
          rw [if_neg c6] at hq
          refine du_X9_doActs h ?_
          intro h
          rw [j_X9_day_68] at hq
          unfold ws_X9_day_68 at h ⊢
          refine aFm h ?_
          intro h
          have q9 := hq _ rfl
          dsimp only at q9
          exact q9 h
  · have h := And.right h c1
    rw [if_pos c1] at hq
    rw [j_X9_day_27] at hq
    unfold ws_X9_day_27 at h ⊢
    refine And.intro (fun c7 => ?_) (fun c7 => ?_)
    · have h := And.left h c7
      rw [if_pos c7] at hq
      rw [j_X9_day_47] at hq
      unfold ws_X9_day_47 at h ⊢
      rw [j_X9_day_48] at hq
      unfold ws_X9_day_48 at h ⊢
      refine And.intro (fun c8 => ?_) (fun c8 => ?_)
      · have h := And.left h c8
        rw [if_pos c8] at hq
        refine du_X8_wrong h ?_
        intro h
        rw [j_X9_day_68] at hq
        unfold ws_X9_day_68 at h ⊢
        refine aFm h ?_
        intro h
        have q9 := hq _ rfl
        dsimp only at q9
        exact q9 h
      · have h := And.right h c8
        rw [if_neg c8] at hq
        refine du_X9_doActs h ?_
        intro h
        rw [j_X9_day_68] at hq
        unfold ws_X9_day_68 at h ⊢
        refine aFm h ?_
        intro h
        have q9 := hq _ rfl
        dsimp only at q9
        exact q9 h
    · have h := And.right h c7
      rw [if_neg c7] at hq
      refine du_X8_isThrough h ?_
      intro h
      refine And.intro (fun c9 => ?_) (fun c9 => ?_)
      · have h := And.left h c9
        rw [if_pos c9] at hq
        rw [j_X9_day_47] at hq
        unfold ws_X9_day_47 at h ⊢
        rw [j_X9_day_48] at hq
        unfold ws_X9_day_48 at h ⊢
        refine And.intro (fun c10 => ?_) (fun c10 => ?_)
        · have h := And.left h c10
          rw [if_pos c10] at hq
          refine du_X8_wrong h ?_
          intro h
          rw [j_X9_day_68] at hq
          unfold ws_X9_day_68 at h ⊢
          refine aFm h ?_
          intro h
          have q9 := hq _ rfl
          dsimp only at q9
          exact q9 h
        · have h := And.right h c10
          rw [if_neg c10] at hq
          refine du_X9_doActs h ?_
          intro h
          rw [j_X9_day_68] at hq
          unfold ws_X9_day_68 at h ⊢
          refine aFm h ?_
          intro h
          have q9 := hq _ rfl
          dsimp only at q9
          exact q9 h
      · have h := And.right h c9
        rw [if_neg c9] at hq
        rw [j_X9_day_48] at hq
        unfold ws_X9_day_48 at h ⊢
        refine And.intro (fun c11 => ?_) (fun c11 => ?_)
        · have h := And.left h c11
          rw [if_pos c11] at hq
          refine du_X8_wrong h ?_
          intro h
          rw [j_X9_day_68] at hq
          unfold ws_X9_day_68 at h ⊢
          refine aFm h ?_
          intro h
          have q9 := hq _ rfl
          dsimp only at q9
          exact q9 h
        · have h := And.right h c11
          rw [if_neg c11] at hq
          refine du_X9_doActs h ?_
          intro h
          rw [j_X9_day_68] at hq
          unfold ws_X9_day_68 at h ⊢
          refine aFm h ?_
          intro h
          have q9 := hq _ rfl
          dsimp only at q9
          exact q9 h
theorem du_X9_day {P Q : Int32 -> (Nat -> Int32) -> Int32 -> Int32 -> Int32 -> Int32 -> Int32 -> Int32 -> Int32 -> Int32 -> Int32 -> Int32 -> Int32 -> (Nat -> Int32) -> (Nat -> Int32) -> Int32 -> Int32 -> (Nat -> Int32) -> Int32 -> (Nat -> Int32) -> Prop} {wE : Nat -> Int32} {qL qJ rX : Int32} {qM : Nat -> Int32} {dN bD : Int32} {uU gF pL qF mX oE dY : Nat -> Int32} {jE eW eY dU fY gJ jG nU pQ : Int32} {qY qU pN : Nat -> Int32} {pR uM : Int32} {tD : Nat -> Int32} {qB : Int32} {jK : Nat -> Int32} (h : wp_X9_day P wE qL qJ rX qM dN bD uU gF pL qF mX oE dY jE eW eY dU fY gJ jG nU pQ qY qU pN pR uM tD qB jK) (hq : P (aM7 wE qL qJ rX qM dN bD uU gF pL qF mX oE dY jE eW eY dU fY gJ jG nU pQ qY qU pN pR uM tD qB jK).1 (aM7 wE qL qJ rX qM dN bD uU gF pL qF mX oE dY jE eW eY dU fY gJ jG nU pQ qY qU pN pR uM tD qB jK).2.1 (aM7 wE qL qJ rX qM dN bD uU gF pL qF mX oE dY jE eW eY dU fY gJ jG nU pQ qY qU pN pR uM tD qB jK).2.2.1 (aM7 wE qL qJ rX qM dN bD uU gF pL qF mX oE dY jE eW eY dU fY gJ jG nU pQ qY qU pN pR uM tD qB jK).2.2.2.1 (aM7 wE qL qJ rX qM dN bD uU gF pL qF mX oE dY jE eW eY dU fY gJ jG nU pQ qY qU pN pR uM tD qB jK).2.2.2.2.1 (aM7 wE qL qJ rX qM dN bD uU gF pL qF mX oE dY jE eW eY dU fY gJ jG nU pQ qY qU pN pR uM tD qB jK).2.2.2.2.2.1 (aM7 wE qL qJ rX qM dN bD uU gF pL qF mX oE dY jE eW eY dU fY gJ jG nU pQ qY qU pN pR uM tD qB jK).2.2.2.2.2.2.1 (aM7 wE qL qJ rX qM dN bD uU gF pL qF mX oE dY jE eW eY dU fY gJ jG nU pQ qY qU pN pR uM tD qB jK).2.2.2.2.2.2.2.1 (aM7 wE qL qJ rX qM dN bD uU gF pL qF mX oE dY jE eW eY dU fY gJ jG nU pQ qY qU pN pR uM tD qB jK).2.2.2.2.2.2.2.2.1 (aM7 wE qL qJ rX qM dN bD uU gF pL qF mX oE dY jE eW eY dU fY gJ jG nU pQ qY qU pN pR uM tD qB jK).2.2.2.2.2.2.2.2.2.1 (aM7 wE qL qJ rX qM dN bD uU gF pL qF mX oE dY jE eW eY dU fY gJ jG nU pQ qY qU pN pR uM tD qB jK).2.2.2.2.2.2.2.2.2.2.1 (aM7 wE qL qJ rX qM dN bD uU gF pL qF mX oE dY jE eW eY dU fY gJ jG nU pQ qY qU pN pR uM tD qB jK).2.2.2.2.2.2.2.2.2.2.2.1 (aM7 wE qL qJ rX qM dN bD uU gF pL qF mX oE dY jE eW eY dU fY gJ jG nU pQ qY qU pN pR uM tD qB jK).2.2.2.2.2.2.2.2.2.2.2.2.1 (aM7 wE qL qJ rX qM dN bD uU gF pL qF mX oE dY jE eW eY dU fY gJ jG nU pQ qY qU pN pR uM tD qB jK).2.2.2.2.2.2.2.2.2.2.2.2.2.1 (aM7 wE qL qJ rX qM dN bD uU gF pL qF mX oE dY jE eW eY dU fY gJ jG nU pQ qY qU pN pR uM tD qB jK).2.2.2.2.2.2.2.2.2.2.2.2.2.2.1 (aM7 wE qL qJ rX qM dN bD uU gF pL qF mX oE dY jE eW eY dU fY gJ jG nU pQ qY qU pN pR uM tD qB jK).2.2.2.2.2.2.2.2.2.2.2.2.2.2.2.1 (aM7 wE qL qJ rX qM dN bD uU gF pL qF mX oE dY jE eW eY dU fY gJ jG nU pQ qY qU pN pR uM tD qB jK).2.2.2.2.2.2.2.2.2.2.2.2.2.2.2.2.1 (aM7 wE qL qJ rX qM dN bD uU gF pL qF mX oE dY jE eW eY dU fY gJ jG nU pQ qY qU pN pR uM tD qB jK).2.2.2.2.2.2.2.2.2.2.2.2.2.2.2.2.2.1 (aM7 wE qL qJ rX qM dN bD uU gF pL qF mX oE dY jE eW eY dU fY gJ jG nU pQ qY qU pN pR uM tD qB jK).2.2.2.2.2.2.2.2.2.2.2.2.2.2.2.2.2.2.1 (aM7 wE qL qJ rX qM dN bD uU gF pL qF mX oE dY jE eW eY dU fY gJ jG nU pQ qY qU pN pR uM tD qB jK).2.2.2.2.2.2.2.2.2.2.2.2.2.2.2.2.2.2.2 -> Q (aM7 wE qL qJ rX qM dN bD uU gF pL qF mX oE dY jE eW eY dU fY gJ jG nU pQ qY qU pN pR uM tD qB jK).1 (aM7 wE qL qJ rX qM dN bD uU gF pL qF mX oE dY jE eW eY dU fY gJ jG nU pQ qY qU pN pR uM tD qB jK).2.1 (aM7 wE qL qJ rX qM dN bD uU gF pL qF mX oE dY jE eW eY dU fY gJ jG nU pQ qY qU pN pR uM tD qB jK).2.2.1 (aM7 wE qL qJ rX qM dN bD uU gF pL qF mX oE dY jE eW eY dU fY gJ jG nU pQ qY qU pN pR uM tD qB jK).2.2.2.1 (aM7 wE qL qJ rX qM dN bD uU gF pL qF mX oE dY jE eW eY dU fY gJ jG nU pQ qY qU pN pR uM tD qB jK).2.2.2.2.1 (aM7 wE qL qJ rX qM dN bD uU gF pL qF mX oE dY jE eW eY dU fY gJ jG nU pQ qY qU pN pR uM tD qB jK).2.2.2.2.2.1 (aM7 wE qL qJ rX qM dN bD uU gF pL qF mX oE dY jE eW eY dU fY gJ jG nU pQ qY qU pN pR uM tD qB jK).2.2.2.2.2.2.1 (aM7 wE qL qJ rX qM dN bD uU gF pL qF mX oE dY jE eW eY dU fY gJ jG nU pQ qY qU pN pR uM tD qB jK).2.2.2.2.2.2.2.1 (aM7 wE qL qJ rX qM dN bD uU gF pL qF mX oE dY jE eW eY dU fY gJ jG nU pQ qY qU pN pR uM tD qB jK).2.2.2.2.2.2.2.2.1 (aM7 wE qL qJ rX qM dN bD uU gF pL qF mX oE dY jE eW eY dU fY gJ jG nU pQ qY qU pN pR uM tD qB jK).2.2.2.2.2.2.2.2.2.1 (aM7 wE qL qJ rX qM dN bD uU gF pL qF mX oE dY jE eW eY dU fY gJ jG nU pQ qY qU pN pR uM tD qB jK).2.2.2.2.2.2.2.2.2.2.1 (aM7 wE qL qJ rX qM dN bD uU gF pL qF mX oE dY jE eW eY dU fY gJ jG nU pQ qY qU pN pR uM tD qB jK).2.2.2.2.2.2.2.2.2.2.2.1 (aM7 wE qL qJ rX qM dN bD uU gF pL qF mX oE dY jE eW eY dU fY gJ jG nU pQ qY qU pN pR uM tD qB jK).2.2.2.2.2.2.2.2.2.2.2.2.1 (aM7 wE qL qJ rX qM dN bD uU gF pL qF mX oE dY jE eW eY dU fY gJ jG nU pQ qY qU pN pR uM tD qB jK).2.2.2.2.2.2.2.2.2.2.2.2.2.1 (aM7 wE qL qJ rX qM dN bD uU gF pL qF mX oE dY jE eW eY dU fY gJ jG nU pQ qY qU pN pR uM tD qB jK).2.2.2.2.2.2.2.2.2.2.2.2.2.2.1 (aM7 wE qL qJ rX qM dN bD uU gF pL qF mX oE dY jE eW eY dU fY gJ jG nU pQ qY qU pN pR uM tD qB jK).2.2.2.2.2.2.2.2.2.2.2.2.2.2.2.1 (aM7 wE qL qJ rX qM dN bD uU gF pL qF mX oE dY jE eW eY dU fY gJ jG nU pQ qY qU pN pR uM tD qB jK).2.2.2.2.2.2.2.2.2.2.2.2.2.2.2.2.1 (aM7 wE qL qJ rX qM dN bD uU gF pL qF mX oE dY jE eW eY dU fY gJ jG nU pQ qY qU pN pR uM tD qB jK).2.2.2.2.2.2.2.2.2.2.2.2.2.2.2.2.2.1 (aM7 wE qL qJ rX qM dN bD uU gF pL qF mX oE dY jE eW eY dU fY gJ jG nU pQ qY qU pN pR uM tD qB jK).2.2.2.2.2.2.2.2.2.2.2.2.2.2.2.2.2.2.1 (aM7 wE qL qJ rX qM dN bD uU gF pL qF mX oE dY jE eW eY dU fY gJ jG nU pQ qY qU pN pR uM tD qB jK).2.2.2.2.2.2.2.2.2.2.2.2.2.2.2.2.2.2.2) : wp_X9_day Q wE qL qJ rX qM dN bD uU gF pL qF mX oE dY jE eW eY dU fY gJ jG nU pQ qY qU pN pR uM tD qB jK := dt_X9_day h (fun o eo => by rw [eo]; exact hq)
theorem dw_X9_day {Q : Int32 -> (Nat -> Int32) -> Int32 -> Int32 -> Int32 -> Int32 -> Int32 -> Int32 -> Int32 -> Int32 -> Int32 -> Int32 -> Int32 -> (Nat -> Int32) -> (Nat -> Int32) -> Int32 -> Int32 -> (Nat -> Int32) -> Int32 -> (Nat -> Int32) -> Prop} {wE : Nat -> Int32} {qL qJ rX : Int32} {qM : Nat -> Int32} {dN bD : Int32} {uU gF pL qF mX oE dY : Nat -> Int32} {jE eW eY dU fY gJ jG nU pQ : Int32} {qY qU pN : Nat -> Int32} {pR uM : Int32} {tD : Nat -> Int32} {qB : Int32} {jK : Nat -> Int32} (h : wp_X9_day (fun o0 o1 o2 o3 o4 o5 o6 o7 o8 o9 o10 o11 o12 o13 o14 o15 o16 o17 o18 o19 => (o0, o1, o2, o3, o4, o5, o6, o7, o8, o9, o10, o11, o12, o13, o14, o15, o16, o17, o18, o19) = aM7 wE qL qJ rX qM dN bD uU gF pL qF mX oE dY jE eW eY dU fY gJ jG nU pQ qY qU pN pR uM tD qB jK -> Q o0 o1 o2 o3 o4 o5 o6 o7 o8 o9 o10 o11 o12 o13 o14 o15 o16 o17 o18 o19) wE qL qJ rX qM dN bD uU gF pL qF mX oE dY jE eW eY dU fY gJ jG nU pQ qY qU pN pR uM tD qB jK) : wp_X9_day Q wE qL qJ rX qM dN bD uU gF pL qF mX oE dY jE eW eY dU fY gJ jG nU pQ qY qU pN pR uM tD qB jK := dt_X9_day h (fun o eo hp => hp eo)
noncomputable def F_X2_read (p1 jE eW eY dU fY gJ jG nU : Int32) (tD : Nat -> Int32) : Int32 × Int32 × Int32 × Int32 × Int32 × Int32 × Int32 × Int32 := if p1 < 0 then (jE, eW, eY, dU, fY, gJ, jG, nU) else (if p1 <= (104 - 8) then ((tD p1.toNatClampNeg), (tD (p1 + 1).toNatClampNeg), (tD (p1 + 2).toNatClampNeg), (tD (p1 + 3).toNatClampNeg), (tD (p1 + 4).toNatClampNeg), (tD (p1 + 5).toNatClampNeg), (tD (p1 + 6).toNatClampNeg), (tD (p1 + 7).toNatClampNeg)) else (jE, eW, eY, dU, fY, gJ, jG, nU))
set_option maxHeartbeats 200000 in
set_option maxRecDepth 10000 in
theorem dt_X2_read {P Q : Int32 -> Int32 -> Int32 -> Int32 -> Int32 -> Int32 -> Int32 -> Int32 -> Prop} {p1 jE eW eY dU fY gJ jG nU : Int32} {tD : Nat -> Int32} (h : wp_X2_read P p1 jE eW eY dU fY gJ jG nU tD) (hq : ∀ o : Int32 × Int32 × Int32 × Int32 × Int32 × Int32 × Int32 × Int32, o = F_X2_read p1 jE eW eY dU fY gJ jG nU tD -> P o.1 o.2.1 o.2.2.1 o.2.2.2.1 o.2.2.2.2.1 o.2.2.2.2.2.1 o.2.2.2.2.2.2.1 o.2.2.2.2.2.2.2 -> Q o.1 o.2.1 o.2.2.1 o.2.2.2.1 o.2.2.2.2.1 o.2.2.2.2.2.1 o.2.2.2.2.2.2.1 o.2.2.2.2.2.2.2) : wp_X2_read Q p1 jE eW eY dU fY gJ jG nU tD := by
  rw [F_X2_read] at hq
  refine And.intro (fun c1 => ?_) (fun c1 => ?_)
  · have h := And.left h c1
    rw [if_pos c1] at hq
    have q9 := hq _ rfl
    dsimp only at q9
    exact q9 h
  · have h := And.right h c1
    rw [if_neg c1] at hq
    refine And.intro (fun c2 => ?_) (fun c2 => ?_)
    · have h := And.left h c2
      rw [if_pos c2] at hq
      refine And.intro (And.left h) ?_
      have h := And.right h
      refine ae ?_
      have h := h _ rfl
      refine ae ?_
      have h := h _ rfl
      refine And.intro (And.left h) ?_
      have h := And.right h
      refine ae ?_
      have h := h _ rfl
      refine ae ?_
      have h := h _ rfl
      refine And.intro (And.left h) ?_
      have h := And.right h
      refine ae ?_
      have h := h _ rfl
      refine ae ?_
      have h := h _ rfl
      refine And.intro (And.left h) ?_
      have h := And.right h
      refine ae ?_
      have h := h _ rfl
      refine ae ?_
      have h := h _ rfl
      refine And.intro (And.left h) ?_
      have h := And.right h
      refine ae ?_
      have h := h _ rfl
      refine ae ?_
      have h := h _ rfl
      refine And.intro (And.left h) ?_
      have h := And.right h
      refine ae ?_
      have h := h _ rfl
      refine ae ?_
      have h := h _ rfl
      refine And.intro (And.left h) ?_
      have h := And.right h
      refine ae ?_
      have h := h _ rfl
      refine ae ?_
      have h := h _ rfl
      refine And.intro (And.left h) ?_
      have h := And.right h
      refine ae ?_
      have h := h _ rfl
      have q9 := hq _ rfl
      dsimp only at q9
      exact q9 h
    · have h := And.right h c2
      rw [if_neg c2] at hq
      have q9 := hq _ rfl
      dsimp only at q9
      exact q9 h
theorem du_X2_read {P Q : Int32 -> Int32 -> Int32 -> Int32 -> Int32 -> Int32 -> Int32 -> Int32 -> Prop} {p1 jE eW eY dU fY gJ jG nU : Int32} {tD : Nat -> Int32} (h : wp_X2_read P p1 jE eW eY dU fY gJ jG nU tD) (hq : P (F_X2_read p1 jE eW eY dU fY gJ jG nU tD).1 (F_X2_read p1 jE eW eY dU fY gJ jG nU tD).2.1 (F_X2_read p1 jE eW eY dU fY gJ jG nU tD).2.2.1 (F_X2_read p1 jE eW eY dU fY gJ jG nU tD).2.2.2.1 (F_X2_read p1 jE eW eY dU fY gJ jG nU tD).2.2.2.2.1 (F_X2_read p1 jE eW eY dU fY gJ jG nU tD).2.2.2.2.2.1 (F_X2_read p1 jE eW eY dU fY gJ jG nU tD).2.2.2.2.2.2.1 (F_X2_read p1 jE eW eY dU fY gJ jG nU tD).2.2.2.2.2.2.2 -> Q (F_X2_read p1 jE eW eY dU fY gJ jG nU tD).1 (F_X2_read p1 jE eW eY dU fY gJ jG nU tD).2.1 (F_X2_read p1 jE eW eY dU fY gJ jG nU tD).2.2.1 (F_X2_read p1 jE eW eY dU fY gJ jG nU tD).2.2.2.1 (F_X2_read p1 jE eW eY dU fY gJ jG nU tD).2.2.2.2.1 (F_X2_read p1 jE eW eY dU fY gJ jG nU tD).2.2.2.2.2.1 (F_X2_read p1 jE eW eY dU fY gJ jG nU tD).2.2.2.2.2.2.1 (F_X2_read p1 jE eW eY dU fY gJ jG nU tD).2.2.2.2.2.2.2) : wp_X2_read Q p1 jE eW eY dU fY gJ jG nU tD := dt_X2_read h (fun o eo => by rw [eo]; exact hq)
noncomputable def aOx (jE eW eY dU fY gJ jG nU pR uM : Int32) (tD : Nat -> Int32) : Int32 × Int32 × Int32 × Int32 × Int32 × Int32 × Int32 × Int32 × Int32 × Int32 := ((F_X2_read ((((uM + 13) - 1) - ((uM + 13) - 1) / 13 * 13) * 8) jE eW eY dU fY gJ jG nU tD).1, (F_X2_read ((((uM + 13) - 1) - ((uM + 13) - 1) / 13 * 13) * 8) jE eW eY dU fY gJ jG nU tD).2.1, (F_X2_read ((((uM + 13) - 1) - ((uM + 13) - 1) / 13 * 13) * 8) jE eW eY dU fY gJ jG nU tD).2.2.1, (F_X2_read ((((uM + 13) - 1) - ((uM + 13) - 1) / 13 * 13) * 8) jE eW eY dU fY gJ jG nU tD).2.2.2.1, (F_X2_read ((((uM + 13) - 1) - ((uM + 13) - 1) / 13 * 13) * 8) jE eW eY dU fY gJ jG nU tD).2.2.2.2.1, (F_X2_read ((((uM + 13) - 1) - ((uM + 13) - 1) / 13 * 13) * 8) jE eW eY dU fY gJ jG nU tD).2.2.2.2.2.1, (F_X2_read ((((uM + 13) - 1) - ((uM + 13) - 1) / 13 * 13) * 8) jE eW eY dU fY gJ jG nU tD).2.2.2.2.2.2.1, (F_X2_read ((((uM + 13) - 1) - ((uM + 13) - 1) / 13 * 13) * 8) jE eW eY dU fY gJ jG nU tD).2.2.2.2.2.2.2, (pR - 1), (((uM + 13) - 1) - ((uM + 13) - 1) / 13 * 13))
set_option maxHeartbeats 200000 in
set_option maxRecDepth 10000 in
theorem dt_X4_goBack {P Q : Int32 -> Int32 -> Int32 -> Int32 -> Int32 -> Int32 -> Int32 -> Int32 -> Int32 -> Int32 -> Prop} {jE eW eY dU fY gJ jG nU pR uM : Int32} {tD : Nat -> Int32} (h : wp_X4_goBack P jE eW eY dU fY gJ jG nU pR uM tD) (hq : ∀ o : Int32 × Int32 × Int32 × Int32 × Int32 × Int32 × Int32 × Int32 × Int32 × Int32, o = aOx jE eW eY dU fY gJ jG nU pR uM tD -> P o.1 o.2.1 o.2.2.1 o.2.2.2.1 o.2.2.2.2.1 o.2.2.2.2.2.1 o.2.2.2.2.2.2.1 o.2.2.2.2.2.2.2.1 o.2.2.2.2.2.2.2.2.1 o.2.2.2.2.2.2.2.2.2 -> Q o.1 o.2.1 o.2.2.1 o.2.2.2.1 o.2.2.2.2.1 o.2.2.2.2.2.1 o.2.2.2.2.2.2.1 o.2.2.2.2.2.2.2.1 o.2.2.2.2.2.2.2.2.1 o.2.2.2.2.2.2.2.2.2) : wp_X4_goBack Q jE eW eY dU fY gJ jG nU pR uM tD := by
  rw [aOx] at hq
  refine ae ?_
  have h := h _ rfl
  refine ae ?_
  have h := h _ rfl
  refine ae ?_
  have h := h _ rfl
  refine ae ?_
  have h := h _ rfl
  refine ae ?_
  have h := h _ rfl
  refine du_X2_read h ?_
  intro h
  have q9 := hq _ rfl
  dsimp only at q9
  exact q9 h
theorem du_X4_goBack {P Q : Int32 -> Int32 -> Int32 -> Int32 -> Int32 -> Int32 -> Int32 -> Int32 -> Int32 -> Int32 -> Prop} {jE eW eY dU fY gJ jG nU pR uM : Int32} {tD : Nat -> Int32} (h : wp_X4_goBack P jE eW eY dU fY gJ jG nU pR uM tD) (hq : P (aOx jE eW eY dU fY gJ jG nU pR uM tD).1 (aOx jE eW eY dU fY gJ jG nU pR uM tD).2.1 (aOx jE eW eY dU fY gJ jG nU pR uM tD).2.2.1 (aOx jE eW eY dU fY gJ jG nU pR uM tD).2.2.2.1 (aOx jE eW eY dU fY gJ jG nU pR uM tD).2.2.2.2.1 (aOx jE eW eY dU fY gJ jG nU pR uM tD).2.2.2.2.2.1 (aOx jE eW eY dU fY gJ jG nU pR uM tD).2.2.2.2.2.2.1 (aOx jE eW eY dU fY gJ jG nU pR uM tD).2.2.2.2.2.2.2.1 (aOx jE eW eY dU fY gJ jG nU pR uM tD).2.2.2.2.2.2.2.2.1 (aOx jE eW eY dU fY gJ jG nU pR uM tD).2.2.2.2.2.2.2.2.2 -> Q (aOx jE eW eY dU fY gJ jG nU pR uM tD).1 (aOx jE eW eY dU fY gJ jG nU pR uM tD).2.1 (aOx jE eW eY dU fY gJ jG nU pR uM tD).2.2.1 (aOx jE eW eY dU fY gJ jG nU pR uM tD).2.2.2.1 (aOx jE eW eY dU fY gJ jG nU pR uM tD).2.2.2.2.1 (aOx jE eW eY dU fY gJ jG nU pR uM tD).2.2.2.2.2.1 (aOx jE eW eY dU fY gJ jG nU pR uM tD).2.2.2.2.2.2.1 (aOx jE eW eY dU fY gJ jG nU pR uM tD).2.2.2.2.2.2.2.1 (aOx jE eW eY dU fY gJ jG nU pR uM tD).2.2.2.2.2.2.2.2.1 (aOx jE eW eY dU fY gJ jG nU pR uM tD).2.2.2.2.2.2.2.2.2) : wp_X4_goBack Q jE eW eY dU fY gJ jG nU pR uM tD := dt_X4_goBack h (fun o eo => by rw [eo]; exact hq)
noncomputable def F_X9_undo (jE eW eY dU fY gJ jG nU pR uM : Int32) (tD : Nat -> Int32) : Int32 × Int32 × Int32 × Int32 × Int32 × Int32 × Int32 × Int32 × Int32 × Int32 × Int32 := if pR = 0 then ((-1), jE, eW, eY, dU, fY, gJ, jG, nU, pR, uM) else ((aOx jE eW eY dU fY gJ jG nU pR uM tD).2.2.2.2.2.2.2.2.1, (aOx jE eW eY dU fY gJ jG nU pR uM tD).1, (aOx jE eW eY dU fY gJ jG nU pR uM tD).2.1, (aOx jE eW eY dU fY gJ jG nU pR uM tD).2.2.1, (aOx jE eW eY dU fY gJ jG nU pR uM tD).2.2.2.1, (aOx jE eW eY dU fY gJ jG nU pR uM tD).2.2.2.2.1, (aOx jE eW eY dU fY gJ jG nU pR uM tD).2.2.2.2.2.1, (aOx jE eW eY dU fY gJ jG nU pR uM tD).2.2.2.2.2.2.1, (aOx jE eW eY dU fY gJ jG nU pR uM tD).2.2.2.2.2.2.2.1, (aOx jE eW eY dU fY gJ jG nU pR uM tD).2.2.2.2.2.2.2.2.1, (aOx jE eW eY dU fY gJ jG nU pR uM tD).2.2.2.2.2.2.2.2.2)
set_option maxHeartbeats 200000 in
set_option maxRecDepth 10000 in
theorem dt_X9_undo {P Q : Int32 -> Int32 -> Int32 -> Int32 -> Int32 -> Int32 -> Int32 -> Int32 -> Int32 -> Int32 -> Int32 -> Prop} {jE eW eY dU fY gJ jG nU pR uM : Int32} {tD : Nat -> Int32} (h : wp_X9_undo P jE eW eY dU fY gJ jG nU pR uM tD) (hq : ∀ o : Int32 × Int32 × Int32 × Int32 × Int32 × Int32 × Int32 × Int32 × Int32 × Int32 × Int32, o = F_X9_undo jE eW eY dU fY gJ jG nU pR uM tD -> P o.1 o.2.1 o.2.2.1 o.2.2.2.1 o.2.2.2.2.1 o.2.2.2.2.2.1 o.2.2.2.2.2.2.1 o.2.2.2.2.2.2.2.1 o.2.2.2.2.2.2.2.2.1 o.2.2.2.2.2.2.2.2.2.1 o.2.2.2.2.2.2.2.2.2.2 -> Q o.1 o.2.1 o.2.2.1 o.2.2.2.1 o.2.2.2.2.1 o.2.2.2.2.2.1 o.2.2.2.2.2.2.1 o.2.2.2.2.2.2.2.1 o.2.2.2.2.2.2.2.2.1 o.2.2.2.2.2.2.2.2.2.1 o.2.2.2.2.2.2.2.2.2.2) : wp_X9_undo Q jE eW eY dU fY gJ jG nU pR uM tD := by
  rw [F_X9_undo] at hq
  refine And.intro (fun c1 => ?_) (fun c1 => ?_)
  · have h := And.left h c1
    rw [if_neg c1] at hq
    refine du_X4_goBack h ?_
    intro h
    have q9 := hq _ rfl
    dsimp only at q9
    exact q9 h
  · have h := And.right h c1
    rw [if_pos c1] at hq
    have q9 := hq _ rfl
    dsimp only at q9
    exact q9 h
theorem du_X9_undo {P Q : Int32 -> Int32 -> Int32 -> Int32 -> Int32 -> Int32 -> Int32 -> Int32 -> Int32 -> Int32 -> Int32 -> Prop} {jE eW eY dU fY gJ jG nU pR uM : Int32} {tD : Nat -> Int32} (h : wp_X9_undo P jE eW eY dU fY gJ jG nU pR uM tD) (hq : P (F_X9_undo jE eW eY dU fY gJ jG nU pR uM tD).1 (F_X9_undo jE eW eY dU fY gJ jG nU pR uM tD).2.1 (F_X9_undo jE eW eY dU fY gJ jG nU pR uM tD).2.2.1 (F_X9_undo jE eW eY dU fY gJ jG nU pR uM tD).2.2.2.1 (F_X9_undo jE eW eY dU fY gJ jG nU pR uM tD).2.2.2.2.1 (F_X9_undo jE eW eY dU fY gJ jG nU pR uM tD).2.2.2.2.2.1 (F_X9_undo jE eW eY dU fY gJ jG nU pR uM tD).2.2.2.2.2.2.1 (F_X9_undo jE eW eY dU fY gJ jG nU pR uM tD).2.2.2.2.2.2.2.1 (F_X9_undo jE eW eY dU fY gJ jG nU pR uM tD).2.2.2.2.2.2.2.2.1 (F_X9_undo jE eW eY dU fY gJ jG nU pR uM tD).2.2.2.2.2.2.2.2.2.1 (F_X9_undo jE eW eY dU fY gJ jG nU pR uM tD).2.2.2.2.2.2.2.2.2.2 -> Q (F_X9_undo jE eW eY dU fY gJ jG nU pR uM tD).1 (F_X9_undo jE eW eY dU fY gJ jG nU pR uM tD).2.1 (F_X9_undo jE eW eY dU fY gJ jG nU pR uM tD).2.2.1 (F_X9_undo jE eW eY dU fY gJ jG nU pR uM tD).2.2.2.1 (F_X9_undo jE eW eY dU fY gJ jG nU pR uM tD).2.2.2.2.1 (F_X9_undo jE eW eY dU fY gJ jG nU pR uM tD).2.2.2.2.2.1 (F_X9_undo jE eW eY dU fY gJ jG nU pR uM tD).2.2.2.2.2.2.1 (F_X9_undo jE eW eY dU fY gJ jG nU pR uM tD).2.2.2.2.2.2.2.1 (F_X9_undo jE eW eY dU fY gJ jG nU pR uM tD).2.2.2.2.2.2.2.2.1 (F_X9_undo jE eW eY dU fY gJ jG nU pR uM tD).2.2.2.2.2.2.2.2.2.1 (F_X9_undo jE eW eY dU fY gJ jG nU pR uM tD).2.2.2.2.2.2.2.2.2.2) : wp_X9_undo Q jE eW eY dU fY gJ jG nU pR uM tD := dt_X9_undo h (fun o eo => by rw [eo]; exact hq)
theorem dw_X9_undo {Q : Int32 -> Int32 -> Int32 -> Int32 -> Int32 -> Int32 -> Int32 -> Int32 -> Int32 -> Int32 -> Int32 -> Prop} {jE eW eY dU fY gJ jG nU pR uM : Int32} {tD : Nat -> Int32} (h : wp_X9_undo (fun o0 o1 o2 o3 o4 o5 o6 o7 o8 o9 o10 => (o0, o1, o2, o3, o4, o5, o6, o7, o8, o9, o10) = F_X9_undo jE eW eY dU fY gJ jG nU pR uM tD -> Q o0 o1 o2 o3 o4 o5 o6 o7 o8 o9 o10) jE eW eY dU fY gJ jG nU pR uM tD) : wp_X9_undo Q jE eW eY dU fY gJ jG nU pR uM tD := dt_X9_undo h (fun o eo hp => hp eo)
noncomputable def j_X9_from_77 {R : Type} (k42 : Int32 -> Int32 -> Int32 -> Int32 -> R) (dN bD : Int32) (uU gF mX oE dY : Nat -> Int32) (gJ x1 x3 x4 x5 : Int32) : R := k42 x1 x3 x4 (x5 + 1)
noncomputable def bd_X9_from_42 (dN bD : Int32) (uU gF mX oE dY : Nat -> Int32) (gJ x1 x3 c s : Int32) : Int32 := if (F_X3_isWithin x1 c x3 uU gF mX oE) = 0 then (j_X9_from_77 (fun q0 q1 q2 q3 => q2) dN bD uU gF mX oE dY gJ x1 x3 s c) else (j_X9_from_77 (fun q0 q1 q2 q3 => q2) dN bD uU gF mX oE dY gJ x1 x3 (s ||| (1 <<< (c &&& 31))) c)
noncomputable def ex_X9_from_42 {R : Type} (po : Int32 -> R) (dN bD : Int32) (uU gF mX oE dY : Nat -> Int32) (gJ x1 x3 c s : Int32) : R := po s
set_option maxHeartbeats 200000 in
set_option maxRecDepth 10000 in
theorem dl_X9_from_42 {P Q : Int32 -> Prop} {dN bD : Int32} {uU gF mX oE dY : Nat -> Int32} {gJ x1 x3 a : Int32} {i : Nat} (hi0 : i < 2147483648) (hE : ∀ (c : Int32) (s : Int32), c = nI (i + (Int32.toInt bD - ((i : Nat) : Int)).toNat) -> s = itr (bd_X9_from_42 dN bD uU gF mX oE dY gJ x1 x3) a i (Int32.toInt bD - ((i : Nat) : Int)).toNat -> (P s) -> (Q s)) : ∀ (n k : Nat) (c : Int32), c = nI (i + k) -> k <= (Int32.toInt bD - ((i : Nat) : Int)).toNat -> wb_X9_from_42 P dN bD uU gF mX oE dY gJ n x1 x3 (itr (bd_X9_from_42 dN bD uU gF mX oE dY gJ x1 x3) a i k) c -> wb_X9_from_42 Q dN bD uU gF mX oE dY gJ n x1 x3 (itr (bd_X9_from_42 dN bD uU gF mX oE dY gJ x1 x3) a i k) c := by
  intro n
  induction n with
  | zero => intro k c hc hk h; exact False.elim h
  | succ n ih =>
    intro k c hc hk h
    have hr := aAT bD
    have hi : Int32.toInt c = ((i + k : Nat) : Int) := by rw [hc]; exact nI_toInt (by omega)
    refine And.intro (fun t0 => ?_) (fun t0 => ?_)
    · have h := And.left h t0
      have t1 := (aAO _ _).mp t0
      have hk2 : k = (Int32.toInt bD - ((i : Nat) : Int)).toNat := by omega
      subst hk2
      exact hE _ _ hc rfl h
    · have h := And.right h t0
      have t1 := mt (aAO _ _).mpr t0
      have hs : ∀ o : Int32, o = itr (bd_X9_from_42 dN bD uU gF mX oE dY gJ x1 x3) a i (k + 1) -> wb_X9_from_42 P dN bD uU gF mX oE dY gJ n x1 x3 o (c + 1) -> wb_X9_from_42 Q dN bD uU gF mX oE dY gJ n x1 x3 o (c + 1) := by
        intro o eo h9
        have q := ih (k + 1) (c + 1) (by rw [hc]; exact nI_1 _) (by omega)
        rw [<- eo] at q
        exact q h9
      rw [itr_s, <- hc, bd_X9_from_42] at hs
      refine du_X3_isWithin h ?_
      intro h
      refine And.intro (fun c1 => ?_) (fun c1 => ?_)
      · have h := And.left h c1
        rw [if_pos c1] at hs
        rw [j_X9_from_77] at hs
        unfold ws_X9_from_77 at h ⊢
        refine ae ?_
        have h := h _ rfl
        have q9 := hs _ rfl
        exact q9 h
      · have h := And.right h c1
        rw [if_neg c1] at hs
        refine ae ?_
        have h := h _ rfl
        rw [j_X9_from_77] at hs
        unfold ws_X9_from_77 at h ⊢
        refine ae ?_
        have h := h _ rfl
        have q9 := hs _ rfl
        exact q9 h
noncomputable def F_X9_from (p0 p1 dN bD : Int32) (uU gF mX oE dY : Nat -> Int32) (gJ : Int32) : Int32 := if (F_X3_hasFruit p0 dN) = 0 then (-1) else (if (F_X9_isYesOrNo p1) = 0 then (-1) else (ex_X9_from_42 (fun o0 => o0) dN bD uU gF mX oE dY gJ p0 (F_X3_reach gJ p1 dY) (nI (0 + (Int32.toInt bD - ((0 : Nat) : Int)).toNat)) (itr (bd_X9_from_42 dN bD uU gF mX oE dY gJ p0 (F_X3_reach gJ p1 dY)) 0 0 (Int32.toInt bD - ((0 : Nat) : Int)).toNat)))
set_option maxHeartbeats 200000 in
set_option maxRecDepth 10000 in
theorem dt_X9_from {P Q : Int32 -> Prop} {p0 p1 dN bD : Int32} {uU gF mX oE dY : Nat -> Int32} {gJ : Int32} (h : wp_X9_from P p0 p1 dN bD uU gF mX oE dY gJ) (hq : ∀ o : Int32, o = F_X9_from p0 p1 dN bD uU gF mX oE dY gJ -> P o -> Q o) : wp_X9_from Q p0 p1 dN bD uU gF mX oE dY gJ := by
  rw [F_X9_from] at hq
  refine du_X3_hasFruit h ?_
  intro h
  refine And.intro (fun c1 => ?_) (fun c1 => ?_)
  · have h := And.left h c1
    rw [if_pos c1] at hq
    have q9 := hq _ rfl
    exact q9 h
  · have h := And.right h c1
    rw [if_neg c1] at hq
    refine du_X9_isYesOrNo h ?_
    intro h
    refine And.intro (fun c2 => ?_) (fun c2 => ?_)
    · have h := And.left h c2
      rw [if_neg c2] at hq
      refine du_X3_reach h ?_
      intro h
      obtain ⟨n3, h⟩ := h
      refine ⟨n3, dl_X9_from_42 (a := 0) (i := 0) (by decide) ?_ n3 0 0 (by decide) (Nat.zero_le _) h⟩
      intro cc4 s5 ec6 es7 h
      rw [<- ec6, <- es7, ex_X9_from_42] at hq
      have q9 := hq _ rfl
      exact q9 h
    · have h := And.right h c2
      rw [if_pos c2] at hq
      have q9 := hq _ rfl
      exact q9 h
theorem du_X9_from {P Q : Int32 -> Prop} {p0 p1 dN bD : Int32} {uU gF mX oE dY : Nat -> Int32} {gJ : Int32} (h : wp_X9_from P p0 p1 dN bD uU gF mX oE dY gJ) (hq : P (F_X9_from p0 p1 dN bD uU gF mX oE dY gJ) -> Q (F_X9_from p0 p1 dN bD uU gF mX oE dY gJ)) : wp_X9_from Q p0 p1 dN bD uU gF mX oE dY gJ := dt_X9_from h (fun o eo => by rw [eo]; exact hq)
theorem dw_X9_from {Q : Int32 -> Prop} {p0 p1 dN bD : Int32} {uU gF mX oE dY : Nat -> Int32} {gJ : Int32} (h : wp_X9_from (fun o0 => o0 = F_X9_from p0 p1 dN bD uU gF mX oE dY gJ -> Q o0) p0 p1 dN bD uU gF mX oE dY gJ) : wp_X9_from Q p0 p1 dN bD uU gF mX oE dY gJ := dt_X9_from h (fun o eo hp => hp eo)
noncomputable def bd_X9_never_10 (dN bD : Int32) (uU gF pL mX oE dY : Nat -> Int32) (jE eW eY dU qB : Int32) (jK : Nat -> Int32) (c s : Int32) : Int32 := (s &&& ((F_X3_within c (F_X3_reach 1 1 dY) dN uU gF mX oE) ^^^ (-1)))
noncomputable def ex_X9_never_10 {R : Type} (po : Int32 -> Int32 -> (Nat -> Int32) -> R) (dN bD : Int32) (uU gF pL mX oE dY : Nat -> Int32) (jE eW eY dU qB : Int32) (jK : Nat -> Int32) (c s : Int32) : R := po s ((F_X9_tell (F_X0_worthOf s dN pL dU) qB jK).1) ((F_X9_tell (F_X0_worthOf s dN pL dU) qB jK).2)
set_option maxHeartbeats 200000 in
set_option maxRecDepth 10000 in
theorem dl_X9_never_10 {P Q : Int32 -> Int32 -> (Nat -> Int32) -> Prop} {dN bD : Int32} {uU gF pL mX oE dY : Nat -> Int32} {jE eW eY dU qB : Int32} {jK : Nat -> Int32} {a : Int32} {i : Nat} (hi0 : i < 2147483648) (hE : ∀ (c : Int32) (s : Int32), c = nI (i + (Int32.toInt bD - ((i : Nat) : Int)).toNat) -> s = itr (bd_X9_never_10 dN bD uU gF pL mX oE dY jE eW eY dU qB jK) a i (Int32.toInt bD - ((i : Nat) : Int)).toNat -> (aVC (fun r_2 => aYk (fun aNH aHk => P s aNH aHk) r_2 qB jK) s dN pL dU) -> (aVC (fun r_2 => aYk (fun aNH aHk => Q s aNH aHk) r_2 qB jK) s dN pL dU)) : ∀ (n k : Nat) (c : Int32), c = nI (i + k) -> k <= (Int32.toInt bD - ((i : Nat) : Int)).toNat -> wb_X9_never_10 P dN bD uU gF pL mX oE dY jE eW eY dU n (itr (bd_X9_never_10 dN bD uU gF pL mX oE dY jE eW eY dU qB jK) a i k) c qB jK -> wb_X9_never_10 Q dN bD uU gF pL mX oE dY jE eW eY dU n (itr (bd_X9_never_10 dN bD uU gF pL mX oE dY jE eW eY dU qB jK) a i k) c qB jK := by
  intro n
  induction n with
  | zero => intro k c hc hk h; exact False.elim h
  | succ n ih =>
    intro k c hc hk h
    have hr := aAT bD
    have hi : Int32.toInt c = ((i + k : Nat) : Int) := by rw [hc]; exact nI_toInt (by omega)
    refine And.intro (fun t0 => ?_) (fun t0 => ?_)
    · have h := And.left h t0
      have t1 := (aAO _ _).mp t0
      have hk2 : k = (Int32.toInt bD - ((i : Nat) : Int)).toNat := by omega
      subst hk2
      exact hE _ _ hc rfl h
    · have h := And.right h t0
      have t1 := mt (aAO _ _).mpr t0
      have hs : ∀ o : Int32, o = itr (bd_X9_never_10 dN bD uU gF pL mX oE dY jE eW eY dU qB jK) a i (k + 1) -> wb_X9_never_10 P dN bD uU gF pL mX oE dY jE eW eY dU n o (c + 1) qB jK -> wb_X9_never_10 Q dN bD uU gF pL mX oE dY jE eW eY dU n o (c + 1) qB jK := by
        intro o eo h9
        have q := ih (k + 1) (c + 1) (by rw [hc]; exact nI_1 _) (by omega)
        rw [<- eo] at q
        exact q h9
      rw [itr_s, <- hc, bd_X9_never_10] at hs
      refine du_X3_reach h ?_
      intro h
      refine du_X3_within h ?_
      intro h
      refine ae ?_
      have h := h _ rfl
      refine ae ?_
      have h := h _ rfl
      have q9 := hs _ rfl
      exact q9 h
noncomputable def F_X9_never (dN bD : Int32) (uU gF pL mX oE dY : Nat -> Int32) (jE eW eY dU qB : Int32) (jK : Nat -> Int32) : Int32 × Int32 × (Nat -> Int32) := ex_X9_never_10 (fun o0 o1 o2 => (o0, o1, o2)) dN bD uU gF pL mX oE dY jE eW eY dU qB jK (nI (0 + (Int32.toInt bD - ((0 : Nat) : Int)).toNat)) (itr (bd_X9_never_10 dN bD uU gF pL mX oE dY jE eW eY dU qB jK) (aVS dN jE eW eY) 0 (Int32.toInt bD - ((0 : Nat) : Int)).toNat)
set_option maxHeartbeats 200000 in
set_option maxRecDepth 10000 in
theorem dt_X9_never {P Q : Int32 -> Int32 -> (Nat -> Int32) -> Prop} {dN bD : Int32} {uU gF pL mX oE dY : Nat -> Int32} {jE eW eY dU qB : Int32} {jK : Nat -> Int32} (h : wp_X9_never P dN bD uU gF pL mX oE dY jE eW eY dU qB jK) (hq : ∀ o : Int32 × Int32 × (Nat -> Int32), o = F_X9_never dN bD uU gF pL mX oE dY jE eW eY dU qB jK -> P o.1 o.2.1 o.2.2 -> Q o.1 o.2.1 o.2.2) : wp_X9_never Q dN bD uU gF pL mX oE dY jE eW eY dU qB jK := by
  rw [F_X9_never] at hq
  refine du_X0_hanging h ?_
  intro h
  obtain ⟨n1, h⟩ := h
  refine ⟨n1, dl_X9_never_10 (a := (aVS dN jE eW eY)) (i := 0) (by decide) ?_ n1 0 0 (by decide) (Nat.zero_le _) h⟩
  intro cc2 s3 ec4 es5 h
  rw [<- ec4, <- es5, ex_X9_never_10] at hq
  refine du_X0_worthOf h ?_
  intro h
  refine du_X9_tell h ?_
  intro h
  have q9 := hq _ rfl
  dsimp only at q9
  exact q9 h
theorem du_X9_never {P Q : Int32 -> Int32 -> (Nat -> Int32) -> Prop} {dN bD : Int32} {uU gF pL mX oE dY : Nat -> Int32} {jE eW eY dU qB : Int32} {jK : Nat -> Int32} (h : wp_X9_never P dN bD uU gF pL mX oE dY jE eW eY dU qB jK) (hq : P (F_X9_never dN bD uU gF pL mX oE dY jE eW eY dU qB jK).1 (F_X9_never dN bD uU gF pL mX oE dY jE eW eY dU qB jK).2.1 (F_X9_never dN bD uU gF pL mX oE dY jE eW eY dU qB jK).2.2 -> Q (F_X9_never dN bD uU gF pL mX oE dY jE eW eY dU qB jK).1 (F_X9_never dN bD uU gF pL mX oE dY jE eW eY dU qB jK).2.1 (F_X9_never dN bD uU gF pL mX oE dY jE eW eY dU qB jK).2.2) : wp_X9_never Q dN bD uU gF pL mX oE dY jE eW eY dU qB jK := dt_X9_never h (fun o eo => by rw [eo]; exact hq)
theorem dw_X9_never {Q : Int32 -> Int32 -> (Nat -> Int32) -> Prop} {dN bD : Int32} {uU gF pL mX oE dY : Nat -> Int32} {jE eW eY dU qB : Int32} {jK : Nat -> Int32} (h : wp_X9_never (fun o0 o1 o2 => (o0, o1, o2) = F_X9_never dN bD uU gF pL mX oE dY jE eW eY dU qB jK -> Q o0 o1 o2) dN bD uU gF pL mX oE dY jE eW eY dU qB jK) : wp_X9_never Q dN bD uU gF pL mX oE dY jE eW eY dU qB jK := dt_X9_never h (fun o eo hp => hp eo)
noncomputable def F_X3_allStandings (bD : Int32) : Int32 := ((1 <<< (bD &&& 31)) - 1)
set_option maxHeartbeats 200000 in
set_option maxRecDepth 10000 in
theorem dt_X3_allStandings {P Q : Int32 -> Prop} {bD : Int32} (h : aHs P bD) (hq : ∀ o : Int32, o = F_X3_allStandings bD -> P o -> Q o) : aHs Q bD := by
  rw [F_X3_allStandings] at hq
  refine ae ?_
  have h := h _ rfl
  have q9 := hq _ rfl
  exact q9 h
theorem du_X3_allStandings {P Q : Int32 -> Prop} {bD : Int32} (h : aHs P bD) (hq : P (F_X3_allStandings bD) -> Q (F_X3_allStandings bD)) : aHs Q bD := dt_X3_allStandings h (fun o eo => by rw [eo]; exact hq)
noncomputable def j_X5_reachedBy_32 {R : Type} (k4 : Int32 -> Int32 -> Int32 -> R) (rD : Nat -> Int32) (bD x1 x2 x3 : Int32) : R := k4 x1 x2 (x3 + 1)
noncomputable def bd_X5_reachedBy_4 (rD : Nat -> Int32) (bD x1 c s : Int32) : Int32 := if ((x1 >>> (c &&& 31)) &&& 1) = 0 then (j_X5_reachedBy_32 (fun q0 q1 q2 => q1) rD bD x1 s c) else (j_X5_reachedBy_32 (fun q0 q1 q2 => q1) rD bD x1 (s ||| (rD c.toNatClampNeg)) c)
noncomputable def ex_X5_reachedBy_4 {R : Type} (po : Int32 -> R) (rD : Nat -> Int32) (bD x1 c s : Int32) : R := po s
set_option maxHeartbeats 200000 in
set_option maxRecDepth 10000 in
theorem dl_X5_reachedBy_4 {P Q : Int32 -> Prop} {rD : Nat -> Int32} {bD x1 a : Int32} {i : Nat} (hi0 : i < 2147483648) (hE : ∀ (c : Int32) (s : Int32), c = nI (i + (Int32.toInt bD - ((i : Nat) : Int)).toNat) -> s = itr (bd_X5_reachedBy_4 rD bD x1) a i (Int32.toInt bD - ((i : Nat) : Int)).toNat -> (P s) -> (Q s)) : ∀ (n k : Nat) (c : Int32), c = nI (i + k) -> k <= (Int32.toInt bD - ((i : Nat) : Int)).toNat -> wb_X5_reachedBy_4 P rD bD n x1 (itr (bd_X5_reachedBy_4 rD bD x1) a i k) c -> wb_X5_reachedBy_4 Q rD bD n x1 (itr (bd_X5_reachedBy_4 rD bD x1) a i k) c := by
  intro n
  induction n with
  | zero => intro k c hc hk h; exact False.elim h
  | succ n ih =>
    intro k c hc hk h
    have hr := aAT bD
    have hi : Int32.toInt c = ((i + k : Nat) : Int) := by rw [hc]; exact nI_toInt (by omega)
    refine And.intro (fun t0 => ?_) (fun t0 => ?_)
    · have h := And.left h t0
      have t1 := (aAO _ _).mp t0
      have hk2 : k = (Int32.toInt bD - ((i : Nat) : Int)).toNat := by omega
      subst hk2
      exact hE _ _ hc rfl h
    · have h := And.right h t0
      have t1 := mt (aAO _ _).mpr t0
      have hs : ∀ o : Int32, o = itr (bd_X5_reachedBy_4 rD bD x1) a i (k + 1) -> wb_X5_reachedBy_4 P rD bD n x1 o (c + 1) -> wb_X5_reachedBy_4 Q rD bD n x1 o (c + 1) := by
        intro o eo h9
        have q := ih (k + 1) (c + 1) (by rw [hc]; exact nI_1 _) (by omega)
        rw [<- eo] at q
        exact q h9
      rw [itr_s, <- hc, bd_X5_reachedBy_4] at hs
      refine ae ?_
      have h := h _ rfl
      refine And.intro (fun c1 => ?_) (fun c1 => ?_)
      · have h := And.left h c1
        rw [if_pos c1] at hs
        rw [j_X5_reachedBy_32] at hs
        unfold ws_X5_reachedBy_32 at h ⊢
        refine ae ?_
        have h := h _ rfl
        have q9 := hs _ rfl
        exact q9 h
      · have h := And.right h c1
        rw [if_neg c1] at hs
        refine And.intro (And.left h) ?_
        have h := And.right h
        refine ae ?_
        have h := h _ rfl
        rw [j_X5_reachedBy_32] at hs
        unfold ws_X5_reachedBy_32 at h ⊢
        refine ae ?_
        have h := h _ rfl
        have q9 := hs _ rfl
        exact q9 h
noncomputable def F_X5_reachedBy (p0 : Int32) (rD : Nat -> Int32) (bD : Int32) : Int32 := ex_X5_reachedBy_4 (fun o0 => o0) rD bD p0 (nI (0 + (Int32.toInt bD - ((0 : Nat) : Int)).toNat)) (itr (bd_X5_reachedBy_4 rD bD p0) 0 0 (Int32.toInt bD - ((0 : Nat) : Int)).toNat)
set_option maxHeartbeats 200000 in
set_option maxRecDepth 10000 in
theorem dt_X5_reachedBy {P Q : Int32 -> Prop} {p0 : Int32} {rD : Nat -> Int32} {bD : Int32} (h : aPV P p0 rD bD) (hq : ∀ o : Int32, o = F_X5_reachedBy p0 rD bD -> P o -> Q o) : aPV Q p0 rD bD := by
  rw [F_X5_reachedBy] at hq
  obtain ⟨n1, h⟩ := h
  refine ⟨n1, dl_X5_reachedBy_4 (a := 0) (i := 0) (by decide) ?_ n1 0 0 (by decide) (Nat.zero_le _) h⟩
  intro cc2 s3 ec4 es5 h
  rw [<- ec4, <- es5, ex_X5_reachedBy_4] at hq
  have q9 := hq _ rfl
  exact q9 h
theorem du_X5_reachedBy {P Q : Int32 -> Prop} {p0 : Int32} {rD : Nat -> Int32} {bD : Int32} (h : aPV P p0 rD bD) (hq : P (F_X5_reachedBy p0 rD bD) -> Q (F_X5_reachedBy p0 rD bD)) : aPV Q p0 rD bD := dt_X5_reachedBy h (fun o eo => by rw [eo]; exact hq)
noncomputable def bd_X5_lookAs_13 (dN bD : Int32) (uU gF qF mX oE dY : Nat -> Int32) (jE eW eY x2 x3 oY c : Int32) (s : (Nat -> Int32)) : (Nat -> Int32) := (upd s c.toNatClampNeg (F_X3_within c x3 dN uU gF mX oE))
noncomputable def ex_X5_lookAs_13 {R : Type} (po : Int32 -> (Nat -> Int32) -> R) (dN bD : Int32) (uU gF qF mX oE dY : Nat -> Int32) (jE eW eY x2 x3 oY c : Int32) (s : (Nat -> Int32)) : R := po (((aVS dN jE eW eY) &&& (F_X3_ripeBy x2 dN qF)) &&& (F_X5_reachedBy (F_X3_allStandings bD) s bD)) s
set_option maxHeartbeats 200000 in
set_option maxRecDepth 10000 in
theorem dl_X5_lookAs_13 {P Q : Int32 -> (Nat -> Int32) -> Prop} {dN bD : Int32} {uU gF qF mX oE dY : Nat -> Int32} {jE eW eY x2 x3 oY : Int32} {a : (Nat -> Int32)} {i : Nat} (hi0 : i < 2147483648) (hE : ∀ (c : Int32) (s : (Nat -> Int32)), c = nI (i + (Int32.toInt bD - ((i : Nat) : Int)).toNat) -> s = itr (bd_X5_lookAs_13 dN bD uU gF qF mX oE dY jE eW eY x2 x3 oY) a i (Int32.toInt bD - ((i : Nat) : Int)).toNat -> (aOu (fun r_2 => aZj (fun r_3 => ∀ v_4 : Int32, v_4 = r_2 &&& r_3 -> aHs (fun r_5 => aPV (fun r_6 => ∀ v_7 : Int32, v_7 = v_4 &&& r_6 -> P v_7 s) r_5 s bD) bD) x2 dN qF) dN jE eW eY) -> (aOu (fun r_2 => aZj (fun r_3 => ∀ v_4 : Int32, v_4 = r_2 &&& r_3 -> aHs (fun r_5 => aPV (fun r_6 => ∀ v_7 : Int32, v_7 = v_4 &&& r_6 -> Q v_7 s) r_5 s bD) bD) x2 dN qF) dN jE eW eY)) : ∀ (n k : Nat) (c : Int32), c = nI (i + k) -> k <= (Int32.toInt bD - ((i : Nat) : Int)).toNat -> wb_X5_lookAs_13 P dN bD uU gF qF mX oE dY jE eW eY n x2 x3 c oY (itr (bd_X5_lookAs_13 dN bD uU gF qF mX oE dY jE eW eY x2 x3 oY) a i k) -> wb_X5_lookAs_13 Q dN bD uU gF qF mX oE dY jE eW eY n x2 x3 c oY (itr (bd_X5_lookAs_13 dN bD uU gF qF mX oE dY jE eW eY x2 x3 oY) a i k) := by
  intro n
  induction n with
  | zero => intro k c hc hk h; exact False.elim h
  | succ n ih =>
    intro k c hc hk h
    have hr := aAT bD
    have hi : Int32.toInt c = ((i + k : Nat) : Int) := by rw [hc]; exact nI_toInt (by omega)
    refine And.intro (fun t0 => ?_) (fun t0 => ?_)
    · have h := And.left h t0
      have t1 := (aAO _ _).mp t0
      have hk2 : k = (Int32.toInt bD - ((i : Nat) : Int)).toNat := by omega
      subst hk2
      exact hE _ _ hc rfl h
    · have h := And.right h t0
      have t1 := mt (aAO _ _).mpr t0
      have hs : ∀ o : (Nat -> Int32), o = itr (bd_X5_lookAs_13 dN bD uU gF qF mX oE dY jE eW eY x2 x3 oY) a i (k + 1) -> wb_X5_lookAs_13 P dN bD uU gF qF mX oE dY jE eW eY n x2 x3 (c + 1) oY o -> wb_X5_lookAs_13 Q dN bD uU gF qF mX oE dY jE eW eY n x2 x3 (c + 1) oY o := by
        intro o eo h9
        have q := ih (k + 1) (c + 1) (by rw [hc]; exact nI_1 _) (by omega)
        rw [<- eo] at q
        exact q h9
      rw [itr_s, <- hc, bd_X5_lookAs_13] at hs
      refine du_X3_within h ?_
      intro h
      refine And.intro (And.left h) ?_
      have h := And.right h
      refine ae ?_
      have h := h _ rfl
      have q9 := hs _ rfl
      exact q9 h
noncomputable def F_X5_lookAs (p0 p1 oY : Int32) (rD : Nat -> Int32) (dN bD : Int32) (uU gF qF mX oE dY : Nat -> Int32) (jE eW eY : Int32) : Int32 × (Nat -> Int32) := ex_X5_lookAs_13 (fun o0 o1 => (o0, o1)) dN bD uU gF qF mX oE dY jE eW eY p1 (F_X3_reach p0 0 dY) oY (nI (0 + (Int32.toInt bD - ((0 : Nat) : Int)).toNat)) (itr (bd_X5_lookAs_13 dN bD uU gF qF mX oE dY jE eW eY p1 (F_X3_reach p0 0 dY) oY) rD 0 (Int32.toInt bD - ((0 : Nat) : Int)).toNat)
set_option maxHeartbeats 200000 in
set_option maxRecDepth 10000 in
theorem dt_X5_lookAs {P Q : Int32 -> (Nat -> Int32) -> Prop} {p0 p1 oY : Int32} {rD : Nat -> Int32} {dN bD : Int32} {uU gF qF mX oE dY : Nat -> Int32} {jE eW eY : Int32} (h : wp_X5_lookAs P p0 p1 oY rD dN bD uU gF qF mX oE dY jE eW eY) (hq : ∀ o : Int32 × (Nat -> Int32), o = F_X5_lookAs p0 p1 oY rD dN bD uU gF qF mX oE dY jE eW eY -> P o.1 o.2 -> Q o.1 o.2) : wp_X5_lookAs Q p0 p1 oY rD dN bD uU gF qF mX oE dY jE eW eY := by
  rw [F_X5_lookAs] at hq
  refine du_X3_reach h ?_
  intro h
  obtain ⟨n1, h⟩ := h
  refine ⟨n1, dl_X5_lookAs_13 (a := rD) (i := 0) (by decide) ?_ n1 0 0 (by decide) (Nat.zero_le _) h⟩
  intro cc2 s3 ec4 es5 h
  rw [<- ec4, <- es5, ex_X5_lookAs_13] at hq
  refine du_X0_hanging h ?_
  intro h
  refine du_X3_ripeBy h ?_
  intro h
  refine ae ?_
  have h := h _ rfl
  refine du_X3_allStandings h ?_
  intro h
  refine du_X5_reachedBy h ?_
  intro h
  refine ae ?_
  have h := h _ rfl
  have q9 := hq _ rfl
  dsimp only at q9
  exact q9 h
theorem du_X5_lookAs {P Q : Int32 -> (Nat -> Int32) -> Prop} {p0 p1 oY : Int32} {rD : Nat -> Int32} {dN bD : Int32} {uU gF qF mX oE dY : Nat -> Int32} {jE eW eY : Int32} (h : wp_X5_lookAs P p0 p1 oY rD dN bD uU gF qF mX oE dY jE eW eY) (hq : P (F_X5_lookAs p0 p1 oY rD dN bD uU gF qF mX oE dY jE eW eY).1 (F_X5_lookAs p0 p1 oY rD dN bD uU gF qF mX oE dY jE eW eY).2 -> Q (F_X5_lookAs p0 p1 oY rD dN bD uU gF qF mX oE dY jE eW eY).1 (F_X5_lookAs p0 p1 oY rD dN bD uU gF qF mX oE dY jE eW eY).2) : wp_X5_lookAs Q p0 p1 oY rD dN bD uU gF qF mX oE dY jE eW eY := dt_X5_lookAs h (fun o eo => by rw [eo]; exact hq)
noncomputable def F_X5_look (oY : Int32) (rD : Nat -> Int32) (dN bD : Int32) (uU gF qF mX oE dY : Nat -> Int32) (jE eW eY gJ jG : Int32) : Int32 × (Nat -> Int32) := ((F_X5_lookAs gJ jG oY rD dN bD uU gF qF mX oE dY jE eW eY).1, (F_X5_lookAs gJ jG oY rD dN bD uU gF qF mX oE dY jE eW eY).2)
set_option maxHeartbeats 200000 in
set_option maxRecDepth 10000 in
theorem dt_X5_look {P Q : Int32 -> (Nat -> Int32) -> Prop} {oY : Int32} {rD : Nat -> Int32} {dN bD : Int32} {uU gF qF mX oE dY : Nat -> Int32} {jE eW eY gJ jG : Int32} (h : aZL P oY rD dN bD uU gF qF mX oE dY jE eW eY gJ jG) (hq : ∀ o : Int32 × (Nat -> Int32), o = F_X5_look oY rD dN bD uU gF qF mX oE dY jE eW eY gJ jG -> P o.1 o.2 -> Q o.1 o.2) : aZL Q oY rD dN bD uU gF qF mX oE dY jE eW eY gJ jG := by
  rw [F_X5_look] at hq
  refine du_X5_lookAs h ?_
  intro h
  have q9 := hq _ rfl
  dsimp only at q9
  exact q9 h
theorem du_X5_look {P Q : Int32 -> (Nat -> Int32) -> Prop} {oY : Int32} {rD : Nat -> Int32} {dN bD : Int32} {uU gF qF mX oE dY : Nat -> Int32} {jE eW eY gJ jG : Int32} (h : aZL P oY rD dN bD uU gF qF mX oE dY jE eW eY gJ jG) (hq : P (F_X5_look oY rD dN bD uU gF qF mX oE dY jE eW eY gJ jG).1 (F_X5_look oY rD dN bD uU gF qF mX oE dY jE eW eY gJ jG).2 -> Q (F_X5_look oY rD dN bD uU gF qF mX oE dY jE eW eY gJ jG).1 (F_X5_look oY rD dN bD uU gF qF mX oE dY jE eW eY gJ jG).2) : aZL Q oY rD dN bD uU gF qF mX oE dY jE eW eY gJ jG := dt_X5_look h (fun o eo => by rw [eo]; exact hq)
noncomputable def F_X5_wantedFrom (p0 oY : Int32) (rD : Nat -> Int32) : Int32 := (oY &&& (rD p0.toNatClampNeg))
set_option maxHeartbeats 200000 in
set_option maxRecDepth 10000 in
theorem dt_X5_wantedFrom {P Q : Int32 -> Prop} {p0 oY : Int32} {rD : Nat -> Int32} (h : wp_X5_wantedFrom P p0 oY rD) (hq : ∀ o : Int32, o = F_X5_wantedFrom p0 oY rD -> P o -> Q o) : wp_X5_wantedFrom Q p0 oY rD := by
  rw [F_X5_wantedFrom] at hq
  refine And.intro (And.left h) ?_
  have h := And.right h
  have q9 := hq _ rfl
  exact q9 h
theorem du_X5_wantedFrom {P Q : Int32 -> Prop} {p0 oY : Int32} {rD : Nat -> Int32} (h : wp_X5_wantedFrom P p0 oY rD) (hq : P (F_X5_wantedFrom p0 oY rD) -> Q (F_X5_wantedFrom p0 oY rD)) : wp_X5_wantedFrom Q p0 oY rD := dt_X5_wantedFrom h (fun o eo => by rw [eo]; exact hq)
noncomputable def F_X9_both (p0 p1 oY : Int32) (rD : Nat -> Int32) (dN bD : Int32) (uU gF qF mX oE dY : Nat -> Int32) (jE eW eY gJ jG qB : Int32) (jK : Nat -> Int32) : Int32 × Int32 × (Nat -> Int32) × Int32 × (Nat -> Int32) := if (aVU p0 bD) = 0 then ((-1), oY, rD, qB, jK) else (if (aVU p1 bD) = 0 then ((-1), oY, rD, qB, jK) else (if p0 = p1 then ((-1), oY, rD, qB, jK) else (((F_X5_wantedFrom p0 (F_X5_look oY rD dN bD uU gF qF mX oE dY jE eW eY gJ jG).1 (F_X5_look oY rD dN bD uU gF qF mX oE dY jE eW eY gJ jG).2) &&& (F_X5_wantedFrom p1 (F_X5_look oY rD dN bD uU gF qF mX oE dY jE eW eY gJ jG).1 (F_X5_look oY rD dN bD uU gF qF mX oE dY jE eW eY gJ jG).2)), (F_X5_look oY rD dN bD uU gF qF mX oE dY jE eW eY gJ jG).1, (F_X5_look oY rD dN bD uU gF qF mX oE dY jE eW eY gJ jG).2, (F_X9_tell_ ((F_X5_wantedFrom p0 (F_X5_look oY rD dN bD uU gF qF mX oE dY jE eW eY gJ jG).1 (F_X5_look oY rD dN bD uU gF qF mX oE dY jE eW eY gJ jG).2) &&& ((F_X5_wantedFrom p1 (F_X5_look oY rD dN bD uU gF qF mX oE dY jE eW eY gJ jG).1 (F_X5_look oY rD dN bD uU gF qF mX oE dY jE eW eY gJ jG).2) ^^^ (-1))) ((F_X5_wantedFrom p1 (F_X5_look oY rD dN bD uU gF qF mX oE dY jE eW eY gJ jG).1 (F_X5_look oY rD dN bD uU gF qF mX oE dY jE eW eY gJ jG).2) &&& ((F_X5_wantedFrom p0 (F_X5_look oY rD dN bD uU gF qF mX oE dY jE eW eY gJ jG).1 (F_X5_look oY rD dN bD uU gF qF mX oE dY jE eW eY gJ jG).2) ^^^ (-1))) qB jK).1, (F_X9_tell_ ((F_X5_wantedFrom p0 (F_X5_look oY rD dN bD uU gF qF mX oE dY jE eW eY gJ jG).1 (F_X5_look oY rD dN bD uU gF qF mX oE dY jE eW eY gJ jG).2) &&& ((F_X5_wantedFrom p1 (F_X5_look oY rD dN bD uU gF qF mX oE dY jE eW eY gJ jG).1 (F_X5_look oY rD dN bD uU gF qF mX oE dY jE eW eY gJ jG).2) ^^^ (-1))) ((F_X5_wantedFrom p1 (F_X5_look oY rD dN bD uU gF qF mX oE dY jE eW eY gJ jG).1 (F_X5_look oY rD dN bD uU gF qF mX oE dY jE eW eY gJ jG).2) &&& ((F_X5_wantedFrom p0 (F_X5_look oY rD dN bD uU gF qF mX oE dY jE eW eY gJ jG).1 (F_X5_look oY rD dN bD uU gF qF mX oE dY jE eW eY gJ jG).2) ^^^ (-1))) qB jK).2)))
set_option maxHeartbeats 200000 in
set_option maxRecDepth 10000 in
theorem dt_X9_both {P Q : Int32 -> Int32 -> (Nat -> Int32) -> Int32 -> (Nat -> Int32) -> Prop} {p0 p1 oY : Int32} {rD : Nat -> Int32} {dN bD : Int32} {uU gF qF mX oE dY : Nat -> Int32} {jE eW eY gJ jG qB : Int32} {jK : Nat -> Int32} (h : wp_X9_both P p0 p1 oY rD dN bD uU gF qF mX oE dY jE eW eY gJ jG qB jK) (hq : ∀ o : Int32 × Int32 × (Nat -> Int32) × Int32 × (Nat -> Int32), o = F_X9_both p0 p1 oY rD dN bD uU gF qF mX oE dY jE eW eY gJ jG qB jK -> P o.1 o.2.1 o.2.2.1 o.2.2.2.1 o.2.2.2.2 -> Q o.1 o.2.1 o.2.2.1 o.2.2.2.1 o.2.2.2.2) : wp_X9_both Q p0 p1 oY rD dN bD uU gF qF mX oE dY jE eW eY gJ jG qB jK := by
  rw [F_X9_both] at hq
  refine du_X3_hasStanding h ?_
  intro h
  refine And.intro (fun c1 => ?_) (fun c1 => ?_)
  · have h := And.left h c1
    rw [if_pos c1] at hq
    have q9 := hq _ rfl
    dsimp only at q9
    exact q9 h
  · have h := And.right h c1
    rw [if_neg c1] at hq
    refine du_X3_hasStanding h ?_
    intro h
    refine And.intro (fun c2 => ?_) (fun c2 => ?_)
    · have h := And.left h c2
      rw [if_pos c2] at hq
      have q9 := hq _ rfl
      dsimp only at q9
      exact q9 h
    · have h := And.right h c2
      rw [if_neg c2] at hq
      refine And.intro (fun c3 => ?_) (fun c3 => ?_)
      · have h := And.left h c3
        rw [if_neg c3] at hq
        refine du_X5_look h ?_
        intro h
        refine du_X5_wantedFrom h ?_
        intro h
        refine du_X5_wantedFrom h ?_
        intro h
        refine ae ?_
        have h := h _ rfl
        refine ae ?_
        have h := h _ rfl
        refine du_X9_tell_ h ?_
        intro h
        have q9 := hq _ rfl
        dsimp only at q9
        exact q9 h
      · have h := And.right h c3
        rw [if_pos c3] at hq
        have q9 := hq _ rfl
        dsimp only at q9
        exact q9 h
theorem du_X9_both {P Q : Int32 -> Int32 -> (Nat -> Int32) -> Int32 -> (Nat -> Int32) -> Prop} {p0 p1 oY : Int32} {rD : Nat -> Int32} {dN bD : Int32} {uU gF qF mX oE dY : Nat -> Int32} {jE eW eY gJ jG qB : Int32} {jK : Nat -> Int32} (h : wp_X9_both P p0 p1 oY rD dN bD uU gF qF mX oE dY jE eW eY gJ jG qB jK) (hq : P (F_X9_both p0 p1 oY rD dN bD uU gF qF mX oE dY jE eW eY gJ jG qB jK).1 (F_X9_both p0 p1 oY rD dN bD uU gF qF mX oE dY jE eW eY gJ jG qB jK).2.1 (F_X9_both p0 p1 oY rD dN bD uU gF qF mX oE dY jE eW eY gJ jG qB jK).2.2.1 (F_X9_both p0 p1 oY rD dN bD uU gF qF mX oE dY jE eW eY gJ jG qB jK).2.2.2.1 (F_X9_both p0 p1 oY rD dN bD uU gF qF mX oE dY jE eW eY gJ jG qB jK).2.2.2.2 -> Q (F_X9_both p0 p1 oY rD dN bD uU gF qF mX oE dY jE eW eY gJ jG qB jK).1 (F_X9_both p0 p1 oY rD dN bD uU gF qF mX oE dY jE eW eY gJ jG qB jK).2.1 (F_X9_both p0 p1 oY rD dN bD uU gF qF mX oE dY jE eW eY gJ jG qB jK).2.2.1 (F_X9_both p0 p1 oY rD dN bD uU gF qF mX oE dY jE eW eY gJ jG qB jK).2.2.2.1 (F_X9_both p0 p1 oY rD dN bD uU gF qF mX oE dY jE eW eY gJ jG qB jK).2.2.2.2) : wp_X9_both Q p0 p1 oY rD dN bD uU gF qF mX oE dY jE eW eY gJ jG qB jK := dt_X9_both h (fun o eo => by rw [eo]; exact hq)
theorem dw_X9_both {Q : Int32 -> Int32 -> (Nat -> Int32) -> Int32 -> (Nat -> Int32) -> Prop} {p0 p1 oY : Int32} {rD : Nat -> Int32} {dN bD : Int32} {uU gF qF mX oE dY : Nat -> Int32} {jE eW eY gJ jG qB : Int32} {jK : Nat -> Int32} (h : wp_X9_both (fun o0 o1 o2 o3 o4 => (o0, o1, o2, o3, o4) = F_X9_both p0 p1 oY rD dN bD uU gF qF mX oE dY jE eW eY gJ jG qB jK -> Q o0 o1 o2 o3 o4) p0 p1 oY rD dN bD uU gF qF mX oE dY jE eW eY gJ jG qB jK) : wp_X9_both Q p0 p1 oY rD dN bD uU gF qF mX oE dY jE eW eY gJ jG qB jK := dt_X9_both h (fun o eo hp => hp eo)
noncomputable def F_X5_worthLeft (p0 oY : Int32) (rD : Nat -> Int32) (dN bD : Int32) (pL : Nat -> Int32) (dU : Int32) : Int32 := (F_X0_worthOf (oY &&& ((F_X5_reachedBy p0 rD bD) ^^^ (-1))) dN pL dU)
set_option maxHeartbeats 200000 in
set_option maxRecDepth 10000 in
theorem dt_X5_worthLeft {P Q : Int32 -> Prop} {p0 oY : Int32} {rD : Nat -> Int32} {dN bD : Int32} {pL : Nat -> Int32} {dU : Int32} (h : wp_X5_worthLeft P p0 oY rD dN bD pL dU) (hq : ∀ o : Int32, o = F_X5_worthLeft p0 oY rD dN bD pL dU -> P o -> Q o) : wp_X5_worthLeft Q p0 oY rD dN bD pL dU := by
  rw [F_X5_worthLeft] at hq
  refine du_X5_reachedBy h ?_
  intro h
  refine ae ?_
  have h := h _ rfl
  refine du_X0_worthOf h ?_
  intro h
  have q9 := hq _ rfl
  exact q9 h
theorem du_X5_worthLeft {P Q : Int32 -> Prop} {p0 oY : Int32} {rD : Nat -> Int32} {dN bD : Int32} {pL : Nat -> Int32} {dU : Int32} (h : wp_X5_worthLeft P p0 oY rD dN bD pL dU) (hq : P (F_X5_worthLeft p0 oY rD dN bD pL dU) -> Q (F_X5_worthLeft p0 oY rD dN bD pL dU)) : wp_X5_worthLeft Q p0 oY rD dN bD pL dU := dt_X5_worthLeft h (fun o eo => by rw [eo]; exact hq)
noncomputable def F_X3_areStandings (p0 bD : Int32) : Int32 := if (p0 &&& ((F_X3_allStandings bD) ^^^ (-1))) = 0 then 1 else 0
set_option maxHeartbeats 200000 in
set_option maxRecDepth 10000 in
theorem dt_X3_areStandings {P Q : Int32 -> Prop} {p0 bD : Int32} (h : wp_X3_areStandings P p0 bD) (hq : ∀ o : Int32, o = F_X3_areStandings p0 bD -> P o -> Q o) : wp_X3_areStandings Q p0 bD := by
  rw [F_X3_areStandings] at hq
  refine du_X3_allStandings h ?_
  intro h
  refine And.intro (fun c1 => ?_) (fun c1 => ?_)
  · have h := And.left h c1
    rw [if_neg c1] at hq
    have q9 := hq _ rfl
    exact q9 h
  · have h := And.right h c1
    rw [if_pos c1] at hq
    have q9 := hq _ rfl
    exact q9 h
theorem du_X3_areStandings {P Q : Int32 -> Prop} {p0 bD : Int32} (h : wp_X3_areStandings P p0 bD) (hq : P (F_X3_areStandings p0 bD) -> Q (F_X3_areStandings p0 bD)) : wp_X3_areStandings Q p0 bD := dt_X3_areStandings h (fun o eo => by rw [eo]; exact hq)
noncomputable def j_X9_next_80 {R : Type} (k28 : Int32 -> Int32 -> Int32 -> Int32 -> Int32 -> (Nat -> Int32) -> Int32 -> (Nat -> Int32) -> R) (dN bD : Int32) (uU gF pL qF mX oE dY : Nat -> Int32) (jE eW eY dU gJ jG x1 x2 x3 x4 oY : Int32) (rD : Nat -> Int32) (qB : Int32) (jK : Nat -> Int32) : R := k28 x1 x2 x3 (x4 + 1) oY rD qB jK
noncomputable def j_X9_next_74 {R : Type} (k28 : Int32 -> Int32 -> Int32 -> Int32 -> Int32 -> (Nat -> Int32) -> Int32 -> (Nat -> Int32) -> R) (dN bD : Int32) (uU gF pL qF mX oE dY : Nat -> Int32) (jE eW eY dU gJ jG x1 x4 x5 oY : Int32) (rD : Nat -> Int32) (qB : Int32) (jK : Nat -> Int32) : R := j_X9_next_80 k28 dN bD uU gF pL qF mX oE dY jE eW eY dU gJ jG x1 x4 x5 x4 oY rD qB jK
noncomputable def bd_X9_next_28 (dN bD : Int32) (uU gF pL qF mX oE dY : Nat -> Int32) (jE eW eY dU gJ jG x1 oY : Int32) (rD : Nat -> Int32) (qB : Int32) (jK : Nat -> Int32) (c : Int32) (s : Int32 × Int32) : Int32 × Int32 := if ((x1 >>> (c &&& 31)) &&& 1) = 0 then (if s.1 < 0 then (j_X9_next_74 (fun q0 q1 q2 q3 q4 q5 q6 q7 => (q1, q2)) dN bD uU gF pL qF mX oE dY jE eW eY dU gJ jG x1 c (F_X5_worthLeft (x1 ||| (1 <<< (c &&& 31))) oY rD dN bD pL dU) oY rD qB jK) else (if s.2 <= (F_X5_worthLeft (x1 ||| (1 <<< (c &&& 31))) oY rD dN bD pL dU) then (j_X9_next_80 (fun q0 q1 q2 q3 q4 q5 q6 q7 => (q1, q2)) dN bD uU gF pL qF mX oE dY jE eW eY dU gJ jG x1 s.1 s.2 c oY rD qB jK) else (j_X9_next_74 (fun q0 q1 q2 q3 q4 q5 q6 q7 => (q1, q2)) dN bD uU gF pL qF mX oE dY jE eW eY dU gJ jG x1 c (F_X5_worthLeft (x1 ||| (1 <<< (c &&& 31))) oY rD dN bD pL dU) oY rD qB jK))) else (j_X9_next_80 (fun q0 q1 q2 q3 q4 q5 q6 q7 => (q1, q2)) dN bD uU gF pL qF mX oE dY jE eW eY dU gJ jG x1 s.1 s.2 c oY rD qB jK)
noncomputable def ex_X9_next_28 {R : Type} (po : Int32 -> Int32 -> (Nat -> Int32) -> Int32 -> (Nat -> Int32) -> R) (dN bD : Int32) (uU gF pL qF mX oE dY : Nat -> Int32) (jE eW eY dU gJ jG x1 oY : Int32) (rD : Nat -> Int32) (qB : Int32) (jK : Nat -> Int32) (c : Int32) (s : Int32 × Int32) : R := if s.1 < 0 then (po s.1 oY rD qB jK) else (po s.1 oY rD ((F_X9_tell_ s.2 (F_X5_worthLeft x1 oY rD dN bD pL dU) qB jK).1) ((F_X9_tell_ s.2 (F_X5_worthLeft x1 oY rD dN bD pL dU) qB jK).2))
set_option maxHeartbeats 200000 in
set_option maxRecDepth 10000 in
theorem dl_X9_next_28 {P Q : Int32 -> Int32 -> (Nat -> Int32) -> Int32 -> (Nat -> Int32) -> Prop} {dN bD : Int32} {uU gF pL qF mX oE dY : Nat -> Int32} {jE eW eY dU gJ jG x1 oY : Int32} {rD : Nat -> Int32} {qB : Int32} {jK : Nat -> Int32} {a : Int32 × Int32} {i : Nat} (hi0 : i < 2147483648) (hE : ∀ (c : Int32) (s : Int32 × Int32), c = nI (i + (Int32.toInt bD - ((i : Nat) : Int)).toNat) -> s = itr (bd_X9_next_28 dN bD uU gF pL qF mX oE dY jE eW eY dU gJ jG x1 oY rD qB jK) a i (Int32.toInt bD - ((i : Nat) : Int)).toNat -> ((s.1 < 0 -> P s.1 oY rD qB jK) /\ (¬ s.1 < 0 -> wp_X5_worthLeft (fun r_4 => aPf (fun ro_size_5 ro_numbers_6 => P s.1 oY rD ro_size_5 ro_numbers_6) s.2 r_4 qB jK) x1 oY rD dN bD pL dU)) -> ((s.1 < 0 -> Q s.1 oY rD qB jK) /\ (¬ s.1 < 0 -> wp_X5_worthLeft (fun r_4 => aPf (fun ro_size_5 ro_numbers_6 => Q s.1 oY rD ro_size_5 ro_numbers_6) s.2 r_4 qB jK) x1 oY rD dN bD pL dU))) : ∀ (n k : Nat) (c : Int32), c = nI (i + k) -> k <= (Int32.toInt bD - ((i : Nat) : Int)).toNat -> wb_X9_next_28 P dN bD uU gF pL qF mX oE dY jE eW eY dU gJ jG n x1 (itr (bd_X9_next_28 dN bD uU gF pL qF mX oE dY jE eW eY dU gJ jG x1 oY rD qB jK) a i k).1 (itr (bd_X9_next_28 dN bD uU gF pL qF mX oE dY jE eW eY dU gJ jG x1 oY rD qB jK) a i k).2 c oY rD qB jK -> wb_X9_next_28 Q dN bD uU gF pL qF mX oE dY jE eW eY dU gJ jG n x1 (itr (bd_X9_next_28 dN bD uU gF pL qF mX oE dY jE eW eY dU gJ jG x1 oY rD qB jK) a i k).1 (itr (bd_X9_next_28 dN bD uU gF pL qF mX oE dY jE eW eY dU gJ jG x1 oY rD qB jK) a i k).2 c oY rD qB jK := by
  intro n
  induction n with
  | zero => intro k c hc hk h; exact False.elim h
  | succ n ih =>
    intro k c hc hk h
    have hr := aAT bD
    have hi : Int32.toInt c = ((i + k : Nat) : Int) := by rw [hc]; exact nI_toInt (by omega)
    refine And.intro (fun t0 => ?_) (fun t0 => ?_)
    · have h := And.left h t0
      have t1 := (aAO _ _).mp t0
      have hk2 : k = (Int32.toInt bD - ((i : Nat) : Int)).toNat := by omega
      subst hk2
      exact hE _ _ hc rfl h
    · have h := And.right h t0
      have t1 := mt (aAO _ _).mpr t0
      have hs : ∀ o : Int32 × Int32, o = itr (bd_X9_next_28 dN bD uU gF pL qF mX oE dY jE eW eY dU gJ jG x1 oY rD qB jK) a i (k + 1) -> wb_X9_next_28 P dN bD uU gF pL qF mX oE dY jE eW eY dU gJ jG n x1 o.1 o.2 (c + 1) oY rD qB jK -> wb_X9_next_28 Q dN bD uU gF pL qF mX oE dY jE eW eY dU gJ jG n x1 o.1 o.2 (c + 1) oY rD qB jK := by
        intro o eo h9
        have q := ih (k + 1) (c + 1) (by rw [hc]; exact nI_1 _) (by omega)
        rw [<- eo] at q
        exact q h9
      rw [itr_s, <- hc, bd_X9_next_28] at hs
      refine ae ?_
      have h := h _ rfl
      refine And.intro (fun c1 => ?_) (fun c1 => ?_)
      · have h := And.left h c1
        rw [if_neg c1] at hs
        rw [j_X9_next_80] at hs
        unfold ws_X9_next_80 at h ⊢
        refine ae ?_
        have h := h _ rfl
        have q9 := hs _ rfl
        dsimp only at q9
        exact q9 h
      · have h := And.right h c1
        rw [if_pos c1] at hs
        refine ae ?_
        have h := h _ rfl
        refine du_X5_worthLeft h ?_
        intro h
        refine And.intro (fun c2 => ?_) (fun c2 => ?_)
        · have h := And.left h c2
          rw [if_pos c2] at hs
          rw [j_X9_next_74] at hs
          unfold ws_X9_next_74 at h ⊢
          rw [j_X9_next_80] at hs
          unfold ws_X9_next_80 at h ⊢
          refine ae ?_
          have h := h _ rfl
          have q9 := hs _ rfl
          dsimp only at q9
          exact q9 h
        · have h := And.right h c2
          rw [if_neg c2] at hs
          refine And.intro (fun c3 => ?_) (fun c3 => ?_)
          · have h := And.left h c3
            rw [if_pos c3] at hs
            rw [j_X9_next_80] at hs
            unfold ws_X9_next_80 at h ⊢
            refine ae ?_
            have h := h _ rfl
            have q9 := hs _ rfl
            dsimp only at q9
            exact q9 h
          · have h := And.right h c3
            rw [if_neg c3] at hs
            rw [j_X9_next_74] at hs
            unfold ws_X9_next_74 at h ⊢
            rw [j_X9_next_80] at hs
            unfold ws_X9_next_80 at h ⊢
            refine ae ?_
            have h := h _ rfl
            have q9 := hs _ rfl
            dsimp only at q9
            exact q9 h
noncomputable def F_X9_next (p0 oY : Int32) (rD : Nat -> Int32) (dN bD : Int32) (uU gF pL qF mX oE dY : Nat -> Int32) (jE eW eY dU gJ jG qB : Int32) (jK : Nat -> Int32) : Int32 × Int32 × (Nat -> Int32) × Int32 × (Nat -> Int32) := if (F_X3_areStandings p0 bD) = 0 then ((-1), oY, rD, qB, jK) else (ex_X9_next_28 (fun o0 o1 o2 o3 o4 => (o0, o1, o2, o3, o4)) dN bD uU gF pL qF mX oE dY jE eW eY dU gJ jG p0 ((F_X5_look oY rD dN bD uU gF qF mX oE dY jE eW eY gJ jG).1) ((F_X5_look oY rD dN bD uU gF qF mX oE dY jE eW eY gJ jG).2) qB jK (nI (0 + (Int32.toInt bD - ((0 : Nat) : Int)).toNat)) (itr (bd_X9_next_28 dN bD uU gF pL qF mX oE dY jE eW eY dU gJ jG p0 ((F_X5_look oY rD dN bD uU gF qF mX oE dY jE eW eY gJ jG).1) ((F_X5_look oY rD dN bD uU gF qF mX oE dY jE eW eY gJ jG).2) qB jK) ((-2), 0) 0 (Int32.toInt bD - ((0 : Nat) : Int)).toNat))
set_option maxHeartbeats 200000 in
set_option maxRecDepth 10000 in
theorem dt_X9_next {P Q : Int32 -> Int32 -> (Nat -> Int32) -> Int32 -> (Nat -> Int32) -> Prop} {p0 oY : Int32} {rD : Nat -> Int32} {dN bD : Int32} {uU gF pL qF mX oE dY : Nat -> Int32} {jE eW eY dU gJ jG qB : Int32} {jK : Nat -> Int32} (h : wp_X9_next P p0 oY rD dN bD uU gF pL qF mX oE dY jE eW eY dU gJ jG qB jK) (hq : ∀ o : Int32 × Int32 × (Nat -> Int32) × Int32 × (Nat -> Int32), o = F_X9_next p0 oY rD dN bD uU gF pL qF mX oE dY jE eW eY dU gJ jG qB jK -> P o.1 o.2.1 o.2.2.1 o.2.2.2.1 o.2.2.2.2 -> Q o.1 o.2.1 o.2.2.1 o.2.2.2.1 o.2.2.2.2) : wp_X9_next Q p0 oY rD dN bD uU gF pL qF mX oE dY jE eW eY dU gJ jG qB jK := by
  rw [F_X9_next] at hq
  refine du_X3_areStandings h ?_
  intro h
  refine And.intro (fun c1 => ?_) (fun c1 => ?_)
  · have h := And.left h c1
    rw [if_neg c1] at hq
    refine du_X5_look h ?_
    intro h
    obtain ⟨n2, h⟩ := h
    refine ⟨n2, dl_X9_next_28 (a := ((-2), 0)) (i := 0) (by decide) ?_ n2 0 0 (by decide) (Nat.zero_le _) h⟩
    intro cc3 s4 ec5 es6 h
    rw [<- ec5, <- es6, ex_X9_next_28] at hq
    refine And.intro (fun c7 => ?_) (fun c7 => ?_)
    · have h := And.left h c7
      rw [if_pos c7] at hq
      have q9 := hq _ rfl
      dsimp only at q9
      exact q9 h
    · have h := And.right h c7
      rw [if_neg c7] at hq
      refine du_X5_worthLeft h ?_
      intro h
      refine du_X9_tell_ h ?_
      intro h
      have q9 := hq _ rfl
      dsimp only at q9
      exact q9 h
  · have h := And.right h c1
    rw [if_pos c1] at hq
    have q9 := hq _ rfl
    dsimp only at q9
    exact q9 h
theorem du_X9_next {P Q : Int32 -> Int32 -> (Nat -> Int32) -> Int32 -> (Nat -> Int32) -> Prop} {p0 oY : Int32} {rD : Nat -> Int32} {dN bD : Int32} {uU gF pL qF mX oE dY : Nat -> Int32} {jE eW eY dU gJ jG qB : Int32} {jK : Nat -> Int32} (h : wp_X9_next P p0 oY rD dN bD uU gF pL qF mX oE dY jE eW eY dU gJ jG qB jK) (hq : P (F_X9_next p0 oY rD dN bD uU gF pL qF mX oE dY jE eW eY dU gJ jG qB jK).1 (F_X9_next p0 oY rD dN bD uU gF pL qF mX oE dY jE eW eY dU gJ jG qB jK).2.1 (F_X9_next p0 oY rD dN bD uU gF pL qF mX oE dY jE eW eY dU gJ jG qB jK).2.2.1 (F_X9_next p0 oY rD dN bD uU gF pL qF mX oE dY jE eW eY dU gJ jG qB jK).2.2.2.1 (F_X9_next p0 oY rD dN bD uU gF pL qF mX oE dY jE eW eY dU gJ jG qB jK).2.2.2.2 -> Q (F_X9_next p0 oY rD dN bD uU gF pL qF mX oE dY jE eW eY dU gJ jG qB jK).1 (F_X9_next p0 oY rD dN bD uU gF pL qF mX oE dY jE eW eY dU gJ jG qB jK).2.1 (F_X9_next p0 oY rD dN bD uU gF pL qF mX oE dY jE eW eY dU gJ jG qB jK).2.2.1 (F_X9_next p0 oY rD dN bD uU gF pL qF mX oE dY jE eW eY dU gJ jG qB jK).2.2.2.1 (F_X9_next p0 oY rD dN bD uU gF pL qF mX oE dY jE eW eY dU gJ jG qB jK).2.2.2.2) : wp_X9_next Q p0 oY rD dN bD uU gF pL qF mX oE dY jE eW eY dU gJ jG qB jK := dt_X9_next h (fun o eo => by rw [eo]; exact hq)
theorem dw_X9_next {Q : Int32 -> Int32 -> (Nat -> Int32) -> Int32 -> (Nat -> Int32) -> Prop} {p0 oY : Int32} {rD : Nat -> Int32} {dN bD : Int32} {uU gF pL qF mX oE dY : Nat -> Int32} {jE eW eY dU gJ jG qB : Int32} {jK : Nat -> Int32} (h : wp_X9_next (fun o0 o1 o2 o3 o4 => (o0, o1, o2, o3, o4) = F_X9_next p0 oY rD dN bD uU gF pL qF mX oE dY jE eW eY dU gJ jG qB jK -> Q o0 o1 o2 o3 o4) p0 oY rD dN bD uU gF pL qF mX oE dY jE eW eY dU gJ jG qB jK) : wp_X9_next Q p0 oY rD dN bD uU gF pL qF mX oE dY jE eW eY dU gJ jG qB jK := dt_X9_next h (fun o eo hp => hp eo)
noncomputable def F_X0_withoutLadder (p0 fY : Int32) : Int32 := if fY = (-1) then p0 else (p0 &&& ((1 <<< (fY &&& 31)) ^^^ (-1)))
set_option maxHeartbeats 200000 in
set_option maxRecDepth 10000 in
theorem dt_X0_withoutLadder {P Q : Int32 -> Prop} {p0 fY : Int32} (h : wp_X0_withoutLadder P p0 fY) (hq : ∀ o : Int32, o = F_X0_withoutLadder p0 fY -> P o -> Q o) : wp_X0_withoutLadder Q p0 fY := by
  rw [F_X0_withoutLadder] at hq
  refine And.intro (fun c1 => ?_) (fun c1 => ?_)
  · have h := And.left h c1
    rw [if_neg c1] at hq
    refine ae ?_
    have h := h _ rfl
    have q9 := hq _ rfl
    exact q9 h
  · have h := And.right h c1
    rw [if_pos c1] at hq
    have q9 := hq _ rfl
    exact q9 h
theorem du_X0_withoutLadder {P Q : Int32 -> Prop} {p0 fY : Int32} (h : wp_X0_withoutLadder P p0 fY) (hq : P (F_X0_withoutLadder p0 fY) -> Q (F_X0_withoutLadder p0 fY)) : wp_X0_withoutLadder Q p0 fY := dt_X0_withoutLadder h (fun o eo => by rw [eo]; exact hq)
noncomputable def j_X3_waySeconds_67 {R : Type} (k21 : Int32 -> Int32 -> Int32 -> Int32 -> Int32 -> Int32 -> R) (bD : Int32) (mX dY : Nat -> Int32) (x1 x2 x3 x4 x5 x6 : Int32) : R := k21 x1 x2 x3 x4 x5 (x6 + 1)
noncomputable def bd_X3_waySeconds_21 (bD : Int32) (mX dY : Nat -> Int32) (x1 x2 x3 c : Int32) (s : Int32 × Int32) : Int32 × Int32 := if ((x2 >>> (c &&& 31)) &&& 1) = 0 then (j_X3_waySeconds_67 (fun q0 q1 q2 q3 q4 q5 => (q3, q4)) bD mX dY x1 x2 x3 s.1 s.2 c) else (j_X3_waySeconds_67 (fun q0 q1 q2 q3 q4 q5 => (q3, q4)) bD mX dY x1 x2 x3 (if (mX c.toNatClampNeg) < s.1 then (mX c.toNatClampNeg) else s.1) (if s.2 < (mX c.toNatClampNeg) then (mX c.toNatClampNeg) else s.2) c)
noncomputable def j_X3_waySeconds_117 {R : Type} (po : Int32 -> R) (bD : Int32) (mX dY : Nat -> Int32) (x3 x6 : Int32) : R := po ((9 * x3) + ((dY (3 : Int32).toNatClampNeg) * x6))
noncomputable def ex_X3_waySeconds_21 {R : Type} (po : Int32 -> R) (bD : Int32) (mX dY : Nat -> Int32) (x1 x2 x3 c : Int32) (s : Int32 × Int32) : R := if x1 = (-1) then (j_X3_waySeconds_117 po bD mX dY x3 (s.2 - s.1)) else (j_X3_waySeconds_117 po bD mX dY x3 ((s.2 - s.1) + (if (if 0 <= ((mX x1.toNatClampNeg) - s.2) then ((mX x1.toNatClampNeg) - s.2) else 0 - ((mX x1.toNatClampNeg) - s.2)) < (if 0 <= ((mX x1.toNatClampNeg) - s.1) then ((mX x1.toNatClampNeg) - s.1) else 0 - ((mX x1.toNatClampNeg) - s.1)) then (if 0 <= ((mX x1.toNatClampNeg) - s.2) then ((mX x1.toNatClampNeg) - s.2) else 0 - ((mX x1.toNatClampNeg) - s.2)) else (if 0 <= ((mX x1.toNatClampNeg) - s.1) then ((mX x1.toNatClampNeg) - s.1) else 0 - ((mX x1.toNatClampNeg) - s.1)))))
set_option maxHeartbeats 200000 in
set_option maxRecDepth 10000 in
theorem dl_X3_waySeconds_21 {P Q : Int32 -> Prop} {bD : Int32} {mX dY : Nat -> Int32} {x1 x2 x3 : Int32} {a : Int32 × Int32} {i : Nat} (hi0 : i < 2147483648) (hE : ∀ (c : Int32) (s : Int32 × Int32), c = nI (i + (Int32.toInt bD - ((i : Nat) : Int)).toNat) -> s = itr (bd_X3_waySeconds_21 bD mX dY x1 x2 x3) a i (Int32.toInt bD - ((i : Nat) : Int)).toNat -> (∀ v_2 : Int32, v_2 = s.2 - s.1 -> (x1 = (-1) -> ws_X3_waySeconds_117 P bD mX dY x3 v_2) /\ (¬ x1 = (-1) -> vp_in x1 8 /\ (∀ v_5 : Int32, v_5 = mX x1.toNatClampNeg -> ∀ v_6 : Int32, v_6 = v_5 - s.1 -> ∀ v_7 : Int32, v_7 = (if 0 <= v_6 then v_6 else 0 - v_6) -> vp_in x1 8 /\ (∀ v_8 : Int32, v_8 = mX x1.toNatClampNeg -> ∀ v_9 : Int32, v_9 = v_8 - s.2 -> ∀ aEr : Int32, aEr = (if 0 <= v_9 then v_9 else 0 - v_9) -> ∀ aGH : Int32, aGH = (if aEr < v_7 then aEr else v_7) -> ∀ aEp : Int32, aEp = v_2 + aGH -> ws_X3_waySeconds_117 P bD mX dY x3 aEp)))) -> (∀ v_2 : Int32, v_2 = s.2 - s.1 -> (x1 = (-1) -> ws_X3_waySeconds_117 Q bD mX dY x3 v_2) /\ (¬ x1 = (-1) -> vp_in x1 8 /\ (∀ v_5 : Int32, v_5 = mX x1.toNatClampNeg -> ∀ v_6 : Int32, v_6 = v_5 - s.1 -> ∀ v_7 : Int32, v_7 = (if 0 <= v_6 then v_6 else 0 - v_6) -> vp_in x1 8 /\ (∀ v_8 : Int32, v_8 = mX x1.toNatClampNeg -> ∀ v_9 : Int32, v_9 = v_8 - s.2 -> ∀ aEr : Int32, aEr = (if 0 <= v_9 then v_9 else 0 - v_9) -> ∀ aGH : Int32, aGH = (if aEr < v_7 then aEr else v_7) -> ∀ aEp : Int32, aEp = v_2 + aGH -> ws_X3_waySeconds_117 Q bD mX dY x3 aEp))))) : ∀ (n k : Nat) (c : Int32), c = nI (i + k) -> k <= (Int32.toInt bD - ((i : Nat) : Int)).toNat -> wb_X3_waySeconds_21 P bD mX dY n x1 x2 x3 (itr (bd_X3_waySeconds_21 bD mX dY x1 x2 x3) a i k).1 (itr (bd_X3_waySeconds_21 bD mX dY x1 x2 x3) a i k).2 c -> wb_X3_waySeconds_21 Q bD mX dY n x1 x2 x3 (itr (bd_X3_waySeconds_21 bD mX dY x1 x2 x3) a i k).1 (itr (bd_X3_waySeconds_21 bD mX dY x1 x2 x3) a i k).2 c := by
  intro n
  induction n with
  | zero => intro k c hc hk h; exact False.elim h
  | succ n ih =>
    intro k c hc hk h
    have hr := aAT bD
    have hi : Int32.toInt c = ((i + k : Nat) : Int) := by rw [hc]; exact nI_toInt (by omega)
    refine And.intro (fun t0 => ?_) (fun t0 => ?_)
    · have h := And.left h t0
      have t1 := (aAO _ _).mp t0
      have hk2 : k = (Int32.toInt bD - ((i : Nat) : Int)).toNat := by omega
      subst hk2
      exact hE _ _ hc rfl h
    · have h := And.right h t0
      have t1 := mt (aAO _ _).mpr t0
      have hs : ∀ o : Int32 × Int32, o = itr (bd_X3_waySeconds_21 bD mX dY x1 x2 x3) a i (k + 1) -> wb_X3_waySeconds_21 P bD mX dY n x1 x2 x3 o.1 o.2 (c + 1) -> wb_X3_waySeconds_21 Q bD mX dY n x1 x2 x3 o.1 o.2 (c + 1) := by
        intro o eo h9
        have q := ih (k + 1) (c + 1) (by rw [hc]; exact nI_1 _) (by omega)
        rw [<- eo] at q
        exact q h9
      rw [itr_s, <- hc, bd_X3_waySeconds_21] at hs
      refine ae ?_
      have h := h _ rfl
      refine And.intro (fun c1 => ?_) (fun c1 => ?_)
      · have h := And.left h c1
        rw [if_pos c1] at hs
        rw [j_X3_waySeconds_67] at hs
        unfold ws_X3_waySeconds_67 at h ⊢
        refine ae ?_
        have h := h _ rfl
        have q9 := hs _ rfl
        dsimp only at q9
        exact q9 h
      · have h := And.right h c1
        rw [if_neg c1] at hs
        refine And.intro (And.left h) ?_
        have h := And.right h
        refine ae ?_
        have h := h _ rfl
        refine ae ?_
        have h := h _ rfl
        refine And.intro (And.left h) ?_
        have h := And.right h
        refine ae ?_
        have h := h _ rfl
        refine ae ?_
        have h := h _ rfl
        rw [j_X3_waySeconds_67] at hs
        unfold ws_X3_waySeconds_67 at h ⊢
        refine ae ?_
        have h := h _ rfl
        have q9 := hs _ rfl
        dsimp only at q9
        exact q9 h
noncomputable def F_X3_waySeconds (p0 p1 bD : Int32) (mX dY : Nat -> Int32) : Int32 := if (aLS p1) = 0 then 0 else (ex_X3_waySeconds_21 (fun o0 => o0) bD mX dY p0 p1 (aLS p1) (nI (0 + (Int32.toInt bD - ((0 : Nat) : Int)).toNat)) (itr (bd_X3_waySeconds_21 bD mX dY p0 p1 (aLS p1)) (99, 0) 0 (Int32.toInt bD - ((0 : Nat) : Int)).toNat))
set_option maxHeartbeats 200000 in
set_option maxRecDepth 10000 in
theorem dt_X3_waySeconds {P Q : Int32 -> Prop} {p0 p1 bD : Int32} {mX dY : Nat -> Int32} (h : wp_X3_waySeconds P p0 p1 bD mX dY) (hq : ∀ o : Int32, o = F_X3_waySeconds p0 p1 bD mX dY -> P o -> Q o) : wp_X3_waySeconds Q p0 p1 bD mX dY := by
  rw [F_X3_waySeconds] at hq
  refine du_J6_bitCount_0f7a4 h ?_
  intro h
  refine And.intro (fun c1 => ?_) (fun c1 => ?_)
  · have h := And.left h c1
    rw [if_neg c1] at hq
    obtain ⟨n2, h⟩ := h
    refine ⟨n2, dl_X3_waySeconds_21 (a := (99, 0)) (i := 0) (by decide) ?_ n2 0 0 (by decide) (Nat.zero_le _) h⟩
    intro cc3 s4 ec5 es6 h
    rw [<- ec5, <- es6, ex_X3_waySeconds_21] at hq
    refine ae ?_
    have h := h _ rfl
    refine And.intro (fun c7 => ?_) (fun c7 => ?_)
    · have h := And.left h c7
      rw [if_pos c7] at hq
      rw [j_X3_waySeconds_117] at hq
      unfold ws_X3_waySeconds_117 at h ⊢
      refine ae ?_
      have h := h _ rfl
      refine ae ?_
      have h := h _ rfl
      have q9 := hq _ rfl
      exact q9 h
    · have h := And.right h c7
      rw [if_neg c7] at hq
      refine And.intro (And.left h) ?_
      have h := And.right h
      refine ae ?_
      have h := h _ rfl
      refine ae ?_
      have h := h _ rfl
      refine ae ?_
      have h := h _ rfl
      refine And.intro (And.left h) ?_
      have h := And.right h
      refine ae ?_
      have h := h _ rfl
      refine ae ?_
      have h := h _ rfl
      refine ae ?_
      have h := h _ rfl
      refine ae ?_
      have h := h _ rfl
      refine ae ?_
      have h := h _ rfl
      rw [j_X3_waySeconds_117] at hq
      unfold ws_X3_waySeconds_117 at h ⊢
      refine ae ?_
      have h := h _ rfl
      refine ae ?_
      have h := h _ rfl
      have q9 := hq _ rfl
      exact q9 h
  · have h := And.right h c1
    rw [if_pos c1] at hq
    have q9 := hq _ rfl
    exact q9 h
theorem du_X3_waySeconds {P Q : Int32 -> Prop} {p0 p1 bD : Int32} {mX dY : Nat -> Int32} (h : wp_X3_waySeconds P p0 p1 bD mX dY) (hq : P (F_X3_waySeconds p0 p1 bD mX dY) -> Q (F_X3_waySeconds p0 p1 bD mX dY)) : wp_X3_waySeconds Q p0 p1 bD mX dY := dt_X3_waySeconds h (fun o eo => by rw [eo]; exact hq)
noncomputable def j_X3_firstOfWay_50 {R : Type} (k3 : Int32 -> Int32 -> Int32 -> Int32 -> R) (bD : Int32) (mX dY : Nat -> Int32) (x1 x2 x3 x4 : Int32) : R := k3 x1 x2 x3 (x4 + 1)
noncomputable def fs_X3_firstOfWay_3 {R : Type} (po : Int32 -> R) (bD : Int32) (mX dY : Nat -> Int32) (nx : Int32 -> Int32 -> Int32 -> Int32 -> R) (x1 x2 x3 x4 : Int32) : R := if bD <= x4 then (po (-1)) else (if ((x2 >>> (x4 &&& 31)) &&& 1) = 0 then (j_X3_firstOfWay_50 nx bD mX dY x1 x2 x3 x4) else (if ((F_X3_moveSeconds x1 x4 mX dY) + (F_X3_waySeconds x4 (x2 &&& ((1 <<< (x4 &&& 31)) ^^^ (-1))) bD mX dY)) = x3 then (po x4) else (j_X3_firstOfWay_50 nx bD mX dY x1 x2 x3 x4)))
set_option maxHeartbeats 200000 in
set_option maxRecDepth 10000 in
theorem dl_X3_firstOfWay_3 {P Q : Int32 -> Prop} {bD : Int32} {mX dY : Nat -> Int32} {R : Type} {po : Int32 -> R} {d : Int32 -> Int32 -> Int32 -> Int32 -> R} : ∀ (n m : Nat) (x1 x2 x3 x4 : Int32), 0 <= Int32.toInt x4 /\ Int32.toInt x4 <= 8 /\ Int32.toInt bD <= 8 -> 8 - Int32.toInt x4 < (m : Int) -> wb_X3_firstOfWay_3 P bD mX dY n x1 x2 x3 x4 -> (∀ (b0 : Int32), po b0 = flp (fs_X3_firstOfWay_3 po bD mX dY) d m x1 x2 x3 x4 -> P b0 -> Q b0) -> wb_X3_firstOfWay_3 Q bD mX dY n x1 x2 x3 x4 := by
  have l1 : Int32.toInt (1 : Int32) = 1 := by decide
  intro n
  induction n with
  | zero => intro m x1 x2 x3 x4 hv hm h hq; exact False.elim h
  | succ n ih =>
    intro m x1 x2 x3 x4 hv hm h hq
    cases m with
    | zero => exfalso; omega
    | succ m =>
      rw [flp_s, fs_X3_firstOfWay_3] at hq
      have h : ws_X3_firstOfWay_3 P (wb_X3_firstOfWay_3 P bD mX dY n) bD mX dY x1 x2 x3 x4 := h
      show ws_X3_firstOfWay_3 Q (wb_X3_firstOfWay_3 Q bD mX dY n) bD mX dY x1 x2 x3 x4
      unfold ws_X3_firstOfWay_3 at h ⊢
      refine And.intro (fun c1 => ?_) (fun c1 => ?_)
      · have h := And.left h c1
        rw [if_pos c1] at hq
        have dc1 := (aAO _ _).mp c1
        exact hq _ rfl h
      · have h := And.right h c1
        rw [if_neg c1] at hq
        have dc1 := mt (aAO _ _).mpr c1
        refine ae ?_
        have h := h _ rfl
        refine And.intro (fun c2 => ?_) (fun c2 => ?_)
        · have h := And.left h c2
          rw [if_pos c2] at hq
          have dc2 := (zJ _ _).mp c2
          rw [j_X3_firstOfWay_50] at hq
          unfold ws_X3_firstOfWay_50 at h ⊢
          refine ae ?_
          have h := h _ rfl
          have f9 := aAD x4 1 (by omega)
          exact ih m _ _ _ _ (by omega) (by omega) h hq
        · have h := And.right h c2
          rw [if_neg c2] at hq
          have dc2 := mt (zJ _ _).mpr c2
          refine du_X3_moveSeconds h ?_
          intro h
          refine ae ?_
          have h := h _ rfl
          refine ae ?_
          have h := h _ rfl
          refine du_X3_waySeconds h ?_
          intro h
          refine ae ?_
          have h := h _ rfl
          refine And.intro (fun c3 => ?_) (fun c3 => ?_)
          · have h := And.left h c3
            rw [if_neg c3] at hq
            have dc3 := mt (zJ _ _).mpr c3
            rw [j_X3_firstOfWay_50] at hq
            unfold ws_X3_firstOfWay_50 at h ⊢
            refine ae ?_
            have h := h _ rfl
            have f9 := aAD x4 1 (by omega)
            exact ih m _ _ _ _ (by omega) (by omega) h hq
          · have h := And.right h c3
            rw [if_pos c3] at hq
            have dc3 := (zJ _ _).mp c3
            exact hq _ rfl h
noncomputable def F_X3_firstOfWay (p0 p1 p2 bD : Int32) (mX dY : Nat -> Int32) : Int32 := flp (fs_X3_firstOfWay_3 (fun o0 => o0) bD mX dY) (fun _ _ _ _ => 0) 9 p0 p1 p2 0
set_option maxHeartbeats 200000 in
set_option maxRecDepth 10000 in
theorem dt_X3_firstOfWay {P Q : Int32 -> Prop} {p0 p1 p2 bD : Int32} {mX dY : Nat -> Int32} (hy0 : Int32.toInt bD <= 8) (h : wp_X3_firstOfWay P p0 p1 p2 bD mX dY) (hq : ∀ o : Int32, o = F_X3_firstOfWay p0 p1 p2 bD mX dY -> P o -> Q o) : wp_X3_firstOfWay Q p0 p1 p2 bD mX dY := by
  rw [F_X3_firstOfWay] at hq
  obtain ⟨n1, h⟩ := h
  exact ⟨n1, dl_X3_firstOfWay_3 n1 9 _ _ _ _ ⟨by decide, by decide, hy0⟩ (by decide) h (fun b0 e9 h9 => hq b0 e9 h9)⟩
theorem du_X3_firstOfWay {P Q : Int32 -> Prop} {p0 p1 p2 bD : Int32} {mX dY : Nat -> Int32} (hy0 : Int32.toInt bD <= 8) (h : wp_X3_firstOfWay P p0 p1 p2 bD mX dY) (hq : P (F_X3_firstOfWay p0 p1 p2 bD mX dY) -> Q (F_X3_firstOfWay p0 p1 p2 bD mX dY)) : wp_X3_firstOfWay Q p0 p1 p2 bD mX dY := dt_X3_firstOfWay hy0 h (fun o eo => by rw [eo]; exact hq)
noncomputable def fs_X9_route_55 {R : Type} (po : Int32 -> Int32 -> (Nat -> Int32) -> R) (bD : Int32) (mX dY : Nat -> Int32) (fY : Int32) (nx : Int32 -> Int32 -> Int32 -> Int32 -> Int32 -> Int32 -> (Nat -> Int32) -> R) (x2 x3 x4 x5 x6 qB : Int32) (jK : Nat -> Int32) : R := if 8 <= x6 then (po x4 qB jK) else (if x2 = 0 then (po x4 qB jK) else (if (F_X3_firstOfWay x3 x2 x5 bD mX dY) = (-1) then (po x4 qB jK) else (nx (x2 &&& ((1 <<< ((F_X3_firstOfWay x3 x2 x5 bD mX dY) &&& 31)) ^^^ (-1))) (F_X3_firstOfWay x3 x2 x5 bD mX dY) x4 (x5 - (F_X3_moveSeconds x3 (F_X3_firstOfWay x3 x2 x5 bD mX dY) mX dY)) (x6 + 1) ((F_X6_add (F_X3_firstOfWay x3 x2 x5 bD mX dY) qB jK).1) ((F_X6_add (F_X3_firstOfWay x3 x2 x5 bD mX dY) qB jK).2))))
set_option maxHeartbeats 200000 in
set_option maxRecDepth 10000 in
theorem dl_X9_route_55 {P Q : Int32 -> Int32 -> (Nat -> Int32) -> Prop} {bD : Int32} {mX dY : Nat -> Int32} {fY : Int32} {R : Type} {po : Int32 -> Int32 -> (Nat -> Int32) -> R} {d : Int32 -> Int32 -> Int32 -> Int32 -> Int32 -> Int32 -> (Nat -> Int32) -> R} (hz0 : Int32.toInt bD <= 8) : ∀ (n m : Nat) (x2 x3 x4 x5 x6 qB : Int32) (jK : Nat -> Int32), 0 <= Int32.toInt x6 /\ Int32.toInt x6 <= 8 -> 8 - Int32.toInt x6 < (m : Int) -> wb_X9_route_55 P bD mX dY fY n x2 x3 x4 x5 x6 qB jK -> (∀ (b0 b1 : Int32) (b2 : Nat -> Int32), po b0 b1 b2 = flp (fs_X9_route_55 po bD mX dY fY) d m x2 x3 x4 x5 x6 qB jK -> P b0 b1 b2 -> Q b0 b1 b2) -> wb_X9_route_55 Q bD mX dY fY n x2 x3 x4 x5 x6 qB jK := by
  have l1 : Int32.toInt (1 : Int32) = 1 := by decide
  have l8 : Int32.toInt (8 : Int32) = 8 := by decide
  intro n
  induction n with
  | zero => intro m x2 x3 x4 x5 x6 qB jK hv hm h hq; exact False.elim h
  | succ n ih =>
    intro m x2 x3 x4 x5 x6 qB jK hv hm h hq
    cases m with
    | zero => exfalso; omega
    | succ m =>
      rw [flp_s, fs_X9_route_55] at hq
      have h : ws_X9_route_55 P (wb_X9_route_55 P bD mX dY fY n) bD mX dY fY x2 x3 x4 x5 x6 qB jK := h
      show ws_X9_route_55 Q (wb_X9_route_55 Q bD mX dY fY n) bD mX dY fY x2 x3 x4 x5 x6 qB jK
      unfold ws_X9_route_55 at h ⊢
      refine And.intro (fun c1 => ?_) (fun c1 => ?_)
      · have h := And.left h c1
        rw [if_pos c1] at hq
        have dc1 := (aAO _ _).mp c1
        exact hq _ _ _ rfl h
      · have h := And.right h c1
        rw [if_neg c1] at hq
        have dc1 := mt (aAO _ _).mpr c1
        refine And.intro (fun c2 => ?_) (fun c2 => ?_)
        · have h := And.left h c2
          rw [if_pos c2] at hq
          have dc2 := (zJ _ _).mp c2
          exact hq _ _ _ rfl h
        · have h := And.right h c2
          rw [if_neg c2] at hq
          have dc2 := mt (zJ _ _).mpr c2
          refine du_X3_firstOfWay hz0 h ?_
          intro h
          refine And.intro (fun c3 => ?_) (fun c3 => ?_)
          · have h := And.left h c3
            rw [if_neg c3] at hq
            have dc3 := mt (zJ _ _).mpr c3
            refine du_X6_add h ?_
            intro h
            refine du_X3_moveSeconds h ?_
            intro h
            refine ae ?_
            have h := h _ rfl
            refine ae ?_
            have h := h _ rfl
            refine ae ?_
            have h := h _ rfl
            refine ae ?_
            have h := h _ rfl
            have f9 := aAD x6 1 (by omega)
            exact ih m _ _ _ _ _ _ _ (by omega) (by omega) h hq
          · have h := And.right h c3
            rw [if_pos c3] at hq
            have dc3 := (zJ _ _).mp c3
            exact hq _ _ _ rfl h
noncomputable def F_X9_route (p0 bD : Int32) (mX dY : Nat -> Int32) (fY qB : Int32) (jK : Nat -> Int32) : Int32 × Int32 × (Nat -> Int32) := if (F_X3_areStandings p0 bD) = 0 then ((-1), qB, jK) else (flp (fs_X9_route_55 (fun o0 o1 o2 => (o0, o1, o2)) bD mX dY fY) (fun _ _ _ _ _ _ _ => (0, 0, (fun _ => 0))) 9 (F_X0_withoutLadder p0 fY) fY (F_X3_waySeconds fY (F_X0_withoutLadder p0 fY) bD mX dY) (F_X3_waySeconds fY (F_X0_withoutLadder p0 fY) bD mX dY) 0 (F_X6_clear qB) jK)
set_option maxHeartbeats 200000 in
set_option maxRecDepth 10000 in
theorem dt_X9_route {P Q : Int32 -> Int32 -> (Nat -> Int32) -> Prop} {p0 bD : Int32} {mX dY : Nat -> Int32} {fY qB : Int32} {jK : Nat -> Int32} (hy0 : Int32.toInt bD <= 8) (h : wp_X9_route P p0 bD mX dY fY qB jK) (hq : ∀ o : Int32 × Int32 × (Nat -> Int32), o = F_X9_route p0 bD mX dY fY qB jK -> P o.1 o.2.1 o.2.2 -> Q o.1 o.2.1 o.2.2) : wp_X9_route Q p0 bD mX dY fY qB jK := by
  rw [F_X9_route] at hq
  refine du_X3_areStandings h ?_
  intro h
  refine And.intro (fun c1 => ?_) (fun c1 => ?_)
  · have h := And.left h c1
    rw [if_neg c1] at hq
    refine du_X6_clear h ?_
    intro h
    refine du_X0_withoutLadder h ?_
    intro h
    refine du_X3_waySeconds h ?_
    intro h
    obtain ⟨n2, h⟩ := h
    exact ⟨n2, dl_X9_route_55 hy0 n2 9 _ _ _ _ _ _ _ (by decide) (by decide) h (fun b0 b1 b2 e9 h9 => hq (b0, b1, b2) e9 h9)⟩
  · have h := And.right h c1
    rw [if_pos c1] at hq
    have q9 := hq _ rfl
    dsimp only at q9
    exact q9 h
theorem du_X9_route {P Q : Int32 -> Int32 -> (Nat -> Int32) -> Prop} {p0 bD : Int32} {mX dY : Nat -> Int32} {fY qB : Int32} {jK : Nat -> Int32} (hy0 : Int32.toInt bD <= 8) (h : wp_X9_route P p0 bD mX dY fY qB jK) (hq : P (F_X9_route p0 bD mX dY fY qB jK).1 (F_X9_route p0 bD mX dY fY qB jK).2.1 (F_X9_route p0 bD mX dY fY qB jK).2.2 -> Q (F_X9_route p0 bD mX dY fY qB jK).1 (F_X9_route p0 bD mX dY fY qB jK).2.1 (F_X9_route p0 bD mX dY fY qB jK).2.2) : wp_X9_route Q p0 bD mX dY fY qB jK := dt_X9_route hy0 h (fun o eo => by rw [eo]; exact hq)
theorem dw_X9_route {Q : Int32 -> Int32 -> (Nat -> Int32) -> Prop} {p0 bD : Int32} {mX dY : Nat -> Int32} {fY qB : Int32} {jK : Nat -> Int32} (hy0 : Int32.toInt bD <= 8) (h : wp_X9_route (fun o0 o1 o2 => (o0, o1, o2) = F_X9_route p0 bD mX dY fY qB jK -> Q o0 o1 o2) p0 bD mX dY fY qB jK) : wp_X9_route Q p0 bD mX dY fY qB jK := dt_X9_route hy0 h (fun o eo hp => hp eo)
noncomputable def F_X2_write_b2 (p1 jE eW eY dU fY gJ jG nU : Int32) (rQ : Nat -> Int32) : (Nat -> Int32) := if p1 < 0 then rQ else (if p1 <= (16 - 8) then (upd (upd (upd (upd (upd (upd (upd (upd rQ p1.toNatClampNeg jE) (p1 + 1).toNatClampNeg eW) (p1 + 2).toNatClampNeg eY) (p1 + 3).toNatClampNeg dU) (p1 + 4).toNatClampNeg fY) (p1 + 5).toNatClampNeg gJ) (p1 + 6).toNatClampNeg jG) (p1 + 7).toNatClampNeg nU) else rQ)
set_option maxHeartbeats 200000 in
set_option maxRecDepth 10000 in
theorem dt_X2_write_b2 {P Q : (Nat -> Int32) -> Prop} {p1 jE eW eY dU fY gJ jG nU : Int32} {rQ : Nat -> Int32} (h : wp_X2_write_b2 P p1 jE eW eY dU fY gJ jG nU rQ) (hq : ∀ o : (Nat -> Int32), o = F_X2_write_b2 p1 jE eW eY dU fY gJ jG nU rQ -> P o -> Q o) : wp_X2_write_b2 Q p1 jE eW eY dU fY gJ jG nU rQ := by
  rw [F_X2_write_b2] at hq
  refine And.intro (fun c1 => ?_) (fun c1 => ?_)
  · have h := And.left h c1
    rw [if_pos c1] at hq
    have q9 := hq _ rfl
    exact q9 h
  · have h := And.right h c1
    rw [if_neg c1] at hq
    refine And.intro (fun c2 => ?_) (fun c2 => ?_)
    · have h := And.left h c2
      rw [if_pos c2] at hq
      refine And.intro (And.left h) ?_
      have h := And.right h
      refine ae ?_
      have h := h _ rfl
      refine And.intro (And.left h) ?_
      have h := And.right h
      refine ae ?_
      have h := h _ rfl
      refine And.intro (And.left h) ?_
      have h := And.right h
      refine ae ?_
      have h := h _ rfl
      refine And.intro (And.left h) ?_
      have h := And.right h
      refine ae ?_
      have h := h _ rfl
      refine And.intro (And.left h) ?_
      have h := And.right h
      refine ae ?_
      have h := h _ rfl
      refine And.intro (And.left h) ?_
      have h := And.right h
      refine ae ?_
      have h := h _ rfl
      refine And.intro (And.left h) ?_
      have h := And.right h
      refine ae ?_
      have h := h _ rfl
      refine And.intro (And.left h) ?_
      have h := And.right h
      have q9 := hq _ rfl
      exact q9 h
    · have h := And.right h c2
      rw [if_neg c2] at hq
      have q9 := hq _ rfl
      exact q9 h
theorem du_X2_write_b2 {P Q : (Nat -> Int32) -> Prop} {p1 jE eW eY dU fY gJ jG nU : Int32} {rQ : Nat -> Int32} (h : wp_X2_write_b2 P p1 jE eW eY dU fY gJ jG nU rQ) (hq : P (F_X2_write_b2 p1 jE eW eY dU fY gJ jG nU rQ) -> Q (F_X2_write_b2 p1 jE eW eY dU fY gJ jG nU rQ)) : wp_X2_write_b2 Q p1 jE eW eY dU fY gJ jG nU rQ := dt_X2_write_b2 h (fun o eo => by rw [eo]; exact hq)
noncomputable def F_X4_store (p0 jE eW eY dU fY gJ jG nU : Int32) (rQ uF : Nat -> Int32) : Int32 × (Nat -> Int32) × (Nat -> Int32) := if p0 < 0 then (0, rQ, uF) else (if p0 < 2 then (1, (F_X2_write_b2 (p0 * 8) jE eW eY dU fY gJ jG nU rQ), (upd uF p0.toNatClampNeg (vp_nar .boolean 1))) else (0, rQ, uF))
set_option maxHeartbeats 200000 in
set_option maxRecDepth 10000 in
theorem dt_X4_store {P Q : Int32 -> (Nat -> Int32) -> (Nat -> Int32) -> Prop} {p0 jE eW eY dU fY gJ jG nU : Int32} {rQ uF : Nat -> Int32} (h : wp_X4_store P p0 jE eW eY dU fY gJ jG nU rQ uF) (hq : ∀ o : Int32 × (Nat -> Int32) × (Nat -> Int32), o = F_X4_store p0 jE eW eY dU fY gJ jG nU rQ uF -> P o.1 o.2.1 o.2.2 -> Q o.1 o.2.1 o.2.2) : wp_X4_store Q p0 jE eW eY dU fY gJ jG nU rQ uF := by
  rw [F_X4_store] at hq
  refine And.intro (fun c1 => ?_) (fun c1 => ?_)
  · have h := And.left h c1
    rw [if_pos c1] at hq
    have q9 := hq _ rfl
    dsimp only at q9
    exact q9 h
  · have h := And.right h c1
    rw [if_neg c1] at hq
    refine And.intro (fun c2 => ?_) (fun c2 => ?_)
    · have h := And.left h c2
      rw [if_pos c2] at hq
      refine ae ?_
      have h := h _ rfl
      refine du_X2_write_b2 h ?_
      intro h
      refine And.intro (And.left h) ?_
      have h := And.right h
      have q9 := hq _ rfl
      dsimp only at q9
      exact q9 h
    · have h := And.right h c2
      rw [if_neg c2] at hq
      have q9 := hq _ rfl
      dsimp only at q9
      exact q9 h
theorem du_X4_store {P Q : Int32 -> (Nat -> Int32) -> (Nat -> Int32) -> Prop} {p0 jE eW eY dU fY gJ jG nU : Int32} {rQ uF : Nat -> Int32} (h : wp_X4_store P p0 jE eW eY dU fY gJ jG nU rQ uF) (hq : P (F_X4_store p0 jE eW eY dU fY gJ jG nU rQ uF).1 (F_X4_store p0 jE eW eY dU fY gJ jG nU rQ uF).2.1 (F_X4_store p0 jE eW eY dU fY gJ jG nU rQ uF).2.2 -> Q (F_X4_store p0 jE eW eY dU fY gJ jG nU rQ uF).1 (F_X4_store p0 jE eW eY dU fY gJ jG nU rQ uF).2.1 (F_X4_store p0 jE eW eY dU fY gJ jG nU rQ uF).2.2) : wp_X4_store Q p0 jE eW eY dU fY gJ jG nU rQ uF := dt_X4_store h (fun o eo => by rw [eo]; exact hq)
noncomputable def F_X9_keep (p0 jE eW eY dU fY gJ jG nU : Int32) (rQ uF : Nat -> Int32) : Int32 × (Nat -> Int32) × (Nat -> Int32) := ((F_X4_store p0 jE eW eY dU fY gJ jG nU rQ uF).1, (F_X4_store p0 jE eW eY dU fY gJ jG nU rQ uF).2.1, (F_X4_store p0 jE eW eY dU fY gJ jG nU rQ uF).2.2)
set_option maxHeartbeats 200000 in
set_option maxRecDepth 10000 in
theorem dt_X9_keep {P Q : Int32 -> (Nat -> Int32) -> (Nat -> Int32) -> Prop} {p0 jE eW eY dU fY gJ jG nU : Int32} {rQ uF : Nat -> Int32} (h : wp_X9_keep P p0 jE eW eY dU fY gJ jG nU rQ uF) (hq : ∀ o : Int32 × (Nat -> Int32) × (Nat -> Int32), o = F_X9_keep p0 jE eW eY dU fY gJ jG nU rQ uF -> P o.1 o.2.1 o.2.2 -> Q o.1 o.2.1 o.2.2) : wp_X9_keep Q p0 jE eW eY dU fY gJ jG nU rQ uF := by
  rw [F_X9_keep] at hq
  refine du_X4_store h ?_
  intro h
  refine And.intro (And.left h) ?_
  have h := And.right h
  have q9 := hq _ rfl
  dsimp only at q9
  exact q9 h
theorem du_X9_keep {P Q : Int32 -> (Nat -> Int32) -> (Nat -> Int32) -> Prop} {p0 jE eW eY dU fY gJ jG nU : Int32} {rQ uF : Nat -> Int32} (h : wp_X9_keep P p0 jE eW eY dU fY gJ jG nU rQ uF) (hq : P (F_X9_keep p0 jE eW eY dU fY gJ jG nU rQ uF).1 (F_X9_keep p0 jE eW eY dU fY gJ jG nU rQ uF).2.1 (F_X9_keep p0 jE eW eY dU fY gJ jG nU rQ uF).2.2 -> Q (F_X9_keep p0 jE eW eY dU fY gJ jG nU rQ uF).1 (F_X9_keep p0 jE eW eY dU fY gJ jG nU rQ uF).2.1 (F_X9_keep p0 jE eW eY dU fY gJ jG nU rQ uF).2.2) : wp_X9_keep Q p0 jE eW eY dU fY gJ jG nU rQ uF := dt_X9_keep h (fun o eo => by rw [eo]; exact hq)
theorem dw_X9_keep {Q : Int32 -> (Nat -> Int32) -> (Nat -> Int32) -> Prop} {p0 jE eW eY dU fY gJ jG nU : Int32} {rQ uF : Nat -> Int32} (h : wp_X9_keep (fun o0 o1 o2 => (o0, o1, o2) = F_X9_keep p0 jE eW eY dU fY gJ jG nU rQ uF -> Q o0 o1 o2) p0 jE eW eY dU fY gJ jG nU rQ uF) : wp_X9_keep Q p0 jE eW eY dU fY gJ jG nU rQ uF := dt_X9_keep h (fun o eo hp => hp eo)
noncomputable def aRH (p1 jE eW eY dU fY gJ jG nU : Int32) (rQ : Nat -> Int32) : Int32 × Int32 × Int32 × Int32 × Int32 × Int32 × Int32 × Int32 := if p1 < 0 then (jE, eW, eY, dU, fY, gJ, jG, nU) else (if p1 <= (16 - 8) then ((rQ p1.toNatClampNeg), (rQ (p1 + 1).toNatClampNeg), (rQ (p1 + 2).toNatClampNeg), (rQ (p1 + 3).toNatClampNeg), (rQ (p1 + 4).toNatClampNeg), (rQ (p1 + 5).toNatClampNeg), (rQ (p1 + 6).toNatClampNeg), (rQ (p1 + 7).toNatClampNeg)) else (jE, eW, eY, dU, fY, gJ, jG, nU))
set_option maxHeartbeats 200000 in
set_option maxRecDepth 10000 in
theorem dt_X2_read_b2 {P Q : Int32 -> Int32 -> Int32 -> Int32 -> Int32 -> Int32 -> Int32 -> Int32 -> Prop} {p1 jE eW eY dU fY gJ jG nU : Int32} {rQ : Nat -> Int32} (h : wp_X2_read_b2 P p1 jE eW eY dU fY gJ jG nU rQ) (hq : ∀ o : Int32 × Int32 × Int32 × Int32 × Int32 × Int32 × Int32 × Int32, o = aRH p1 jE eW eY dU fY gJ jG nU rQ -> P o.1 o.2.1 o.2.2.1 o.2.2.2.1 o.2.2.2.2.1 o.2.2.2.2.2.1 o.2.2.2.2.2.2.1 o.2.2.2.2.2.2.2 -> Q o.1 o.2.1 o.2.2.1 o.2.2.2.1 o.2.2.2.2.1 o.2.2.2.2.2.1 o.2.2.2.2.2.2.1 o.2.2.2.2.2.2.2) : wp_X2_read_b2 Q p1 jE eW eY dU fY gJ jG nU rQ := by
  rw [aRH] at hq
  refine And.intro (fun c1 => ?_) (fun c1 => ?_)
  · have h := And.left h c1
    rw [if_pos c1] at hq
    have q9 := hq _ rfl
    dsimp only at q9
    exact q9 h
  · have h := And.right h c1
    rw [if_neg c1] at hq
    refine And.intro (fun c2 => ?_) (fun c2 => ?_)
    · have h := And.left h c2
      rw [if_pos c2] at hq
      refine And.intro (And.left h) ?_
      have h := And.right h
      refine ae ?_
      have h := h _ rfl
      refine ae ?_
      have h := h _ rfl
      refine And.intro (And.left h) ?_
      have h := And.right h
      refine ae ?_
      have h := h _ rfl
      refine ae ?_
      have h := h _ rfl
      refine And.intro (And.left h) ?_
      have h := And.right h
      refine ae ?_
      have h := h _ rfl
      refine ae ?_
      have h := h _ rfl
      refine And.intro (And.left h) ?_
      have h := And.right h
      refine ae ?_
      have h := h _ rfl
      refine ae ?_
      have h := h _ rfl
      refine And.intro (And.left h) ?_
      have h := And.right h
      refine ae ?_
      have h := h _ rfl
      refine ae ?_
      have h := h _ rfl
      refine And.intro (And.left h) ?_
      have h := And.right h
      refine ae ?_
      have h := h _ rfl
      refine ae ?_
      have h := h _ rfl
      refine And.intro (And.left h) ?_
      have h := And.right h
      refine ae ?_
      have h := h _ rfl
      refine ae ?_
      have h := h _ rfl
      refine And.intro (And.left h) ?_
      have h := And.right h
      refine ae ?_
      have h := h _ rfl
      have q9 := hq _ rfl
      dsimp only at q9
      exact q9 h
    · have h := And.right h c2
      rw [if_neg c2] at hq
      have q9 := hq _ rfl
      dsimp only at q9
      exact q9 h
theorem du_X2_read_b2 {P Q : Int32 -> Int32 -> Int32 -> Int32 -> Int32 -> Int32 -> Int32 -> Int32 -> Prop} {p1 jE eW eY dU fY gJ jG nU : Int32} {rQ : Nat -> Int32} (h : wp_X2_read_b2 P p1 jE eW eY dU fY gJ jG nU rQ) (hq : P (aRH p1 jE eW eY dU fY gJ jG nU rQ).1 (aRH p1 jE eW eY dU fY gJ jG nU rQ).2.1 (aRH p1 jE eW eY dU fY gJ jG nU rQ).2.2.1 (aRH p1 jE eW eY dU fY gJ jG nU rQ).2.2.2.1 (aRH p1 jE eW eY dU fY gJ jG nU rQ).2.2.2.2.1 (aRH p1 jE eW eY dU fY gJ jG nU rQ).2.2.2.2.2.1 (aRH p1 jE eW eY dU fY gJ jG nU rQ).2.2.2.2.2.2.1 (aRH p1 jE eW eY dU fY gJ jG nU rQ).2.2.2.2.2.2.2 -> Q (aRH p1 jE eW eY dU fY gJ jG nU rQ).1 (aRH p1 jE eW eY dU fY gJ jG nU rQ).2.1 (aRH p1 jE eW eY dU fY gJ jG nU rQ).2.2.1 (aRH p1 jE eW eY dU fY gJ jG nU rQ).2.2.2.1 (aRH p1 jE eW eY dU fY gJ jG nU rQ).2.2.2.2.1 (aRH p1 jE eW eY dU fY gJ jG nU rQ).2.2.2.2.2.1 (aRH p1 jE eW eY dU fY gJ jG nU rQ).2.2.2.2.2.2.1 (aRH p1 jE eW eY dU fY gJ jG nU rQ).2.2.2.2.2.2.2) : wp_X2_read_b2 Q p1 jE eW eY dU fY gJ jG nU rQ := dt_X2_read_b2 h (fun o eo => by rw [eo]; exact hq)
noncomputable def aUd (p0 jE eW eY dU fY gJ jG nU pR : Int32) (rQ uF : Nat -> Int32) : Int32 × Int32 × Int32 × Int32 × Int32 × Int32 × Int32 × Int32 × Int32 × Int32 := if p0 < 0 then (0, jE, eW, eY, dU, fY, gJ, jG, nU, pR) else (if 2 <= p0 then (0, jE, eW, eY, dU, fY, gJ, jG, nU, pR) else (if (uF p0.toNatClampNeg) = 0 then (0, jE, eW, eY, dU, fY, gJ, jG, nU, pR) else (1, (aRH (p0 * 8) jE eW eY dU fY gJ jG nU rQ).1, (aRH (p0 * 8) jE eW eY dU fY gJ jG nU rQ).2.1, (aRH (p0 * 8) jE eW eY dU fY gJ jG nU rQ).2.2.1, (aRH (p0 * 8) jE eW eY dU fY gJ jG nU rQ).2.2.2.1, (aRH (p0 * 8) jE eW eY dU fY gJ jG nU rQ).2.2.2.2.1, (aRH (p0 * 8) jE eW eY dU fY gJ jG nU rQ).2.2.2.2.2.1, (aRH (p0 * 8) jE eW eY dU fY gJ jG nU rQ).2.2.2.2.2.2.1, (aRH (p0 * 8) jE eW eY dU fY gJ jG nU rQ).2.2.2.2.2.2.2, 0)))
set_option maxHeartbeats 200000 in
set_option maxRecDepth 10000 in
theorem dt_X4_fetch {P Q : Int32 -> Int32 -> Int32 -> Int32 -> Int32 -> Int32 -> Int32 -> Int32 -> Int32 -> Int32 -> Prop} {p0 jE eW eY dU fY gJ jG nU pR : Int32} {rQ uF : Nat -> Int32} (h : wp_X4_fetch P p0 jE eW eY dU fY gJ jG nU pR rQ uF) (hq : ∀ o : Int32 × Int32 × Int32 × Int32 × Int32 × Int32 × Int32 × Int32 × Int32 × Int32, o = aUd p0 jE eW eY dU fY gJ jG nU pR rQ uF -> P o.1 o.2.1 o.2.2.1 o.2.2.2.1 o.2.2.2.2.1 o.2.2.2.2.2.1 o.2.2.2.2.2.2.1 o.2.2.2.2.2.2.2.1 o.2.2.2.2.2.2.2.2.1 o.2.2.2.2.2.2.2.2.2 -> Q o.1 o.2.1 o.2.2.1 o.2.2.2.1 o.2.2.2.2.1 o.2.2.2.2.2.1 o.2.2.2.2.2.2.1 o.2.2.2.2.2.2.2.1 o.2.2.2.2.2.2.2.2.1 o.2.2.2.2.2.2.2.2.2) : wp_X4_fetch Q p0 jE eW eY dU fY gJ jG nU pR rQ uF := by
  rw [aUd] at hq
  refine And.intro (fun c1 => ?_) (fun c1 => ?_)
  · have h := And.left h c1
    rw [if_pos c1] at hq
    have q9 := hq _ rfl
    dsimp only at q9
    exact q9 h
  · have h := And.right h c1
    rw [if_neg c1] at hq
    refine And.intro (fun c2 => ?_) (fun c2 => ?_)
    · have h := And.left h c2
      rw [if_pos c2] at hq
      have q9 := hq _ rfl
      dsimp only at q9
      exact q9 h
    · have h := And.right h c2
      rw [if_neg c2] at hq
      refine And.intro (And.left h) ?_
      have h := And.right h
      refine And.intro (fun c3 => ?_) (fun c3 => ?_)
      · have h := And.left h c3
        rw [if_neg c3] at hq
        refine ae ?_
        have h := h _ rfl
        refine du_X2_read_b2 h ?_
        intro h
        have q9 := hq _ rfl
        dsimp only at q9
        exact q9 h
      · have h := And.right h c3
        rw [if_pos c3] at hq
        have q9 := hq _ rfl
        dsimp only at q9
        exact q9 h
theorem du_X4_fetch {P Q : Int32 -> Int32 -> Int32 -> Int32 -> Int32 -> Int32 -> Int32 -> Int32 -> Int32 -> Int32 -> Prop} {p0 jE eW eY dU fY gJ jG nU pR : Int32} {rQ uF : Nat -> Int32} (h : wp_X4_fetch P p0 jE eW eY dU fY gJ jG nU pR rQ uF) (hq : P (aUd p0 jE eW eY dU fY gJ jG nU pR rQ uF).1 (aUd p0 jE eW eY dU fY gJ jG nU pR rQ uF).2.1 (aUd p0 jE eW eY dU fY gJ jG nU pR rQ uF).2.2.1 (aUd p0 jE eW eY dU fY gJ jG nU pR rQ uF).2.2.2.1 (aUd p0 jE eW eY dU fY gJ jG nU pR rQ uF).2.2.2.2.1 (aUd p0 jE eW eY dU fY gJ jG nU pR rQ uF).2.2.2.2.2.1 (aUd p0 jE eW eY dU fY gJ jG nU pR rQ uF).2.2.2.2.2.2.1 (aUd p0 jE eW eY dU fY gJ jG nU pR rQ uF).2.2.2.2.2.2.2.1 (aUd p0 jE eW eY dU fY gJ jG nU pR rQ uF).2.2.2.2.2.2.2.2.1 (aUd p0 jE eW eY dU fY gJ jG nU pR rQ uF).2.2.2.2.2.2.2.2.2 -> Q (aUd p0 jE eW eY dU fY gJ jG nU pR rQ uF).1 (aUd p0 jE eW eY dU fY gJ jG nU pR rQ uF).2.1 (aUd p0 jE eW eY dU fY gJ jG nU pR rQ uF).2.2.1 (aUd p0 jE eW eY dU fY gJ jG nU pR rQ uF).2.2.2.1 (aUd p0 jE eW eY dU fY gJ jG nU pR rQ uF).2.2.2.2.1 (aUd p0 jE eW eY dU fY gJ jG nU pR rQ uF).2.2.2.2.2.1 (aUd p0 jE eW eY dU fY gJ jG nU pR rQ uF).2.2.2.2.2.2.1 (aUd p0 jE eW eY dU fY gJ jG nU pR rQ uF).2.2.2.2.2.2.2.1 (aUd p0 jE eW eY dU fY gJ jG nU pR rQ uF).2.2.2.2.2.2.2.2.1 (aUd p0 jE eW eY dU fY gJ jG nU pR rQ uF).2.2.2.2.2.2.2.2.2) : wp_X4_fetch Q p0 jE eW eY dU fY gJ jG nU pR rQ uF := dt_X4_fetch h (fun o eo => by rw [eo]; exact hq)
noncomputable def F_X9_again (p0 jE eW eY dU fY gJ jG nU pR : Int32) (rQ uF : Nat -> Int32) : Int32 × Int32 × Int32 × Int32 × Int32 × Int32 × Int32 × Int32 × Int32 × Int32 := ((aUd p0 jE eW eY dU fY gJ jG nU pR rQ uF).1, (aUd p0 jE eW eY dU fY gJ jG nU pR rQ uF).2.1, (aUd p0 jE eW eY dU fY gJ jG nU pR rQ uF).2.2.1, (aUd p0 jE eW eY dU fY gJ jG nU pR rQ uF).2.2.2.1, (aUd p0 jE eW eY dU fY gJ jG nU pR rQ uF).2.2.2.2.1, (aUd p0 jE eW eY dU fY gJ jG nU pR rQ uF).2.2.2.2.2.1, (aUd p0 jE eW eY dU fY gJ jG nU pR rQ uF).2.2.2.2.2.2.1, (aUd p0 jE eW eY dU fY gJ jG nU pR rQ uF).2.2.2.2.2.2.2.1, (aUd p0 jE eW eY dU fY gJ jG nU pR rQ uF).2.2.2.2.2.2.2.2.1, (aUd p0 jE eW eY dU fY gJ jG nU pR rQ uF).2.2.2.2.2.2.2.2.2)
set_option maxHeartbeats 200000 in
set_option maxRecDepth 10000 in
theorem dt_X9_again {P Q : Int32 -> Int32 -> Int32 -> Int32 -> Int32 -> Int32 -> Int32 -> Int32 -> Int32 -> Int32 -> Prop} {p0 jE eW eY dU fY gJ jG nU pR : Int32} {rQ uF : Nat -> Int32} (h : wp_X9_again P p0 jE eW eY dU fY gJ jG nU pR rQ uF) (hq : ∀ o : Int32 × Int32 × Int32 × Int32 × Int32 × Int32 × Int32 × Int32 × Int32 × Int32, o = F_X9_again p0 jE eW eY dU fY gJ jG nU pR rQ uF -> P o.1 o.2.1 o.2.2.1 o.2.2.2.1 o.2.2.2.2.1 o.2.2.2.2.2.1 o.2.2.2.2.2.2.1 o.2.2.2.2.2.2.2.1 o.2.2.2.2.2.2.2.2.1 o.2.2.2.2.2.2.2.2.2 -> Q o.1 o.2.1 o.2.2.1 o.2.2.2.1 o.2.2.2.2.1 o.2.2.2.2.2.1 o.2.2.2.2.2.2.1 o.2.2.2.2.2.2.2.1 o.2.2.2.2.2.2.2.2.1 o.2.2.2.2.2.2.2.2.2) : wp_X9_again Q p0 jE eW eY dU fY gJ jG nU pR rQ uF := by
  rw [F_X9_again] at hq
  refine du_X4_fetch h ?_
  intro h
  refine And.intro (And.left h) ?_
  have h := And.right h
  have q9 := hq _ rfl
  dsimp only at q9
  exact q9 h
theorem du_X9_again {P Q : Int32 -> Int32 -> Int32 -> Int32 -> Int32 -> Int32 -> Int32 -> Int32 -> Int32 -> Int32 -> Prop} {p0 jE eW eY dU fY gJ jG nU pR : Int32} {rQ uF : Nat -> Int32} (h : wp_X9_again P p0 jE eW eY dU fY gJ jG nU pR rQ uF) (hq : P (F_X9_again p0 jE eW eY dU fY gJ jG nU pR rQ uF).1 (F_X9_again p0 jE eW eY dU fY gJ jG nU pR rQ uF).2.1 (F_X9_again p0 jE eW eY dU fY gJ jG nU pR rQ uF).2.2.1 (F_X9_again p0 jE eW eY dU fY gJ jG nU pR rQ uF).2.2.2.1 (F_X9_again p0 jE eW eY dU fY gJ jG nU pR rQ uF).2.2.2.2.1 (F_X9_again p0 jE eW eY dU fY gJ jG nU pR rQ uF).2.2.2.2.2.1 (F_X9_again p0 jE eW eY dU fY gJ jG nU pR rQ uF).2.2.2.2.2.2.1 (F_X9_again p0 jE eW eY dU fY gJ jG nU pR rQ uF).2.2.2.2.2.2.2.1 (F_X9_again p0 jE eW eY dU fY gJ jG nU pR rQ uF).2.2.2.2.2.2.2.2.1 (F_X9_again p0 jE eW eY dU fY gJ jG nU pR rQ uF).2.2.2.2.2.2.2.2.2 -> Q (F_X9_again p0 jE eW eY dU fY gJ jG nU pR rQ uF).1 (F_X9_again p0 jE eW eY dU fY gJ jG nU pR rQ uF).2.1 (F_X9_again p0 jE eW eY dU fY gJ jG nU pR rQ uF).2.2.1 (F_X9_again p0 jE eW eY dU fY gJ jG nU pR rQ uF).2.2.2.1 (F_X9_again p0 jE eW eY dU fY gJ jG nU pR rQ uF).2.2.2.2.1 (F_X9_again p0 jE eW eY dU fY gJ jG nU pR rQ uF).2.2.2.2.2.1 (F_X9_again p0 jE eW eY dU fY gJ jG nU pR rQ uF).2.2.2.2.2.2.1 (F_X9_again p0 jE eW eY dU fY gJ jG nU pR rQ uF).2.2.2.2.2.2.2.1 (F_X9_again p0 jE eW eY dU fY gJ jG nU pR rQ uF).2.2.2.2.2.2.2.2.1 (F_X9_again p0 jE eW eY dU fY gJ jG nU pR rQ uF).2.2.2.2.2.2.2.2.2) : wp_X9_again Q p0 jE eW eY dU fY gJ jG nU pR rQ uF := dt_X9_again h (fun o eo => by rw [eo]; exact hq)
theorem dw_X9_again {Q : Int32 -> Int32 -> Int32 -> Int32 -> Int32 -> Int32 -> Int32 -> Int32 -> Int32 -> Int32 -> Prop} {p0 jE eW eY dU fY gJ jG nU pR : Int32} {rQ uF : Nat -> Int32} (h : wp_X9_again (fun o0 o1 o2 o3 o4 o5 o6 o7 o8 o9 => (o0, o1, o2, o3, o4, o5, o6, o7, o8, o9) = F_X9_again p0 jE eW eY dU fY gJ jG nU pR rQ uF -> Q o0 o1 o2 o3 o4 o5 o6 o7 o8 o9) p0 jE eW eY dU fY gJ jG nU pR rQ uF) : wp_X9_again Q p0 jE eW eY dU fY gJ jG nU pR rQ uF := dt_X9_again h (fun o eo hp => hp eo)
noncomputable def F_X10_valueOf (p0 aR aE bI aW : Int32) (m_x gR pW nG oO : Nat -> Int32) : Int32 := if p0 = 100 then (F_X10_far aR aE m_x nG) else (if p0 = 107 then aW else (if p0 = 115 then aE else (if p0 = 117 then (F_X10_above aR aE gR oO) else (if p0 = 119 then (pW aR.toNatClampNeg) else (if p0 = 121 then (gR aR.toNatClampNeg) else bI)))))
set_option maxHeartbeats 200000 in
set_option maxRecDepth 10000 in
theorem dt_X10_valueOf {P Q : Int32 -> Prop} {p0 aR aE bI aW : Int32} {m_x gR pW nG oO : Nat -> Int32} (h : wp_X10_valueOf P p0 aR aE bI aW m_x gR pW nG oO) (hq : ∀ o : Int32, o = F_X10_valueOf p0 aR aE bI aW m_x gR pW nG oO -> P o -> Q o) : wp_X10_valueOf Q p0 aR aE bI aW m_x gR pW nG oO := by
  rw [F_X10_valueOf] at hq
  refine (And.intro (fun c1 => ?_) (And.intro (fun c2 => ?_) (And.intro (fun c3 => ?_) (And.intro (fun c4 => ?_) (And.intro (fun c5 => ?_) (And.intro (fun c6 => ?_) (fun c1 c2 c3 c4 c5 c6 => ?_)))))))
  · have h := And.left h c1
    rw [if_pos c1] at hq
    refine du_X10_far h ?_
    intro h
    have q9 := hq _ rfl
    exact q9 h
  · have h := And.left (And.right h) c2
    rw [if_neg (fun e9 => absurd (e9.symm.trans c2) (by decide)), if_pos c2] at hq
    have q9 := hq _ rfl
    exact q9 h
  · have h := And.left (And.right (And.right h)) c3
    rw [if_neg (fun e9 => absurd (e9.symm.trans c3) (by decide)), if_neg (fun e9 => absurd (e9.symm.trans c3) (by decide)), if_pos c3] at hq
    have q9 := hq _ rfl
    exact q9 h
  · have h := And.left (And.right (And.right (And.right h))) c4
    rw [if_neg (fun e9 => absurd (e9.symm.trans c4) (by decide)), if_neg (fun e9 => absurd (e9.symm.trans c4) (by decide)), if_neg (fun e9 => absurd (e9.symm.trans c4) (by decide)), if_pos c4] at hq
    refine du_X10_above h ?_
    intro h
    have q9 := hq _ rfl
    exact q9 h
  · have h := And.left (And.right (And.right (And.right (And.right h)))) c5
    rw [if_neg (fun e9 => absurd (e9.symm.trans c5) (by decide)), if_neg (fun e9 => absurd (e9.symm.trans c5) (by decide)), if_neg (fun e9 => absurd (e9.symm.trans c5) (by decide)), if_neg (fun e9 => absurd (e9.symm.trans c5) (by decide)), if_pos c5] at hq
    refine And.intro (And.left h) ?_
    have h := And.right h
    have q9 := hq _ rfl
    exact q9 h
  · have h := And.left (And.right (And.right (And.right (And.right (And.right h))))) c6
    rw [if_neg (fun e9 => absurd (e9.symm.trans c6) (by decide)), if_neg (fun e9 => absurd (e9.symm.trans c6) (by decide)), if_neg (fun e9 => absurd (e9.symm.trans c6) (by decide)), if_neg (fun e9 => absurd (e9.symm.trans c6) (by decide)), if_neg (fun e9 => absurd (e9.symm.trans c6) (by decide)), if_pos c6] at hq
    refine And.intro (And.left h) ?_
    have h := And.right h
    have q9 := hq _ rfl
    exact q9 h
  · have h := And.right (And.right (And.right (And.right (And.right (And.right h))))) c1 c2 c3 c4 c5 c6
    rw [if_neg c1, if_neg c2, if_neg c3, if_neg c4, if_neg c5, if_neg c6] at hq
    have q9 := hq _ rfl
    exact q9 h
theorem du_X10_valueOf {P Q : Int32 -> Prop} {p0 aR aE bI aW : Int32} {m_x gR pW nG oO : Nat -> Int32} (h : wp_X10_valueOf P p0 aR aE bI aW m_x gR pW nG oO) (hq : P (F_X10_valueOf p0 aR aE bI aW m_x gR pW nG oO) -> Q (F_X10_valueOf p0 aR aE bI aW m_x gR pW nG oO)) : wp_X10_valueOf Q p0 aR aE bI aW m_x gR pW nG oO := dt_X10_valueOf h (fun o eo => by rw [eo]; exact hq)
theorem dw_X10_valueOf {Q : Int32 -> Prop} {p0 aR aE bI aW : Int32} {m_x gR pW nG oO : Nat -> Int32} (h : wp_X10_valueOf (fun o0 => o0 = F_X10_valueOf p0 aR aE bI aW m_x gR pW nG oO -> Q o0) p0 aR aE bI aW m_x gR pW nG oO) : wp_X10_valueOf Q p0 aR aE bI aW m_x gR pW nG oO := dt_X10_valueOf h (fun o eo hp => hp eo)
noncomputable def j_X10_which_31 {R : Type} (k5 : Int32 -> Int32 -> Int32 -> R) (bT : Int32) (qG : Nat -> Int32) (x2 x4 k0 k1 : Int32) : R := k5 x2 (k0 ||| k1) (x4 + 1)
noncomputable def bd_X10_which_5 (bT : Int32) (qG : Nat -> Int32) (x2 c s : Int32) : Int32 := if (qG c.toNatClampNeg) = x2 then (j_X10_which_31 (fun q0 q1 q2 => q1) bT qG x2 c s (1 <<< (c &&& 31))) else (j_X10_which_31 (fun q0 q1 q2 => q1) bT qG x2 c s 0)
noncomputable def ex_X10_which_5 {R : Type} (po : Int32 -> R) (bT : Int32) (qG : Nat -> Int32) (x2 c s : Int32) : R := po s
set_option maxHeartbeats 200000 in
set_option maxRecDepth 10000 in
theorem dl_X10_which_5 {P Q : Int32 -> Prop} {bT : Int32} {qG : Nat -> Int32} {x2 a : Int32} {i : Nat} (hi0 : i < 2147483648) (hE : ∀ (c : Int32) (s : Int32), c = nI (i + (Int32.toInt bT - ((i : Nat) : Int)).toNat) -> s = itr (bd_X10_which_5 bT qG x2) a i (Int32.toInt bT - ((i : Nat) : Int)).toNat -> (P s) -> (Q s)) : ∀ (n k : Nat) (c : Int32), c = nI (i + k) -> k <= (Int32.toInt bT - ((i : Nat) : Int)).toNat -> wb_X10_which_5 P bT qG n x2 (itr (bd_X10_which_5 bT qG x2) a i k) c -> wb_X10_which_5 Q bT qG n x2 (itr (bd_X10_which_5 bT qG x2) a i k) c := by
  intro n
  induction n with
  | zero => intro k c hc hk h; exact False.elim h
  | succ n ih =>
    intro k c hc hk h
    have hr := aAT bT
    have hi : Int32.toInt c = ((i + k : Nat) : Int) := by rw [hc]; exact nI_toInt (by omega)
    refine And.intro (fun t0 => ?_) (fun t0 => ?_)
    · have h := And.left h t0
      have t1 := (aAO _ _).mp t0
      have hk2 : k = (Int32.toInt bT - ((i : Nat) : Int)).toNat := by omega
      subst hk2
      exact hE _ _ hc rfl h
    · have h := And.right h t0
      have t1 := mt (aAO _ _).mpr t0
      have hs : ∀ o : Int32, o = itr (bd_X10_which_5 bT qG x2) a i (k + 1) -> wb_X10_which_5 P bT qG n x2 o (c + 1) -> wb_X10_which_5 Q bT qG n x2 o (c + 1) := by
        intro o eo h9
        have q := ih (k + 1) (c + 1) (by rw [hc]; exact nI_1 _) (by omega)
        rw [<- eo] at q
        exact q h9
      rw [itr_s, <- hc, bd_X10_which_5] at hs
      refine And.intro (And.left h) ?_
      have h := And.right h
      refine ae ?_
      have h := h _ rfl
      refine And.intro (fun c1 => ?_) (fun c1 => ?_)
      · have h := And.left h c1
        rw [if_neg c1] at hs
        rw [j_X10_which_31] at hs
        unfold ws_X10_which_31 at h ⊢
        refine ae ?_
        have h := h _ rfl
        refine ae ?_
        have h := h _ rfl
        have q9 := hs _ rfl
        exact q9 h
      · have h := And.right h c1
        rw [if_pos c1] at hs
        refine ae ?_
        have h := h _ rfl
        rw [j_X10_which_31] at hs
        unfold ws_X10_which_31 at h ⊢
        refine ae ?_
        have h := h _ rfl
        refine ae ?_
        have h := h _ rfl
        have q9 := hs _ rfl
        exact q9 h
noncomputable def aUf (p1 bT : Int32) (qG : Nat -> Int32) : Int32 := ex_X10_which_5 (fun o0 => o0) bT qG p1 (nI (0 + (Int32.toInt bT - ((0 : Nat) : Int)).toNat)) (itr (bd_X10_which_5 bT qG p1) 0 0 (Int32.toInt bT - ((0 : Nat) : Int)).toNat)
set_option maxHeartbeats 200000 in
set_option maxRecDepth 10000 in
theorem dt_X10_which {P Q : Int32 -> Prop} {p1 bT : Int32} {qG : Nat -> Int32} (h : aIB P p1 bT qG) (hq : ∀ o : Int32, o = aUf p1 bT qG -> P o -> Q o) : aIB Q p1 bT qG := by
  rw [aUf] at hq
  obtain ⟨n1, h⟩ := h
  refine ⟨n1, dl_X10_which_5 (a := 0) (i := 0) (by decide) ?_ n1 0 0 (by decide) (Nat.zero_le _) h⟩
  intro cc2 s3 ec4 es5 h
  rw [<- ec4, <- es5, ex_X10_which_5] at hq
  have q9 := hq _ rfl
  exact q9 h
theorem du_X10_which {P Q : Int32 -> Prop} {p1 bT : Int32} {qG : Nat -> Int32} (h : aIB P p1 bT qG) (hq : P (aUf p1 bT qG) -> Q (aUf p1 bT qG)) : aIB Q p1 bT qG := dt_X10_which h (fun o eo => by rw [eo]; exact hq)
theorem dw_X10_which {Q : Int32 -> Prop} {p1 bT : Int32} {qG : Nat -> Int32} (h : aIB (fun o0 => o0 = aUf p1 bT qG -> Q o0) p1 bT qG) : aIB Q p1 bT qG := dt_X10_which h (fun o eo hp => hp eo)
noncomputable def F_X10_has (p0 p1 : Int32) : Int32 := if ((p0 >>> (p1 &&& 31)) &&& 1) = 1 then 1 else 0
set_option maxHeartbeats 200000 in
set_option maxRecDepth 10000 in
theorem dt_X10_has {P Q : Int32 -> Prop} {p0 p1 : Int32} (h : aKc P p0 p1) (hq : ∀ o : Int32, o = F_X10_has p0 p1 -> P o -> Q o) : aKc Q p0 p1 := by
  rw [F_X10_has] at hq
  refine ae ?_
  have h := h _ rfl
  refine ae ?_
  have h := h _ rfl
  refine And.intro (fun c1 => ?_) (fun c1 => ?_)
  · have h := And.left h c1
    rw [if_neg c1] at hq
    have q9 := hq _ rfl
    exact q9 h
  · have h := And.right h c1
    rw [if_pos c1] at hq
    have q9 := hq _ rfl
    exact q9 h
theorem du_X10_has {P Q : Int32 -> Prop} {p0 p1 : Int32} (h : aKc P p0 p1) (hq : P (F_X10_has p0 p1) -> Q (F_X10_has p0 p1)) : aKc Q p0 p1 := dt_X10_has h (fun o eo => by rw [eo]; exact hq)
theorem dw_X10_has {Q : Int32 -> Prop} {p0 p1 : Int32} (h : aKc (fun o0 => o0 = F_X10_has p0 p1 -> Q o0) p0 p1) : aKc Q p0 p1 := dt_X10_has h (fun o eo hp => hp eo)
noncomputable def F_X10_isBelow (p0 p1 : Int32) (m_x gR : Nat -> Int32) : Int32 := if 1 < (if 0 <= ((m_x p1.toNatClampNeg) - (m_x p0.toNatClampNeg)) then ((m_x p1.toNatClampNeg) - (m_x p0.toNatClampNeg)) else 0 - ((m_x p1.toNatClampNeg) - (m_x p0.toNatClampNeg))) then 0 else (if (gR p1.toNatClampNeg) <= (gR p0.toNatClampNeg) then 0 else 1)
set_option maxHeartbeats 200000 in
set_option maxRecDepth 10000 in
theorem dt_X10_isBelow {P Q : Int32 -> Prop} {p0 p1 : Int32} {m_x gR : Nat -> Int32} (h : wp_X10_isBelow P p0 p1 m_x gR) (hq : ∀ o : Int32, o = F_X10_isBelow p0 p1 m_x gR -> P o -> Q o) : wp_X10_isBelow Q p0 p1 m_x gR := by
  rw [F_X10_isBelow] at hq
  refine And.intro (And.left h) ?_
  have h := And.right h
  refine ae ?_
  have h := h _ rfl
  refine And.intro (And.left h) ?_
  have h := And.right h
  refine ae ?_
  have h := h _ rfl
  refine ae ?_
  have h := h _ rfl
  refine And.intro (fun c1 => ?_) (fun c1 => ?_)
  · have h := And.left h c1
    rw [if_pos c1] at hq
    have q9 := hq _ rfl
    exact q9 h
  · have h := And.right h c1
    rw [if_neg c1] at hq
    refine And.intro (And.left h) ?_
    have h := And.right h
    refine ae ?_
    have h := h _ rfl
    refine And.intro (And.left h) ?_
    have h := And.right h
    refine And.intro (fun c2 => ?_) (fun c2 => ?_)
    · have h := And.left h c2
      rw [if_pos c2] at hq
      have q9 := hq _ rfl
      exact q9 h
    · have h := And.right h c2
      rw [if_neg c2] at hq
      have q9 := hq _ rfl
      exact q9 h
theorem du_X10_isBelow {P Q : Int32 -> Prop} {p0 p1 : Int32} {m_x gR : Nat -> Int32} (h : wp_X10_isBelow P p0 p1 m_x gR) (hq : P (F_X10_isBelow p0 p1 m_x gR) -> Q (F_X10_isBelow p0 p1 m_x gR)) : wp_X10_isBelow Q p0 p1 m_x gR := dt_X10_isBelow h (fun o eo => by rw [eo]; exact hq)
theorem dw_X10_isBelow {Q : Int32 -> Prop} {p0 p1 : Int32} {m_x gR : Nat -> Int32} (h : wp_X10_isBelow (fun o0 => o0 = F_X10_isBelow p0 p1 m_x gR -> Q o0) p0 p1 m_x gR) : wp_X10_isBelow Q p0 p1 m_x gR := dt_X10_isBelow h (fun o eo hp => hp eo)
noncomputable def j_X10_below_42 {R : Type} (k5 : Int32 -> Int32 -> Int32 -> Int32 -> R) (bT : Int32) (m_x gR : Nat -> Int32) (x1 x2 x4 k0 k1 : Int32) : R := k5 x1 x2 (k0 ||| k1) (x4 + 1)
noncomputable def j_X10_below_41 {R : Type} (k5 : Int32 -> Int32 -> Int32 -> Int32 -> R) (bT : Int32) (m_x gR : Nat -> Int32) (x1 x2 x4 k0 : Int32) : R := j_X10_below_42 k5 bT m_x gR x1 x2 x4 k0 0
noncomputable def bd_X10_below_5 (bT : Int32) (m_x gR : Nat -> Int32) (x1 x2 c s : Int32) : Int32 := if (F_X10_has x2 c) = 0 then (j_X10_below_41 (fun q0 q1 q2 q3 => q2) bT m_x gR x1 x2 c s) else (if (F_X10_isBelow c x1 m_x gR) = 0 then (j_X10_below_41 (fun q0 q1 q2 q3 => q2) bT m_x gR x1 x2 c s) else (j_X10_below_42 (fun q0 q1 q2 q3 => q2) bT m_x gR x1 x2 c s (1 <<< (c &&& 31))))
noncomputable def ex_X10_below_5 {R : Type} (po : Int32 -> R) (bT : Int32) (m_x gR : Nat -> Int32) (x1 x2 c s : Int32) : R := po s
set_option maxHeartbeats 200000 in
set_option maxRecDepth 10000 in
theorem dl_X10_below_5 {P Q : Int32 -> Prop} {bT : Int32} {m_x gR : Nat -> Int32} {x1 x2 a : Int32} {i : Nat} (hi0 : i < 2147483648) (hE : ∀ (c : Int32) (s : Int32), c = nI (i + (Int32.toInt bT - ((i : Nat) : Int)).toNat) -> s = itr (bd_X10_below_5 bT m_x gR x1 x2) a i (Int32.toInt bT - ((i : Nat) : Int)).toNat -> (P s) -> (Q s)) : ∀ (n k : Nat) (c : Int32), c = nI (i + k) -> k <= (Int32.toInt bT - ((i : Nat) : Int)).toNat -> wb_X10_below_5 P bT m_x gR n x1 x2 (itr (bd_X10_below_5 bT m_x gR x1 x2) a i k) c -> wb_X10_below_5 Q bT m_x gR n x1 x2 (itr (bd_X10_below_5 bT m_x gR x1 x2) a i k) c := by
  intro n
  induction n with
  | zero => intro k c hc hk h; exact False.elim h
  | succ n ih =>
    intro k c hc hk h
    have hr := aAT bT
    have hi : Int32.toInt c = ((i + k : Nat) : Int) := by rw [hc]; exact nI_toInt (by omega)
    refine And.intro (fun t0 => ?_) (fun t0 => ?_)
    · have h := And.left h t0
      have t1 := (aAO _ _).mp t0
      have hk2 : k = (Int32.toInt bT - ((i : Nat) : Int)).toNat := by omega
      subst hk2
      exact hE _ _ hc rfl h
    · have h := And.right h t0
      have t1 := mt (aAO _ _).mpr t0
      have hs : ∀ o : Int32, o = itr (bd_X10_below_5 bT m_x gR x1 x2) a i (k + 1) -> wb_X10_below_5 P bT m_x gR n x1 x2 o (c + 1) -> wb_X10_below_5 Q bT m_x gR n x1 x2 o (c + 1) := by
        intro o eo h9
        have q := ih (k + 1) (c + 1) (by rw [hc]; exact nI_1 _) (by omega)
        rw [<- eo] at q
        exact q h9
      rw [itr_s, <- hc, bd_X10_below_5] at hs
      refine du_X10_has h ?_
      intro h
      refine And.intro (fun c1 => ?_) (fun c1 => ?_)
      · have h := And.left h c1
        rw [if_pos c1] at hs
        rw [j_X10_below_41] at hs
        unfold ws_X10_below_41 at h ⊢
        rw [j_X10_below_42] at hs
        unfold ws_X10_below_42 at h ⊢
        refine ae ?_
        have h := h _ rfl
        refine ae ?_
        have h := h _ rfl
        have q9 := hs _ rfl
        exact q9 h
      · have h := And.right h c1
        rw [if_neg c1] at hs
        refine du_X10_isBelow h ?_
        intro h
        refine And.intro (fun c2 => ?_) (fun c2 => ?_)
        · have h := And.left h c2
          rw [if_pos c2] at hs
          rw [j_X10_below_41] at hs
          unfold ws_X10_below_41 at h ⊢
          rw [j_X10_below_42] at hs
          unfold ws_X10_below_42 at h ⊢
          refine ae ?_
          have h := h _ rfl
          refine ae ?_
          have h := h _ rfl
          have q9 := hs _ rfl
          exact q9 h
        · have h := And.right h c2
          rw [if_neg c2] at hs
          refine ae ?_
          have h := h _ rfl
          rw [j_X10_below_42] at hs
          unfold ws_X10_below_42 at h ⊢
          refine ae ?_
          have h := h _ rfl
          refine ae ?_
          have h := h _ rfl
          have q9 := hs _ rfl
          exact q9 h
noncomputable def F_X10_below (p0 p1 bT : Int32) (m_x gR : Nat -> Int32) : Int32 := ex_X10_below_5 (fun o0 => o0) bT m_x gR p0 p1 (nI (0 + (Int32.toInt bT - ((0 : Nat) : Int)).toNat)) (itr (bd_X10_below_5 bT m_x gR p0 p1) 0 0 (Int32.toInt bT - ((0 : Nat) : Int)).toNat)
set_option maxHeartbeats 200000 in
set_option maxRecDepth 10000 in
theorem dt_X10_below {P Q : Int32 -> Prop} {p0 p1 bT : Int32} {m_x gR : Nat -> Int32} (h : wp_X10_below P p0 p1 bT m_x gR) (hq : ∀ o : Int32, o = F_X10_below p0 p1 bT m_x gR -> P o -> Q o) : wp_X10_below Q p0 p1 bT m_x gR := by
  rw [F_X10_below] at hq
  obtain ⟨n1, h⟩ := h
  refine ⟨n1, dl_X10_below_5 (a := 0) (i := 0) (by decide) ?_ n1 0 0 (by decide) (Nat.zero_le _) h⟩
  intro cc2 s3 ec4 es5 h
  rw [<- ec4, <- es5, ex_X10_below_5] at hq
  have q9 := hq _ rfl
  exact q9 h
theorem du_X10_below {P Q : Int32 -> Prop} {p0 p1 bT : Int32} {m_x gR : Nat -> Int32} (h : wp_X10_below P p0 p1 bT m_x gR) (hq : P (F_X10_below p0 p1 bT m_x gR) -> Q (F_X10_below p0 p1 bT m_x gR)) : wp_X10_below Q p0 p1 bT m_x gR := dt_X10_below h (fun o eo => by rw [eo]; exact hq)
theorem dw_X10_below {Q : Int32 -> Prop} {p0 p1 bT : Int32} {m_x gR : Nat -> Int32} (h : wp_X10_below (fun o0 => o0 = F_X10_below p0 p1 bT m_x gR -> Q o0) p0 p1 bT m_x gR) : wp_X10_below Q p0 p1 bT m_x gR := dt_X10_below h (fun o eo hp => hp eo)
noncomputable def F_X10_refusesMove (p0 aG : Int32) (qG : Nat -> Int32) : Int32 := if (aUD p0 aG) = 0 then (-1) else (if (qG (17 : Int32).toNatClampNeg) = p0 then (-2) else 0)
set_option maxHeartbeats 200000 in
set_option maxRecDepth 10000 in
theorem dt_X10_refusesMove {P Q : Int32 -> Prop} {p0 aG : Int32} {qG : Nat -> Int32} (h : bBs P p0 aG qG) (hq : ∀ o : Int32, o = F_X10_refusesMove p0 aG qG -> P o -> Q o) : bBs Q p0 aG qG := by
  rw [F_X10_refusesMove] at hq
  refine du_X10_isStanding h ?_
  intro h
  refine And.intro (fun c1 => ?_) (fun c1 => ?_)
  · have h := And.left h c1
    rw [if_neg c1] at hq
    refine ae ?_
    have h := h _ rfl
    refine And.intro (fun c2 => ?_) (fun c2 => ?_)
    · have h := And.left h c2
      rw [if_neg c2] at hq
      have q9 := hq _ rfl
      exact q9 h
    · have h := And.right h c2
      rw [if_pos c2] at hq
      have q9 := hq _ rfl
      exact q9 h
  · have h := And.right h c1
    rw [if_pos c1] at hq
    have q9 := hq _ rfl
    exact q9 h
theorem du_X10_refusesMove {P Q : Int32 -> Prop} {p0 aG : Int32} {qG : Nat -> Int32} (h : bBs P p0 aG qG) (hq : P (F_X10_refusesMove p0 aG qG) -> Q (F_X10_refusesMove p0 aG qG)) : bBs Q p0 aG qG := dt_X10_refusesMove h (fun o eo => by rw [eo]; exact hq)
theorem dw_X10_refusesMove {Q : Int32 -> Prop} {p0 aG : Int32} {qG : Nat -> Int32} (h : bBs (fun o0 => o0 = F_X10_refusesMove p0 aG qG -> Q o0) p0 aG qG) : bBs Q p0 aG qG := dt_X10_refusesMove h (fun o eo hp => hp eo)
noncomputable def bd_X10_lay_2 (qG : Nat -> Int32) (x2 c : Int32) (s : (Nat -> Int32)) : (Nat -> Int32) := (upd s (x2 + c).toNatClampNeg (qG c.toNatClampNeg))
noncomputable def ex_X10_lay_2 {R : Type} (po : (Nat -> Int32) -> R) (qG : Nat -> Int32) (x2 c : Int32) (s : (Nat -> Int32)) : R := po s
set_option maxHeartbeats 200000 in
set_option maxRecDepth 10000 in
theorem dl_X10_lay_2 {P Q : (Nat -> Int32) -> Prop} {qG : Nat -> Int32} {x2 : Int32} {a : (Nat -> Int32)} {i : Nat} (hi0 : i < 2147483648) (hE : ∀ (c : Int32) (s : (Nat -> Int32)), c = nI (i + (Int32.toInt 21 - ((i : Nat) : Int)).toNat) -> s = itr (bd_X10_lay_2 qG x2) a i (Int32.toInt 21 - ((i : Nat) : Int)).toNat -> (P s) -> (Q s)) : ∀ (n k : Nat) (c : Int32), c = nI (i + k) -> k <= (Int32.toInt 21 - ((i : Nat) : Int)).toNat -> wb_X10_lay_2 P qG n x2 c (itr (bd_X10_lay_2 qG x2) a i k) -> wb_X10_lay_2 Q qG n x2 c (itr (bd_X10_lay_2 qG x2) a i k) := by
  intro n
  induction n with
  | zero => intro k c hc hk h; exact False.elim h
  | succ n ih =>
    intro k c hc hk h
    have hr := aAT 21
    have hi : Int32.toInt c = ((i + k : Nat) : Int) := by rw [hc]; exact nI_toInt (by omega)
    refine And.intro (fun t0 => ?_) (fun t0 => ?_)
    · have h := And.left h t0
      have t1 := (aAO _ _).mp t0
      have hk2 : k = (Int32.toInt 21 - ((i : Nat) : Int)).toNat := by omega
      subst hk2
      exact hE _ _ hc rfl h
    · have h := And.right h t0
      have t1 := mt (aAO _ _).mpr t0
      have hs : ∀ o : (Nat -> Int32), o = itr (bd_X10_lay_2 qG x2) a i (k + 1) -> wb_X10_lay_2 P qG n x2 (c + 1) o -> wb_X10_lay_2 Q qG n x2 (c + 1) o := by
        intro o eo h9
        have q := ih (k + 1) (c + 1) (by rw [hc]; exact nI_1 _) (by omega)
        rw [<- eo] at q
        exact q h9
      rw [itr_s, <- hc, bd_X10_lay_2] at hs
      refine ae ?_
      have h := h _ rfl
      refine And.intro (And.left h) ?_
      have h := And.right h
      refine ae ?_
      have h := h _ rfl
      refine And.intro (And.left h) ?_
      have h := And.right h
      refine ae ?_
      have h := h _ rfl
      have q9 := hs _ rfl
      exact q9 h
noncomputable def F_X10_lay (p2 : Int32) (qG uL : Nat -> Int32) : (Nat -> Int32) := ex_X10_lay_2 (fun o0 => o0) qG p2 (nI (0 + (Int32.toInt 21 - ((0 : Nat) : Int)).toNat)) (itr (bd_X10_lay_2 qG p2) uL 0 (Int32.toInt 21 - ((0 : Nat) : Int)).toNat)
set_option maxHeartbeats 200000 in
set_option maxRecDepth 10000 in
theorem dt_X10_lay {P Q : (Nat -> Int32) -> Prop} {p2 : Int32} {qG uL : Nat -> Int32} (h : wp_X10_lay P p2 qG uL) (hq : ∀ o : (Nat -> Int32), o = F_X10_lay p2 qG uL -> P o -> Q o) : wp_X10_lay Q p2 qG uL := by
  rw [F_X10_lay] at hq
  obtain ⟨n1, h⟩ := h
  refine ⟨n1, dl_X10_lay_2 (a := uL) (i := 0) (by decide) ?_ n1 0 0 (by decide) (Nat.zero_le _) h⟩
  intro cc2 s3 ec4 es5 h
  rw [<- ec4, <- es5, ex_X10_lay_2] at hq
  have q9 := hq _ rfl
  exact q9 h
theorem du_X10_lay {P Q : (Nat -> Int32) -> Prop} {p2 : Int32} {qG uL : Nat -> Int32} (h : wp_X10_lay P p2 qG uL) (hq : P (F_X10_lay p2 qG uL) -> Q (F_X10_lay p2 qG uL)) : wp_X10_lay Q p2 qG uL := dt_X10_lay h (fun o eo => by rw [eo]; exact hq)
theorem dw_X10_lay {Q : (Nat -> Int32) -> Prop} {p2 : Int32} {qG uL : Nat -> Int32} (h : wp_X10_lay (fun o0 => o0 = F_X10_lay p2 qG uL -> Q o0) p2 qG uL) : wp_X10_lay Q p2 qG uL := dt_X10_lay h (fun o eo hp => hp eo)
noncomputable def bd_X10_remember_11 (qG : Nat -> Int32) (bU c : Int32) (s : (Nat -> Int32)) : (Nat -> Int32) := (upd s c.toNatClampNeg (s (c + 21).toNatClampNeg))
noncomputable def j_X10_remember_49 {R : Type} (po : Int32 -> (Nat -> Int32) -> R) (qG : Nat -> Int32) (bU : Int32) (uL : Nat -> Int32) : R := po (bU + 1) (F_X10_lay (21 * bU) qG uL)
noncomputable def ex_X10_remember_11 {R : Type} (po : Int32 -> (Nat -> Int32) -> R) (qG : Nat -> Int32) (bU c : Int32) (s : (Nat -> Int32)) : R := j_X10_remember_49 po qG (bU - 1) s
set_option maxHeartbeats 200000 in
set_option maxRecDepth 10000 in
theorem dl_X10_remember_11 {P Q : Int32 -> (Nat -> Int32) -> Prop} {qG : Nat -> Int32} {bU : Int32} {a : (Nat -> Int32)} {i : Nat} (hi0 : i < 2147483648) (hE : ∀ (c : Int32) (s : (Nat -> Int32)), c = nI (i + (Int32.toInt 231 - ((i : Nat) : Int)).toNat) -> s = itr (bd_X10_remember_11 qG bU) a i (Int32.toInt 231 - ((i : Nat) : Int)).toNat -> (∀ v_4 : Int32, v_4 = bU - 1 -> bCd P qG v_4 s) -> (∀ v_4 : Int32, v_4 = bU - 1 -> bCd Q qG v_4 s)) : ∀ (n k : Nat) (c : Int32), c = nI (i + k) -> k <= (Int32.toInt 231 - ((i : Nat) : Int)).toNat -> wb_X10_remember_11 P qG n c bU (itr (bd_X10_remember_11 qG bU) a i k) -> wb_X10_remember_11 Q qG n c bU (itr (bd_X10_remember_11 qG bU) a i k) := by
  intro n
  induction n with
  | zero => intro k c hc hk h; exact False.elim h
  | succ n ih =>
    intro k c hc hk h
    have hr := aAT 231
    have hi : Int32.toInt c = ((i + k : Nat) : Int) := by rw [hc]; exact nI_toInt (by omega)
    refine And.intro (fun t0 => ?_) (fun t0 => ?_)
    · have h := And.left h t0
      have t1 := (aAO _ _).mp t0
      have hk2 : k = (Int32.toInt 231 - ((i : Nat) : Int)).toNat := by omega
      subst hk2
      exact hE _ _ hc rfl h
    · have h := And.right h t0
      have t1 := mt (aAO _ _).mpr t0
      have hs : ∀ o : (Nat -> Int32), o = itr (bd_X10_remember_11 qG bU) a i (k + 1) -> wb_X10_remember_11 P qG n (c + 1) bU o -> wb_X10_remember_11 Q qG n (c + 1) bU o := by
        intro o eo h9
        have q := ih (k + 1) (c + 1) (by rw [hc]; exact nI_1 _) (by omega)
        rw [<- eo] at q
        exact q h9
      rw [itr_s, <- hc, bd_X10_remember_11] at hs
      refine ae ?_
      have h := h _ rfl
      refine And.intro (And.left h) ?_
      have h := And.right h
      refine ae ?_
      have h := h _ rfl
      refine And.intro (And.left h) ?_
      have h := And.right h
      refine ae ?_
      have h := h _ rfl
      have q9 := hs _ rfl
      exact q9 h
noncomputable def aNN (bU : Int32) (qG uL : Nat -> Int32) : Int32 × (Nat -> Int32) := if bU = 12 then (ex_X10_remember_11 (fun o0 o1 => (o0, o1)) qG bU (nI (0 + (Int32.toInt 231 - ((0 : Nat) : Int)).toNat)) (itr (bd_X10_remember_11 qG bU) uL 0 (Int32.toInt 231 - ((0 : Nat) : Int)).toNat)) else (j_X10_remember_49 (fun o0 o1 => (o0, o1)) qG bU uL)
set_option maxHeartbeats 200000 in
set_option maxRecDepth 10000 in
theorem dt_X10_remember {P Q : Int32 -> (Nat -> Int32) -> Prop} {bU : Int32} {qG uL : Nat -> Int32} (h : aUa P bU qG uL) (hq : ∀ o : Int32 × (Nat -> Int32), o = aNN bU qG uL -> P o.1 o.2 -> Q o.1 o.2) : aUa Q bU qG uL := by
  rw [aNN] at hq
  refine And.intro (fun c1 => ?_) (fun c1 => ?_)
  · have h := And.left h c1
    rw [if_neg c1] at hq
    rw [j_X10_remember_49] at hq
    unfold bCd at h ⊢
    refine ae ?_
    have h := h _ rfl
    refine du_X10_lay h ?_
    intro h
    refine ae ?_
    have h := h _ rfl
    have q9 := hq _ rfl
    dsimp only at q9
    exact q9 h
  · have h := And.right h c1
    rw [if_pos c1] at hq
    obtain ⟨n2, h⟩ := h
    refine ⟨n2, dl_X10_remember_11 (a := uL) (i := 0) (by decide) ?_ n2 0 0 (by decide) (Nat.zero_le _) h⟩
    intro cc3 s4 ec5 es6 h
    rw [<- ec5, <- es6, ex_X10_remember_11] at hq
    refine ae ?_
    have h := h _ rfl
    rw [j_X10_remember_49] at hq
    unfold bCd at h ⊢
    refine ae ?_
    have h := h _ rfl
    refine du_X10_lay h ?_
    intro h
    refine ae ?_
    have h := h _ rfl
    have q9 := hq _ rfl
    dsimp only at q9
    exact q9 h
theorem du_X10_remember {P Q : Int32 -> (Nat -> Int32) -> Prop} {bU : Int32} {qG uL : Nat -> Int32} (h : aUa P bU qG uL) (hq : P (aNN bU qG uL).1 (aNN bU qG uL).2 -> Q (aNN bU qG uL).1 (aNN bU qG uL).2) : aUa Q bU qG uL := dt_X10_remember h (fun o eo => by rw [eo]; exact hq)
theorem dw_X10_remember {Q : Int32 -> (Nat -> Int32) -> Prop} {bU : Int32} {qG uL : Nat -> Int32} (h : aUa (fun o0 o1 => (o0, o1) = aNN bU qG uL -> Q o0 o1) bU qG uL) : aUa Q bU qG uL := dt_X10_remember h (fun o eo hp => hp eo)
noncomputable def F_X10_moveOf (p0 p1 : Int32) (nG pJ : Nat -> Int32) : Int32 := if p0 = (-1) then 9 else (9 + ((pJ (3 : Int32).toNatClampNeg) * (if 0 <= ((nG p0.toNatClampNeg) - (nG p1.toNatClampNeg)) then ((nG p0.toNatClampNeg) - (nG p1.toNatClampNeg)) else 0 - ((nG p0.toNatClampNeg) - (nG p1.toNatClampNeg)))))
set_option maxHeartbeats 200000 in
set_option maxRecDepth 10000 in
theorem dt_X10_moveOf {P Q : Int32 -> Prop} {p0 p1 : Int32} {nG pJ : Nat -> Int32} (h : bCI P p0 p1 nG pJ) (hq : ∀ o : Int32, o = F_X10_moveOf p0 p1 nG pJ -> P o -> Q o) : bCI Q p0 p1 nG pJ := by
  rw [F_X10_moveOf] at hq
  refine And.intro (fun c1 => ?_) (fun c1 => ?_)
  · have h := And.left h c1
    rw [if_neg c1] at hq
    refine ae ?_
    have h := h _ rfl
    refine And.intro (And.left h) ?_
    have h := And.right h
    refine ae ?_
    have h := h _ rfl
    refine And.intro (And.left h) ?_
    have h := And.right h
    refine ae ?_
    have h := h _ rfl
    refine ae ?_
    have h := h _ rfl
    have q9 := hq _ rfl
    exact q9 h
  · have h := And.right h c1
    rw [if_pos c1] at hq
    have q9 := hq _ rfl
    exact q9 h
theorem du_X10_moveOf {P Q : Int32 -> Prop} {p0 p1 : Int32} {nG pJ : Nat -> Int32} (h : bCI P p0 p1 nG pJ) (hq : P (F_X10_moveOf p0 p1 nG pJ) -> Q (F_X10_moveOf p0 p1 nG pJ)) : bCI Q p0 p1 nG pJ := dt_X10_moveOf h (fun o eo => by rw [eo]; exact hq)
theorem dw_X10_moveOf {Q : Int32 -> Prop} {p0 p1 : Int32} {nG pJ : Nat -> Int32} (h : bCI (fun o0 => o0 = F_X10_moveOf p0 p1 nG pJ -> Q o0) p0 p1 nG pJ) : bCI Q p0 p1 nG pJ := dt_X10_moveOf h (fun o eo hp => hp eo)
noncomputable def j_X10_empty_35 {R : Type} (k4 : Int32 -> Int32 -> (Nat -> Int32) -> R) (bT x1 x2 : Int32) (qG : Nat -> Int32) : R := k4 x1 (x2 + 1) qG
noncomputable def bd_X10_empty_4 (bT c : Int32) (s : Int32 × (Nat -> Int32)) : Int32 × (Nat -> Int32) := if (s.2 c.toNatClampNeg) = 1 then (j_X10_empty_35 (fun q0 q1 q2 => (q0, q2)) bT (s.1 + 1) c (upd s.2 c.toNatClampNeg 2)) else (j_X10_empty_35 (fun q0 q1 q2 => (q0, q2)) bT s.1 c s.2)
noncomputable def ex_X10_empty_4 {R : Type} (po : Int32 -> (Nat -> Int32) -> R) (bT c : Int32) (s : Int32 × (Nat -> Int32)) : R := po s.1 s.2
set_option maxHeartbeats 200000 in
set_option maxRecDepth 10000 in
theorem dl_X10_empty_4 {P Q : Int32 -> (Nat -> Int32) -> Prop} {bT : Int32} {a : Int32 × (Nat -> Int32)} {i : Nat} (hi0 : i < 2147483648) (hE : ∀ (c : Int32) (s : Int32 × (Nat -> Int32)), c = nI (i + (Int32.toInt bT - ((i : Nat) : Int)).toNat) -> s = itr (bd_X10_empty_4 bT) a i (Int32.toInt bT - ((i : Nat) : Int)).toNat -> (P s.1 s.2) -> (Q s.1 s.2)) : ∀ (n k : Nat) (c : Int32), c = nI (i + k) -> k <= (Int32.toInt bT - ((i : Nat) : Int)).toNat -> wb_X10_empty_4 P bT n (itr (bd_X10_empty_4 bT) a i k).1 c (itr (bd_X10_empty_4 bT) a i k).2 -> wb_X10_empty_4 Q bT n (itr (bd_X10_empty_4 bT) a i k).1 c (itr (bd_X10_empty_4 bT) a i k).2 := by
  intro n
  induction n with
  | zero => intro k c hc hk h; exact False.elim h
  | succ n ih =>
    intro k c hc hk h
    have hr := aAT bT
    have hi : Int32.toInt c = ((i + k : Nat) : Int) := by rw [hc]; exact nI_toInt (by omega)
    refine And.intro (fun t0 => ?_) (fun t0 => ?_)
    · have h := And.left h t0
      have t1 := (aAO _ _).mp t0
      have hk2 : k = (Int32.toInt bT - ((i : Nat) : Int)).toNat := by omega
      subst hk2
      exact hE _ _ hc rfl h
    · have h := And.right h t0
      have t1 := mt (aAO _ _).mpr t0
      have hs : ∀ o : Int32 × (Nat -> Int32), o = itr (bd_X10_empty_4 bT) a i (k + 1) -> wb_X10_empty_4 P bT n o.1 (c + 1) o.2 -> wb_X10_empty_4 Q bT n o.1 (c + 1) o.2 := by
        intro o eo h9
        have q := ih (k + 1) (c + 1) (by rw [hc]; exact nI_1 _) (by omega)
        rw [<- eo] at q
        exact q h9
      rw [itr_s, <- hc, bd_X10_empty_4] at hs
      refine And.intro (And.left h) ?_
      have h := And.right h
      refine ae ?_
      have h := h _ rfl
      refine And.intro (fun c1 => ?_) (fun c1 => ?_)
      · have h := And.left h c1
        rw [if_pos c1] at hs
        refine And.intro (And.left h) ?_
        have h := And.right h
        refine ae ?_
        have h := h _ rfl
        rw [j_X10_empty_35] at hs
        unfold ws_X10_empty_35 at h ⊢
        refine ae ?_
        have h := h _ rfl
        have q9 := hs _ rfl
        dsimp only at q9
        exact q9 h
      · have h := And.right h c1
        rw [if_neg c1] at hs
        rw [j_X10_empty_35] at hs
        unfold ws_X10_empty_35 at h ⊢
        refine ae ?_
        have h := h _ rfl
        have q9 := hs _ rfl
        dsimp only at q9
        exact q9 h
noncomputable def F_X10_empty (bT : Int32) (qG : Nat -> Int32) : Int32 × (Nat -> Int32) := ex_X10_empty_4 (fun o0 o1 => (o0, o1)) bT (nI (0 + (Int32.toInt bT - ((0 : Nat) : Int)).toNat)) (itr (bd_X10_empty_4 bT) (0, qG) 0 (Int32.toInt bT - ((0 : Nat) : Int)).toNat)
set_option maxHeartbeats 200000 in
set_option maxRecDepth 10000 in
theorem dt_X10_empty {P Q : Int32 -> (Nat -> Int32) -> Prop} {bT : Int32} {qG : Nat -> Int32} (h : wp_X10_empty P bT qG) (hq : ∀ o : Int32 × (Nat -> Int32), o = F_X10_empty bT qG -> P o.1 o.2 -> Q o.1 o.2) : wp_X10_empty Q bT qG := by
  rw [F_X10_empty] at hq
  obtain ⟨n1, h⟩ := h
  refine ⟨n1, dl_X10_empty_4 (a := (0, qG)) (i := 0) (by decide) ?_ n1 0 0 (by decide) (Nat.zero_le _) h⟩
  intro cc2 s3 ec4 es5 h
  rw [<- ec4, <- es5, ex_X10_empty_4] at hq
  have q9 := hq _ rfl
  dsimp only at q9
  exact q9 h
theorem du_X10_empty {P Q : Int32 -> (Nat -> Int32) -> Prop} {bT : Int32} {qG : Nat -> Int32} (h : wp_X10_empty P bT qG) (hq : P (F_X10_empty bT qG).1 (F_X10_empty bT qG).2 -> Q (F_X10_empty bT qG).1 (F_X10_empty bT qG).2) : wp_X10_empty Q bT qG := dt_X10_empty h (fun o eo => by rw [eo]; exact hq)
theorem dw_X10_empty {Q : Int32 -> (Nat -> Int32) -> Prop} {bT : Int32} {qG : Nat -> Int32} (h : wp_X10_empty (fun o0 o1 => (o0, o1) = F_X10_empty bT qG -> Q o0 o1) bT qG) : wp_X10_empty Q bT qG := dt_X10_empty h (fun o eo hp => hp eo)
noncomputable def F_X10_passBy (p0 : Int32) (qG : Nat -> Int32) : (Nat -> Int32) := (upd qG (20 : Int32).toNatClampNeg (if ((qG (20 : Int32).toNatClampNeg) + p0) < 9999 then ((qG (20 : Int32).toNatClampNeg) + p0) else 9999))
set_option maxHeartbeats 200000 in
set_option maxRecDepth 10000 in
theorem dt_X10_passBy {P Q : (Nat -> Int32) -> Prop} {p0 : Int32} {qG : Nat -> Int32} (h : wp_X10_passBy P p0 qG) (hq : ∀ o : (Nat -> Int32), o = F_X10_passBy p0 qG -> P o -> Q o) : wp_X10_passBy Q p0 qG := by
  rw [F_X10_passBy] at hq
  refine ae ?_
  have h := h _ rfl
  refine ae ?_
  have h := h _ rfl
  refine ae ?_
  have h := h _ rfl
  have q9 := hq _ rfl
  exact q9 h
theorem du_X10_passBy {P Q : (Nat -> Int32) -> Prop} {p0 : Int32} {qG : Nat -> Int32} (h : wp_X10_passBy P p0 qG) (hq : P (F_X10_passBy p0 qG) -> Q (F_X10_passBy p0 qG)) : wp_X10_passBy Q p0 qG := dt_X10_passBy h (fun o eo => by rw [eo]; exact hq)
theorem dw_X10_passBy {Q : (Nat -> Int32) -> Prop} {p0 : Int32} {qG : Nat -> Int32} (h : wp_X10_passBy (fun o0 => o0 = F_X10_passBy p0 qG -> Q o0) p0 qG) : wp_X10_passBy Q p0 qG := dt_X10_passBy h (fun o eo hp => hp eo)
noncomputable def j_X10_goMove_50 {R : Type} (po : Int32 -> (Nat -> Int32) -> R) (bT : Int32) (nG oO pJ : Nat -> Int32) (x1 x2 : Int32) (qG : Nat -> Int32) : R := po x2 (F_X10_passBy x2 (upd (F_X10_empty bT qG).2 (17 : Int32).toNatClampNeg x1))
noncomputable def F_X10_goMove (p0 bT : Int32) (qG nG oO pJ : Nat -> Int32) : Int32 × (Nat -> Int32) := if (aUf 1 bT qG) = 0 then (j_X10_goMove_50 (fun o0 o1 => (o0, o1)) bT nG oO pJ p0 (F_X10_moveOf (qG (17 : Int32).toNatClampNeg) p0 nG pJ) qG) else (if (qG (17 : Int32).toNatClampNeg) = (-1) then (j_X10_goMove_50 (fun o0 o1 => (o0, o1)) bT nG oO pJ p0 (F_X10_moveOf (qG (17 : Int32).toNatClampNeg) p0 nG pJ) qG) else (j_X10_goMove_50 (fun o0 o1 => (o0, o1)) bT nG oO pJ p0 ((F_X10_moveOf (qG (17 : Int32).toNatClampNeg) p0 nG pJ) + (F_X10_downOf (qG (17 : Int32).toNatClampNeg) oO)) qG))
set_option maxHeartbeats 200000 in
set_option maxRecDepth 10000 in
theorem dt_X10_goMove {P Q : Int32 -> (Nat -> Int32) -> Prop} {p0 bT : Int32} {qG nG oO pJ : Nat -> Int32} (h : wp_X10_goMove P p0 bT qG nG oO pJ) (hq : ∀ o : Int32 × (Nat -> Int32), o = F_X10_goMove p0 bT qG nG oO pJ -> P o.1 o.2 -> Q o.1 o.2) : wp_X10_goMove Q p0 bT qG nG oO pJ := by
  rw [F_X10_goMove] at hq
  refine ae ?_
  have h := h _ rfl
  refine du_X10_moveOf h ?_
  intro h
  refine du_X10_which h ?_
  intro h
  refine And.intro (fun c1 => ?_) (fun c1 => ?_)
  · have h := And.left h c1
    rw [if_pos c1] at hq
    rw [j_X10_goMove_50] at hq
    unfold ws_X10_goMove_50 at h ⊢
    refine du_X10_empty h ?_
    intro h
    refine du_X10_passBy h ?_
    intro h
    have q9 := hq _ rfl
    dsimp only at q9
    exact q9 h
  · have h := And.right h c1
    rw [if_neg c1] at hq
    refine ae ?_
    have h := h _ rfl
    refine And.intro (fun c2 => ?_) (fun c2 => ?_)
    · have h := And.left h c2
      rw [if_pos c2] at hq
      rw [j_X10_goMove_50] at hq
      unfold ws_X10_goMove_50 at h ⊢
      refine du_X10_empty h ?_
      intro h
      refine du_X10_passBy h ?_
      intro h
      have q9 := hq _ rfl
      dsimp only at q9
      exact q9 h
    · have h := And.right h c2
      rw [if_neg c2] at hq
      refine ae ?_
      have h := h _ rfl
      refine du_X10_downOf h ?_
      intro h
      refine ae ?_
      have h := h _ rfl
      rw [j_X10_goMove_50] at hq
      unfold ws_X10_goMove_50 at h ⊢
      refine du_X10_empty h ?_
      intro h
      refine du_X10_passBy h ?_
      intro h
      have q9 := hq _ rfl
      dsimp only at q9
      exact q9 h
theorem du_X10_goMove {P Q : Int32 -> (Nat -> Int32) -> Prop} {p0 bT : Int32} {qG nG oO pJ : Nat -> Int32} (h : wp_X10_goMove P p0 bT qG nG oO pJ) (hq : P (F_X10_goMove p0 bT qG nG oO pJ).1 (F_X10_goMove p0 bT qG nG oO pJ).2 -> Q (F_X10_goMove p0 bT qG nG oO pJ).1 (F_X10_goMove p0 bT qG nG oO pJ).2) : wp_X10_goMove Q p0 bT qG nG oO pJ := dt_X10_goMove h (fun o eo => by rw [eo]; exact hq)
theorem dw_X10_goMove {Q : Int32 -> (Nat -> Int32) -> Prop} {p0 bT : Int32} {qG nG oO pJ : Nat -> Int32} (h : wp_X10_goMove (fun o0 o1 => (o0, o1) = F_X10_goMove p0 bT qG nG oO pJ -> Q o0 o1) p0 bT qG nG oO pJ) : wp_X10_goMove Q p0 bT qG nG oO pJ := dt_X10_goMove h (fun o eo hp => hp eo)
noncomputable def F_X10_move (p0 bT aG bY bU : Int32) (qG nG oO pJ uL : Nat -> Int32) : Int32 × Int32 × Int32 × (Nat -> Int32) × (Nat -> Int32) := if 0 <= (F_X10_refusesMove p0 aG qG) then ((F_X10_goMove p0 bT qG nG oO pJ).1, 0, (aNN bU qG uL).1, (F_X10_goMove p0 bT qG nG oO pJ).2, (aNN bU qG uL).2) else ((F_X10_refusesMove p0 aG qG), 0, bU, qG, uL)
set_option maxHeartbeats 200000 in
set_option maxRecDepth 10000 in
theorem dt_X10_move {P Q : Int32 -> Int32 -> Int32 -> (Nat -> Int32) -> (Nat -> Int32) -> Prop} {p0 bT aG bY bU : Int32} {qG nG oO pJ uL : Nat -> Int32} (h : wp_X10_move P p0 bT aG bY bU qG nG oO pJ uL) (hq : ∀ o : Int32 × Int32 × Int32 × (Nat -> Int32) × (Nat -> Int32), o = F_X10_move p0 bT aG bY bU qG nG oO pJ uL -> P o.1 o.2.1 o.2.2.1 o.2.2.2.1 o.2.2.2.2 -> Q o.1 o.2.1 o.2.2.1 o.2.2.2.1 o.2.2.2.2) : wp_X10_move Q p0 bT aG bY bU qG nG oO pJ uL := by
  rw [F_X10_move] at hq
  refine du_X10_refusesMove h ?_
  intro h
  refine And.intro (fun c1 => ?_) (fun c1 => ?_)
  · have h := And.left h c1
    rw [if_pos c1] at hq
    refine du_X10_remember h ?_
    intro h
    refine du_X10_goMove h ?_
    intro h
    have q9 := hq _ rfl
    dsimp only at q9
    exact q9 h
  · have h := And.right h c1
    rw [if_neg c1] at hq
    have q9 := hq _ rfl
    dsimp only at q9
    exact q9 h
theorem du_X10_move {P Q : Int32 -> Int32 -> Int32 -> (Nat -> Int32) -> (Nat -> Int32) -> Prop} {p0 bT aG bY bU : Int32} {qG nG oO pJ uL : Nat -> Int32} (h : wp_X10_move P p0 bT aG bY bU qG nG oO pJ uL) (hq : P (F_X10_move p0 bT aG bY bU qG nG oO pJ uL).1 (F_X10_move p0 bT aG bY bU qG nG oO pJ uL).2.1 (F_X10_move p0 bT aG bY bU qG nG oO pJ uL).2.2.1 (F_X10_move p0 bT aG bY bU qG nG oO pJ uL).2.2.2.1 (F_X10_move p0 bT aG bY bU qG nG oO pJ uL).2.2.2.2 -> Q (F_X10_move p0 bT aG bY bU qG nG oO pJ uL).1 (F_X10_move p0 bT aG bY bU qG nG oO pJ uL).2.1 (F_X10_move p0 bT aG bY bU qG nG oO pJ uL).2.2.1 (F_X10_move p0 bT aG bY bU qG nG oO pJ uL).2.2.2.1 (F_X10_move p0 bT aG bY bU qG nG oO pJ uL).2.2.2.2) : wp_X10_move Q p0 bT aG bY bU qG nG oO pJ uL := dt_X10_move h (fun o eo => by rw [eo]; exact hq)
theorem dw_X10_move {Q : Int32 -> Int32 -> Int32 -> (Nat -> Int32) -> (Nat -> Int32) -> Prop} {p0 bT aG bY bU : Int32} {qG nG oO pJ uL : Nat -> Int32} (h : wp_X10_move (fun o0 o1 o2 o3 o4 => (o0, o1, o2, o3, o4) = F_X10_move p0 bT aG bY bU qG nG oO pJ uL -> Q o0 o1 o2 o3 o4) p0 bT aG bY bU qG nG oO pJ uL) : wp_X10_move Q p0 bT aG bY bU qG nG oO pJ uL := dt_X10_move h (fun o eo hp => hp eo)
noncomputable def F_X10_foot (p0 bY bU : Int32) (qG uL : Nat -> Int32) : Int32 × Int32 × Int32 × (Nat -> Int32) × (Nat -> Int32) := if (aUe p0 0 1) = 0 then ((-1), 0, bU, qG, uL) else ((qG (18 : Int32).toNatClampNeg), 0, (aNN bU qG uL).1, (upd qG (18 : Int32).toNatClampNeg p0), (aNN bU qG uL).2)
set_option maxHeartbeats 200000 in
set_option maxRecDepth 10000 in
theorem dt_X10_foot {P Q : Int32 -> Int32 -> Int32 -> (Nat -> Int32) -> (Nat -> Int32) -> Prop} {p0 bY bU : Int32} {qG uL : Nat -> Int32} (h : wp_X10_foot P p0 bY bU qG uL) (hq : ∀ o : Int32 × Int32 × Int32 × (Nat -> Int32) × (Nat -> Int32), o = F_X10_foot p0 bY bU qG uL -> P o.1 o.2.1 o.2.2.1 o.2.2.2.1 o.2.2.2.2 -> Q o.1 o.2.1 o.2.2.1 o.2.2.2.1 o.2.2.2.2) : wp_X10_foot Q p0 bY bU qG uL := by
  rw [F_X10_foot] at hq
  refine du_X10_in h ?_
  intro h
  refine And.intro (fun c1 => ?_) (fun c1 => ?_)
  · have h := And.left h c1
    rw [if_neg c1] at hq
    refine du_X10_remember h ?_
    intro h
    refine ae ?_
    have h := h _ rfl
    have q9 := hq _ rfl
    dsimp only at q9
    exact q9 h
  · have h := And.right h c1
    rw [if_pos c1] at hq
    have q9 := hq _ rfl
    dsimp only at q9
    exact q9 h
theorem du_X10_foot {P Q : Int32 -> Int32 -> Int32 -> (Nat -> Int32) -> (Nat -> Int32) -> Prop} {p0 bY bU : Int32} {qG uL : Nat -> Int32} (h : wp_X10_foot P p0 bY bU qG uL) (hq : P (F_X10_foot p0 bY bU qG uL).1 (F_X10_foot p0 bY bU qG uL).2.1 (F_X10_foot p0 bY bU qG uL).2.2.1 (F_X10_foot p0 bY bU qG uL).2.2.2.1 (F_X10_foot p0 bY bU qG uL).2.2.2.2 -> Q (F_X10_foot p0 bY bU qG uL).1 (F_X10_foot p0 bY bU qG uL).2.1 (F_X10_foot p0 bY bU qG uL).2.2.1 (F_X10_foot p0 bY bU qG uL).2.2.2.1 (F_X10_foot p0 bY bU qG uL).2.2.2.2) : wp_X10_foot Q p0 bY bU qG uL := dt_X10_foot h (fun o eo => by rw [eo]; exact hq)
theorem dw_X10_foot {Q : Int32 -> Int32 -> Int32 -> (Nat -> Int32) -> (Nat -> Int32) -> Prop} {p0 bY bU : Int32} {qG uL : Nat -> Int32} (h : wp_X10_foot (fun o0 o1 o2 o3 o4 => (o0, o1, o2, o3, o4) = F_X10_foot p0 bY bU qG uL -> Q o0 o1 o2 o3 o4) p0 bY bU qG uL) : wp_X10_foot Q p0 bY bU qG uL := dt_X10_foot h (fun o eo hp => hp eo)
noncomputable def F_X10_refusesPick (p0 p1 bT : Int32) (qG m_x gR qR nG oO pJ : Nat -> Int32) : Int32 := if (F_X10_isFruit p0 bT) = 0 then (-1) else (if (aUe p1 0 1) = 0 then (-1) else (if (qG p0.toNatClampNeg) = 0 then (if (qR p0.toNatClampNeg) <= (qG (19 : Int32).toNatClampNeg) then (if (qG (17 : Int32).toNatClampNeg) = (-1) then (-4) else (if (bAx p0 (qG (17 : Int32).toNatClampNeg) (F_X10_reachBy (qG (18 : Int32).toNatClampNeg) p1 pJ) m_x gR nG oO) = 0 then (-4) else (if (aLS (aUf 1 bT qG)) < (pJ (4 : Int32).toNatClampNeg) then 0 else (-5)))) else (-3)) else (-2)))
set_option maxHeartbeats 200000 in
set_option maxRecDepth 10000 in
theorem dt_X10_refusesPick {P Q : Int32 -> Prop} {p0 p1 bT : Int32} {qG m_x gR qR nG oO pJ : Nat -> Int32} (h : bBt P p0 p1 bT qG m_x gR qR nG oO pJ) (hq : ∀ o : Int32, o = F_X10_refusesPick p0 p1 bT qG m_x gR qR nG oO pJ -> P o -> Q o) : bBt Q p0 p1 bT qG m_x gR qR nG oO pJ := by
  rw [F_X10_refusesPick] at hq
  refine du_X10_isFruit h ?_
  intro h
  refine And.intro (fun c1 => ?_) (fun c1 => ?_)
  · have h := And.left h c1
    rw [if_pos c1] at hq
    have q9 := hq _ rfl
    exact q9 h
  · have h := And.right h c1
    rw [if_neg c1] at hq
    refine du_X10_in h ?_
    intro h
    refine And.intro (fun c2 => ?_) (fun c2 => ?_)
    · have h := And.left h c2
      rw [if_neg c2] at hq
      refine And.intro (And.left h) ?_
      have h := And.right h
      refine And.intro (fun c3 => ?_) (fun c3 => ?_)
      · have h := And.left h c3
        rw [if_pos c3] at hq
        refine And.intro (And.left h) ?_
        have h := And.right h
        refine ae ?_
        have h := h _ rfl
        refine And.intro (fun c4 => ?_) (fun c4 => ?_)
        · have h := And.left h c4
          rw [if_pos c4] at hq
          refine ae ?_
          have h := h _ rfl
          refine And.intro (fun c5 => ?_) (fun c5 => ?_)
          · have h := And.left h c5
            rw [if_pos c5] at hq
            have q9 := hq _ rfl
            exact q9 h
          · have h := And.right h c5
            rw [if_neg c5] at hq
            refine ae ?_
            have h := h _ rfl
            refine ae ?_
            have h := h _ rfl
            refine du_X10_reachBy h ?_
            intro h
            refine du_X10_isWithin h ?_
            intro h
            refine And.intro (fun c6 => ?_) (fun c6 => ?_)
            · have h := And.left h c6
              rw [if_neg c6] at hq
              refine du_X10_which h ?_
              intro h
              refine du_J6_bitCount_0f7a4 h ?_
              intro h
              refine And.intro (fun c7 => ?_) (fun c7 => ?_)
              · have h := And.left h c7
                rw [if_pos c7] at hq
                have q9 := hq _ rfl
                exact q9 h
              · have h := And.right h c7
                rw [if_neg c7] at hq
                have q9 := hq _ rfl
                exact q9 h
            · have h := And.right h c6
              rw [if_pos c6] at hq
              have q9 := hq _ rfl
              exact q9 h
        · have h := And.right h c4
          rw [if_neg c4] at hq
          have q9 := hq _ rfl
          exact q9 h
      · have h := And.right h c3
        rw [if_neg c3] at hq
        have q9 := hq _ rfl
        exact q9 h
    · have h := And.right h c2
      rw [if_pos c2] at hq
      have q9 := hq _ rfl
      exact q9 h
theorem du_X10_refusesPick {P Q : Int32 -> Prop} {p0 p1 bT : Int32} {qG m_x gR qR nG oO pJ : Nat -> Int32} (h : bBt P p0 p1 bT qG m_x gR qR nG oO pJ) (hq : P (F_X10_refusesPick p0 p1 bT qG m_x gR qR nG oO pJ) -> Q (F_X10_refusesPick p0 p1 bT qG m_x gR qR nG oO pJ)) : bBt Q p0 p1 bT qG m_x gR qR nG oO pJ := dt_X10_refusesPick h (fun o eo => by rw [eo]; exact hq)
theorem dw_X10_refusesPick {Q : Int32 -> Prop} {p0 p1 bT : Int32} {qG m_x gR qR nG oO pJ : Nat -> Int32} (h : bBt (fun o0 => o0 = F_X10_refusesPick p0 p1 bT qG m_x gR qR nG oO pJ -> Q o0) p0 p1 bT qG m_x gR qR nG oO pJ) : bBt Q p0 p1 bT qG m_x gR qR nG oO pJ := dt_X10_refusesPick h (fun o eo hp => hp eo)
noncomputable def F_X10_begin_b2 (p1 p2 : Int32) (jD : Nat) (mLn oF rP dQ : Int32) : Nat × Int32 × Int32 × Int32 × Int32 := (2, p1, p2, 0, (-1))
set_option maxHeartbeats 200000 in
set_option maxRecDepth 10000 in
theorem dt_X10_begin_b2 {P Q : Nat -> Int32 -> Int32 -> Int32 -> Int32 -> Prop} {p1 p2 : Int32} {jD : Nat} {mLn oF rP dQ : Int32} (h : wp_X10_begin_b2 P p1 p2 jD mLn oF rP dQ) (hq : ∀ o : Nat × Int32 × Int32 × Int32 × Int32, o = F_X10_begin_b2 p1 p2 jD mLn oF rP dQ -> P o.1 o.2.1 o.2.2.1 o.2.2.2.1 o.2.2.2.2 -> Q o.1 o.2.1 o.2.2.1 o.2.2.2.1 o.2.2.2.2) : wp_X10_begin_b2 Q p1 p2 jD mLn oF rP dQ := by
  rw [F_X10_begin_b2] at hq
  have q9 := hq _ rfl
  dsimp only at q9
  exact q9 h
theorem du_X10_begin_b2 {P Q : Nat -> Int32 -> Int32 -> Int32 -> Int32 -> Prop} {p1 p2 : Int32} {jD : Nat} {mLn oF rP dQ : Int32} (h : wp_X10_begin_b2 P p1 p2 jD mLn oF rP dQ) (hq : P (F_X10_begin_b2 p1 p2 jD mLn oF rP dQ).1 (F_X10_begin_b2 p1 p2 jD mLn oF rP dQ).2.1 (F_X10_begin_b2 p1 p2 jD mLn oF rP dQ).2.2.1 (F_X10_begin_b2 p1 p2 jD mLn oF rP dQ).2.2.2.1 (F_X10_begin_b2 p1 p2 jD mLn oF rP dQ).2.2.2.2 -> Q (F_X10_begin_b2 p1 p2 jD mLn oF rP dQ).1 (F_X10_begin_b2 p1 p2 jD mLn oF rP dQ).2.1 (F_X10_begin_b2 p1 p2 jD mLn oF rP dQ).2.2.1 (F_X10_begin_b2 p1 p2 jD mLn oF rP dQ).2.2.2.1 (F_X10_begin_b2 p1 p2 jD mLn oF rP dQ).2.2.2.2) : wp_X10_begin_b2 Q p1 p2 jD mLn oF rP dQ := dt_X10_begin_b2 h (fun o eo => by rw [eo]; exact hq)
theorem dw_X10_begin_b2 {Q : Nat -> Int32 -> Int32 -> Int32 -> Int32 -> Prop} {p1 p2 : Int32} {jD : Nat} {mLn oF rP dQ : Int32} (h : wp_X10_begin_b2 (fun o0 o1 o2 o3 o4 => (o0, o1, o2, o3, o4) = F_X10_begin_b2 p1 p2 jD mLn oF rP dQ -> Q o0 o1 o2 o3 o4) p1 p2 jD mLn oF rP dQ) : wp_X10_begin_b2 Q p1 p2 jD mLn oF rP dQ := dt_X10_begin_b2 h (fun o eo hp => hp eo)
noncomputable def F_X10_canDown (bT : Int32) (qG : Nat -> Int32) : Int32 := if (qG (17 : Int32).toNatClampNeg) = (-1) then 0 else (if (aUf 1 bT qG) = 0 then 0 else 1)
set_option maxHeartbeats 200000 in
set_option maxRecDepth 10000 in
theorem dt_X10_canDown {P Q : Int32 -> Prop} {bT : Int32} {qG : Nat -> Int32} (h : wp_X10_canDown P bT qG) (hq : ∀ o : Int32, o = F_X10_canDown bT qG -> P o -> Q o) : wp_X10_canDown Q bT qG := by
  rw [F_X10_canDown] at hq
  refine ae ?_
  have h := h _ rfl
  refine And.intro (fun c1 => ?_) (fun c1 => ?_)
  · have h := And.left h c1
    rw [if_pos c1] at hq
    have q9 := hq _ rfl
    exact q9 h
  · have h := And.right h c1
    rw [if_neg c1] at hq
    refine du_X10_which h ?_
    intro h
    refine And.intro (fun c2 => ?_) (fun c2 => ?_)
    · have h := And.left h c2
      rw [if_pos c2] at hq
      have q9 := hq _ rfl
      exact q9 h
    · have h := And.right h c2
      rw [if_neg c2] at hq
      have q9 := hq _ rfl
      exact q9 h
theorem du_X10_canDown {P Q : Int32 -> Prop} {bT : Int32} {qG : Nat -> Int32} (h : wp_X10_canDown P bT qG) (hq : P (F_X10_canDown bT qG) -> Q (F_X10_canDown bT qG)) : wp_X10_canDown Q bT qG := dt_X10_canDown h (fun o eo => by rw [eo]; exact hq)
theorem dw_X10_canDown {Q : Int32 -> Prop} {bT : Int32} {qG : Nat -> Int32} (h : wp_X10_canDown (fun o0 => o0 = F_X10_canDown bT qG -> Q o0) bT qG) : wp_X10_canDown Q bT qG := dt_X10_canDown h (fun o eo hp => hp eo)
noncomputable def F_X10_goDown (bT : Int32) (qG oO : Nat -> Int32) : Int32 × (Nat -> Int32) := ((F_X10_empty bT (F_X10_passBy (F_X10_downOf (qG (17 : Int32).toNatClampNeg) oO) qG)).1, (F_X10_empty bT (F_X10_passBy (F_X10_downOf (qG (17 : Int32).toNatClampNeg) oO) qG)).2)
set_option maxHeartbeats 200000 in
set_option maxRecDepth 10000 in
theorem dt_X10_goDown {P Q : Int32 -> (Nat -> Int32) -> Prop} {bT : Int32} {qG oO : Nat -> Int32} (h : wp_X10_goDown P bT qG oO) (hq : ∀ o : Int32 × (Nat -> Int32), o = F_X10_goDown bT qG oO -> P o.1 o.2 -> Q o.1 o.2) : wp_X10_goDown Q bT qG oO := by
  rw [F_X10_goDown] at hq
  refine ae ?_
  have h := h _ rfl
  refine du_X10_downOf h ?_
  intro h
  refine du_X10_passBy h ?_
  intro h
  refine du_X10_empty h ?_
  intro h
  have q9 := hq _ rfl
  dsimp only at q9
  exact q9 h
theorem du_X10_goDown {P Q : Int32 -> (Nat -> Int32) -> Prop} {bT : Int32} {qG oO : Nat -> Int32} (h : wp_X10_goDown P bT qG oO) (hq : P (F_X10_goDown bT qG oO).1 (F_X10_goDown bT qG oO).2 -> Q (F_X10_goDown bT qG oO).1 (F_X10_goDown bT qG oO).2) : wp_X10_goDown Q bT qG oO := dt_X10_goDown h (fun o eo => by rw [eo]; exact hq)
theorem dw_X10_goDown {Q : Int32 -> (Nat -> Int32) -> Prop} {bT : Int32} {qG oO : Nat -> Int32} (h : wp_X10_goDown (fun o0 o1 => (o0, o1) = F_X10_goDown bT qG oO -> Q o0 o1) bT qG oO) : wp_X10_goDown Q bT qG oO := dt_X10_goDown h (fun o eo hp => hp eo)
noncomputable def F_X10_down (bT bY bU : Int32) (qG oO uL : Nat -> Int32) : Int32 × Int32 × Int32 × (Nat -> Int32) × (Nat -> Int32) := if (F_X10_canDown bT qG) = 0 then ((-2), 0, bU, qG, uL) else ((F_X10_goDown bT qG oO).1, 0, (aNN bU qG uL).1, (F_X10_goDown bT qG oO).2, (aNN bU qG uL).2)
set_option maxHeartbeats 200000 in
set_option maxRecDepth 10000 in
theorem dt_X10_down {P Q : Int32 -> Int32 -> Int32 -> (Nat -> Int32) -> (Nat -> Int32) -> Prop} {bT bY bU : Int32} {qG oO uL : Nat -> Int32} (h : wp_X10_down P bT bY bU qG oO uL) (hq : ∀ o : Int32 × Int32 × Int32 × (Nat -> Int32) × (Nat -> Int32), o = F_X10_down bT bY bU qG oO uL -> P o.1 o.2.1 o.2.2.1 o.2.2.2.1 o.2.2.2.2 -> Q o.1 o.2.1 o.2.2.1 o.2.2.2.1 o.2.2.2.2) : wp_X10_down Q bT bY bU qG oO uL := by
  rw [F_X10_down] at hq
  refine du_X10_canDown h ?_
  intro h
  refine And.intro (fun c1 => ?_) (fun c1 => ?_)
  · have h := And.left h c1
    rw [if_neg c1] at hq
    refine du_X10_remember h ?_
    intro h
    refine du_X10_goDown h ?_
    intro h
    have q9 := hq _ rfl
    dsimp only at q9
    exact q9 h
  · have h := And.right h c1
    rw [if_pos c1] at hq
    have q9 := hq _ rfl
    dsimp only at q9
    exact q9 h
theorem du_X10_down {P Q : Int32 -> Int32 -> Int32 -> (Nat -> Int32) -> (Nat -> Int32) -> Prop} {bT bY bU : Int32} {qG oO uL : Nat -> Int32} (h : wp_X10_down P bT bY bU qG oO uL) (hq : P (F_X10_down bT bY bU qG oO uL).1 (F_X10_down bT bY bU qG oO uL).2.1 (F_X10_down bT bY bU qG oO uL).2.2.1 (F_X10_down bT bY bU qG oO uL).2.2.2.1 (F_X10_down bT bY bU qG oO uL).2.2.2.2 -> Q (F_X10_down bT bY bU qG oO uL).1 (F_X10_down bT bY bU qG oO uL).2.1 (F_X10_down bT bY bU qG oO uL).2.2.1 (F_X10_down bT bY bU qG oO uL).2.2.2.1 (F_X10_down bT bY bU qG oO uL).2.2.2.2) : wp_X10_down Q bT bY bU qG oO uL := dt_X10_down h (fun o eo => by rw [eo]; exact hq)
theorem dw_X10_down {Q : Int32 -> Int32 -> Int32 -> (Nat -> Int32) -> (Nat -> Int32) -> Prop} {bT bY bU : Int32} {qG oO uL : Nat -> Int32} (h : wp_X10_down (fun o0 o1 o2 o3 o4 => (o0, o1, o2, o3, o4) = F_X10_down bT bY bU qG oO uL -> Q o0 o1 o2 o3 o4) bT bY bU qG oO uL) : wp_X10_down Q bT bY bU qG oO uL := dt_X10_down h (fun o eo hp => hp eo)
noncomputable def j_X10_ripeOnes_30 {R : Type} (k4 : Int32 -> Int32 -> Int32 -> R) (bT : Int32) (qR : Nat -> Int32) (x1 x3 k0 k1 : Int32) : R := k4 x1 (k0 ||| k1) (x3 + 1)
noncomputable def bd_X10_ripeOnes_4 (bT : Int32) (qR : Nat -> Int32) (x1 c s : Int32) : Int32 := if x1 < (qR c.toNatClampNeg) then (j_X10_ripeOnes_30 (fun q0 q1 q2 => q1) bT qR x1 c s 0) else (j_X10_ripeOnes_30 (fun q0 q1 q2 => q1) bT qR x1 c s (1 <<< (c &&& 31)))
noncomputable def ex_X10_ripeOnes_4 {R : Type} (po : Int32 -> R) (bT : Int32) (qR : Nat -> Int32) (x1 c s : Int32) : R := po s
set_option maxHeartbeats 200000 in
set_option maxRecDepth 10000 in
theorem dl_X10_ripeOnes_4 {P Q : Int32 -> Prop} {bT : Int32} {qR : Nat -> Int32} {x1 a : Int32} {i : Nat} (hi0 : i < 2147483648) (hE : ∀ (c : Int32) (s : Int32), c = nI (i + (Int32.toInt bT - ((i : Nat) : Int)).toNat) -> s = itr (bd_X10_ripeOnes_4 bT qR x1) a i (Int32.toInt bT - ((i : Nat) : Int)).toNat -> (P s) -> (Q s)) : ∀ (n k : Nat) (c : Int32), c = nI (i + k) -> k <= (Int32.toInt bT - ((i : Nat) : Int)).toNat -> wb_X10_ripeOnes_4 P bT qR n x1 (itr (bd_X10_ripeOnes_4 bT qR x1) a i k) c -> wb_X10_ripeOnes_4 Q bT qR n x1 (itr (bd_X10_ripeOnes_4 bT qR x1) a i k) c := by
  intro n
  induction n with
  | zero => intro k c hc hk h; exact False.elim h
  | succ n ih =>
    intro k c hc hk h
    have hr := aAT bT
    have hi : Int32.toInt c = ((i + k : Nat) : Int) := by rw [hc]; exact nI_toInt (by omega)
    refine And.intro (fun t0 => ?_) (fun t0 => ?_)
    · have h := And.left h t0
      have t1 := (aAO _ _).mp t0
      have hk2 : k = (Int32.toInt bT - ((i : Nat) : Int)).toNat := by omega
      subst hk2
      exact hE _ _ hc rfl h
    · have h := And.right h t0
      have t1 := mt (aAO _ _).mpr t0
      have hs : ∀ o : Int32, o = itr (bd_X10_ripeOnes_4 bT qR x1) a i (k + 1) -> wb_X10_ripeOnes_4 P bT qR n x1 o (c + 1) -> wb_X10_ripeOnes_4 Q bT qR n x1 o (c + 1) := by
        intro o eo h9
        have q := ih (k + 1) (c + 1) (by rw [hc]; exact nI_1 _) (by omega)
        rw [<- eo] at q
        exact q h9
      rw [itr_s, <- hc, bd_X10_ripeOnes_4] at hs
      refine And.intro (And.left h) ?_
      have h := And.right h
      refine ae ?_
      have h := h _ rfl
      refine And.intro (fun c1 => ?_) (fun c1 => ?_)
      · have h := And.left h c1
        rw [if_pos c1] at hs
        rw [j_X10_ripeOnes_30] at hs
        unfold ws_X10_ripeOnes_30 at h ⊢
        refine ae ?_
        have h := h _ rfl
        refine ae ?_
        have h := h _ rfl
        have q9 := hs _ rfl
        exact q9 h
      · have h := And.right h c1
        rw [if_neg c1] at hs
        refine ae ?_
        have h := h _ rfl
        rw [j_X10_ripeOnes_30] at hs
        unfold ws_X10_ripeOnes_30 at h ⊢
        refine ae ?_
        have h := h _ rfl
        refine ae ?_
        have h := h _ rfl
        have q9 := hs _ rfl
        exact q9 h
noncomputable def F_X10_ripeOnes (p0 bT : Int32) (qR : Nat -> Int32) : Int32 := ex_X10_ripeOnes_4 (fun o0 => o0) bT qR p0 (nI (0 + (Int32.toInt bT - ((0 : Nat) : Int)).toNat)) (itr (bd_X10_ripeOnes_4 bT qR p0) 0 0 (Int32.toInt bT - ((0 : Nat) : Int)).toNat)
set_option maxHeartbeats 200000 in
set_option maxRecDepth 10000 in
theorem dt_X10_ripeOnes {P Q : Int32 -> Prop} {p0 bT : Int32} {qR : Nat -> Int32} (h : aLg P p0 bT qR) (hq : ∀ o : Int32, o = F_X10_ripeOnes p0 bT qR -> P o -> Q o) : aLg Q p0 bT qR := by
  rw [F_X10_ripeOnes] at hq
  obtain ⟨n1, h⟩ := h
  refine ⟨n1, dl_X10_ripeOnes_4 (a := 0) (i := 0) (by decide) ?_ n1 0 0 (by decide) (Nat.zero_le _) h⟩
  intro cc2 s3 ec4 es5 h
  rw [<- ec4, <- es5, ex_X10_ripeOnes_4] at hq
  have q9 := hq _ rfl
  exact q9 h
theorem du_X10_ripeOnes {P Q : Int32 -> Prop} {p0 bT : Int32} {qR : Nat -> Int32} (h : aLg P p0 bT qR) (hq : P (F_X10_ripeOnes p0 bT qR) -> Q (F_X10_ripeOnes p0 bT qR)) : aLg Q p0 bT qR := dt_X10_ripeOnes h (fun o eo => by rw [eo]; exact hq)
theorem dw_X10_ripeOnes {Q : Int32 -> Prop} {p0 bT : Int32} {qR : Nat -> Int32} (h : aLg (fun o0 => o0 = F_X10_ripeOnes p0 bT qR -> Q o0) p0 bT qR) : aLg Q p0 bT qR := dt_X10_ripeOnes h (fun o eo hp => hp eo)
noncomputable def F_X10_byHand (p0 bT : Int32) (qG m_x gR nG oO pJ : Nat -> Int32) : Int32 := (aLM p0 (qG (18 : Int32).toNatClampNeg) 0 bT m_x gR nG oO pJ)
set_option maxHeartbeats 200000 in
set_option maxRecDepth 10000 in
theorem dt_X10_byHand {P Q : Int32 -> Prop} {p0 bT : Int32} {qG m_x gR nG oO pJ : Nat -> Int32} (h : wp_X10_byHand P p0 bT qG m_x gR nG oO pJ) (hq : ∀ o : Int32, o = F_X10_byHand p0 bT qG m_x gR nG oO pJ -> P o -> Q o) : wp_X10_byHand Q p0 bT qG m_x gR nG oO pJ := by
  rw [F_X10_byHand] at hq
  refine ae ?_
  have h := h _ rfl
  refine du_X10_reachedFrom h ?_
  intro h
  have q9 := hq _ rfl
  exact q9 h
theorem du_X10_byHand {P Q : Int32 -> Prop} {p0 bT : Int32} {qG m_x gR nG oO pJ : Nat -> Int32} (h : wp_X10_byHand P p0 bT qG m_x gR nG oO pJ) (hq : P (F_X10_byHand p0 bT qG m_x gR nG oO pJ) -> Q (F_X10_byHand p0 bT qG m_x gR nG oO pJ)) : wp_X10_byHand Q p0 bT qG m_x gR nG oO pJ := dt_X10_byHand h (fun o eo => by rw [eo]; exact hq)
theorem dw_X10_byHand {Q : Int32 -> Prop} {p0 bT : Int32} {qG m_x gR nG oO pJ : Nat -> Int32} (h : wp_X10_byHand (fun o0 => o0 = F_X10_byHand p0 bT qG m_x gR nG oO pJ -> Q o0) p0 bT qG m_x gR nG oO pJ) : wp_X10_byHand Q p0 bT qG m_x gR nG oO pJ := dt_X10_byHand h (fun o eo hp => hp eo)
noncomputable def j_X10_goShake_96 {R : Type} (k50 : Int32 -> Int32 -> Int32 -> (Nat -> Int32) -> R) (bT : Int32) (m_x gR qR nG oO pJ : Nat -> Int32) (x1 x2 x3 : Int32) (qG : Nat -> Int32) : R := k50 x1 x2 (x3 + 1) qG
noncomputable def bd_X10_goShake_50 (bT : Int32) (m_x gR qR nG oO pJ : Nat -> Int32) (x1 x2 c : Int32) (s : (Nat -> Int32)) : (Nat -> Int32) := if (F_X10_has x1 c) = 0 then (j_X10_goShake_96 (fun q0 q1 q2 q3 => q3) bT m_x gR qR nG oO pJ x1 x2 c s) else (j_X10_goShake_96 (fun q0 q1 q2 q3 => q3) bT m_x gR qR nG oO pJ x1 x2 c (upd (upd s c.toNatClampNeg 3) (16 : Int32).toNatClampNeg (((upd s c.toNatClampNeg 3) (16 : Int32).toNatClampNeg) ||| ((1 <<< (c &&& 31)) ||| (F_X10_below c x2 bT m_x gR)))))
noncomputable def ex_X10_goShake_50 {R : Type} (po : Int32 -> (Nat -> Int32) -> R) (bT : Int32) (m_x gR qR nG oO pJ : Nat -> Int32) (x1 x2 c : Int32) (s : (Nat -> Int32)) : R := po (aLS x1) (F_X10_passBy 5 s)
set_option maxHeartbeats 200000 in
set_option maxRecDepth 10000 in
theorem dl_X10_goShake_50 {P Q : Int32 -> (Nat -> Int32) -> Prop} {bT : Int32} {m_x gR qR nG oO pJ : Nat -> Int32} {x1 x2 : Int32} {a : (Nat -> Int32)} {i : Nat} (hi0 : i < 2147483648) (hE : ∀ (c : Int32) (s : (Nat -> Int32)), c = nI (i + (Int32.toInt bT - ((i : Nat) : Int)).toNat) -> s = itr (bd_X10_goShake_50 bT m_x gR qR nG oO pJ x1 x2) a i (Int32.toInt bT - ((i : Nat) : Int)).toNat -> (wp_X10_passBy (fun m_now_10 => aBb (fun r_11 => P r_11 m_now_10) x1) 5 s) -> (wp_X10_passBy (fun m_now_10 => aBb (fun r_11 => Q r_11 m_now_10) x1) 5 s)) : ∀ (n k : Nat) (c : Int32), c = nI (i + k) -> k <= (Int32.toInt bT - ((i : Nat) : Int)).toNat -> wb_X10_goShake_50 P bT m_x gR qR nG oO pJ n x1 x2 c (itr (bd_X10_goShake_50 bT m_x gR qR nG oO pJ x1 x2) a i k) -> wb_X10_goShake_50 Q bT m_x gR qR nG oO pJ n x1 x2 c (itr (bd_X10_goShake_50 bT m_x gR qR nG oO pJ x1 x2) a i k) := by
  intro n
  induction n with
  | zero => intro k c hc hk h; exact False.elim h
  | succ n ih =>
    intro k c hc hk h
    have hr := aAT bT
    have hi : Int32.toInt c = ((i + k : Nat) : Int) := by rw [hc]; exact nI_toInt (by omega)
    refine And.intro (fun t0 => ?_) (fun t0 => ?_)
    · have h := And.left h t0
      have t1 := (aAO _ _).mp t0
      have hk2 : k = (Int32.toInt bT - ((i : Nat) : Int)).toNat := by omega
      subst hk2
      exact hE _ _ hc rfl h
    · have h := And.right h t0
      have t1 := mt (aAO _ _).mpr t0
      have hs : ∀ o : (Nat -> Int32), o = itr (bd_X10_goShake_50 bT m_x gR qR nG oO pJ x1 x2) a i (k + 1) -> wb_X10_goShake_50 P bT m_x gR qR nG oO pJ n x1 x2 (c + 1) o -> wb_X10_goShake_50 Q bT m_x gR qR nG oO pJ n x1 x2 (c + 1) o := by
        intro o eo h9
        have q := ih (k + 1) (c + 1) (by rw [hc]; exact nI_1 _) (by omega)
        rw [<- eo] at q
        exact q h9
      rw [itr_s, <- hc, bd_X10_goShake_50] at hs
      refine du_X10_has h ?_
      intro h
      refine And.intro (fun c1 => ?_) (fun c1 => ?_)
      · have h := And.left h c1
        rw [if_neg c1] at hs
        refine And.intro (And.left h) ?_
        have h := And.right h
        refine ae ?_
        have h := h _ rfl
        refine ae ?_
        have h := h _ rfl
        refine du_X10_below h ?_
        intro h
        refine ae ?_
        have h := h _ rfl
        rw [j_X10_goShake_96] at hs
        unfold ws_X10_goShake_96 at h ⊢
        refine ae ?_
        have h := h _ rfl
        have q9 := hs _ rfl
        exact q9 h
      · have h := And.right h c1
        rw [if_pos c1] at hs
        rw [j_X10_goShake_96] at hs
        unfold ws_X10_goShake_96 at h ⊢
        refine ae ?_
        have h := h _ rfl
        have q9 := hs _ rfl
        exact q9 h
noncomputable def F_X10_goShake (bT : Int32) (qG m_x gR qR nG oO pJ : Nat -> Int32) : Int32 × (Nat -> Int32) := ex_X10_goShake_50 (fun o0 o1 => (o0, o1)) bT m_x gR qR nG oO pJ (((aUf 0 bT qG) &&& (F_X10_ripeOnes (qG (19 : Int32).toNatClampNeg) bT qR)) &&& (F_X10_byHand (qG (17 : Int32).toNatClampNeg) bT qG m_x gR nG oO pJ)) ((aUf 0 bT qG) &&& ((((aUf 0 bT qG) &&& (F_X10_ripeOnes (qG (19 : Int32).toNatClampNeg) bT qR)) &&& (F_X10_byHand (qG (17 : Int32).toNatClampNeg) bT qG m_x gR nG oO pJ)) ^^^ (-1))) (nI (0 + (Int32.toInt bT - ((0 : Nat) : Int)).toNat)) (itr (bd_X10_goShake_50 bT m_x gR qR nG oO pJ (((aUf 0 bT qG) &&& (F_X10_ripeOnes (qG (19 : Int32).toNatClampNeg) bT qR)) &&& (F_X10_byHand (qG (17 : Int32).toNatClampNeg) bT qG m_x gR nG oO pJ)) ((aUf 0 bT qG) &&& ((((aUf 0 bT qG) &&& (F_X10_ripeOnes (qG (19 : Int32).toNatClampNeg) bT qR)) &&& (F_X10_byHand (qG (17 : Int32).toNatClampNeg) bT qG m_x gR nG oO pJ)) ^^^ (-1)))) qG 0 (Int32.toInt bT - ((0 : Nat) : Int)).toNat)
set_option maxHeartbeats 200000 in
set_option maxRecDepth 10000 in
theorem dt_X10_goShake {P Q : Int32 -> (Nat -> Int32) -> Prop} {bT : Int32} {qG m_x gR qR nG oO pJ : Nat -> Int32} (h : wp_X10_goShake P bT qG m_x gR qR nG oO pJ) (hq : ∀ o : Int32 × (Nat -> Int32), o = F_X10_goShake bT qG m_x gR qR nG oO pJ -> P o.1 o.2 -> Q o.1 o.2) : wp_X10_goShake Q bT qG m_x gR qR nG oO pJ := by
  rw [F_X10_goShake] at hq
  refine du_X10_which h ?_
  intro h
  refine ae ?_
  have h := h _ rfl
  refine du_X10_ripeOnes h ?_
  intro h
  refine ae ?_
  have h := h _ rfl
  refine ae ?_
  have h := h _ rfl
  refine du_X10_byHand h ?_
  intro h
  refine ae ?_
  have h := h _ rfl
  refine du_X10_which h ?_
  intro h
  refine ae ?_
  have h := h _ rfl
  obtain ⟨n1, h⟩ := h
  refine ⟨n1, dl_X10_goShake_50 (a := qG) (i := 0) (by decide) ?_ n1 0 0 (by decide) (Nat.zero_le _) h⟩
  intro cc2 s3 ec4 es5 h
  rw [<- ec4, <- es5, ex_X10_goShake_50] at hq
  refine du_X10_passBy h ?_
  intro h
  refine du_J6_bitCount_0f7a4 h ?_
  intro h
  have q9 := hq _ rfl
  dsimp only at q9
  exact q9 h
theorem du_X10_goShake {P Q : Int32 -> (Nat -> Int32) -> Prop} {bT : Int32} {qG m_x gR qR nG oO pJ : Nat -> Int32} (h : wp_X10_goShake P bT qG m_x gR qR nG oO pJ) (hq : P (F_X10_goShake bT qG m_x gR qR nG oO pJ).1 (F_X10_goShake bT qG m_x gR qR nG oO pJ).2 -> Q (F_X10_goShake bT qG m_x gR qR nG oO pJ).1 (F_X10_goShake bT qG m_x gR qR nG oO pJ).2) : wp_X10_goShake Q bT qG m_x gR qR nG oO pJ := dt_X10_goShake h (fun o eo => by rw [eo]; exact hq)
theorem dw_X10_goShake {Q : Int32 -> (Nat -> Int32) -> Prop} {bT : Int32} {qG m_x gR qR nG oO pJ : Nat -> Int32} (h : wp_X10_goShake (fun o0 o1 => (o0, o1) = F_X10_goShake bT qG m_x gR qR nG oO pJ -> Q o0 o1) bT qG m_x gR qR nG oO pJ) : wp_X10_goShake Q bT qG m_x gR qR nG oO pJ := dt_X10_goShake h (fun o eo hp => hp eo)
noncomputable def F_X10_shake (bT bY bU : Int32) (qG m_x gR qR nG oO pJ uL : Nat -> Int32) : Int32 × Int32 × Int32 × (Nat -> Int32) × (Nat -> Int32) := if (qG (17 : Int32).toNatClampNeg) = (-1) then ((-2), 0, bU, qG, uL) else ((F_X10_goShake bT qG m_x gR qR nG oO pJ).1, 0, (aNN bU qG uL).1, (F_X10_goShake bT qG m_x gR qR nG oO pJ).2, (aNN bU qG uL).2)
set_option maxHeartbeats 200000 in
set_option maxRecDepth 10000 in
theorem dt_X10_shake {P Q : Int32 -> Int32 -> Int32 -> (Nat -> Int32) -> (Nat -> Int32) -> Prop} {bT bY bU : Int32} {qG m_x gR qR nG oO pJ uL : Nat -> Int32} (h : wp_X10_shake P bT bY bU qG m_x gR qR nG oO pJ uL) (hq : ∀ o : Int32 × Int32 × Int32 × (Nat -> Int32) × (Nat -> Int32), o = F_X10_shake bT bY bU qG m_x gR qR nG oO pJ uL -> P o.1 o.2.1 o.2.2.1 o.2.2.2.1 o.2.2.2.2 -> Q o.1 o.2.1 o.2.2.1 o.2.2.2.1 o.2.2.2.2) : wp_X10_shake Q bT bY bU qG m_x gR qR nG oO pJ uL := by
  rw [F_X10_shake] at hq
  refine ae ?_
  have h := h _ rfl
  refine And.intro (fun c1 => ?_) (fun c1 => ?_)
  · have h := And.left h c1
    rw [if_neg c1] at hq
    refine du_X10_remember h ?_
    intro h
    refine du_X10_goShake h ?_
    intro h
    have q9 := hq _ rfl
    dsimp only at q9
    exact q9 h
  · have h := And.right h c1
    rw [if_pos c1] at hq
    have q9 := hq _ rfl
    dsimp only at q9
    exact q9 h
theorem du_X10_shake {P Q : Int32 -> Int32 -> Int32 -> (Nat -> Int32) -> (Nat -> Int32) -> Prop} {bT bY bU : Int32} {qG m_x gR qR nG oO pJ uL : Nat -> Int32} (h : wp_X10_shake P bT bY bU qG m_x gR qR nG oO pJ uL) (hq : P (F_X10_shake bT bY bU qG m_x gR qR nG oO pJ uL).1 (F_X10_shake bT bY bU qG m_x gR qR nG oO pJ uL).2.1 (F_X10_shake bT bY bU qG m_x gR qR nG oO pJ uL).2.2.1 (F_X10_shake bT bY bU qG m_x gR qR nG oO pJ uL).2.2.2.1 (F_X10_shake bT bY bU qG m_x gR qR nG oO pJ uL).2.2.2.2 -> Q (F_X10_shake bT bY bU qG m_x gR qR nG oO pJ uL).1 (F_X10_shake bT bY bU qG m_x gR qR nG oO pJ uL).2.1 (F_X10_shake bT bY bU qG m_x gR qR nG oO pJ uL).2.2.1 (F_X10_shake bT bY bU qG m_x gR qR nG oO pJ uL).2.2.2.1 (F_X10_shake bT bY bU qG m_x gR qR nG oO pJ uL).2.2.2.2) : wp_X10_shake Q bT bY bU qG m_x gR qR nG oO pJ uL := dt_X10_shake h (fun o eo => by rw [eo]; exact hq)
theorem dw_X10_shake {Q : Int32 -> Int32 -> Int32 -> (Nat -> Int32) -> (Nat -> Int32) -> Prop} {bT bY bU : Int32} {qG m_x gR qR nG oO pJ uL : Nat -> Int32} (h : wp_X10_shake (fun o0 o1 o2 o3 o4 => (o0, o1, o2, o3, o4) = F_X10_shake bT bY bU qG m_x gR qR nG oO pJ uL -> Q o0 o1 o2 o3 o4) bT bY bU qG m_x gR qR nG oO pJ uL) : wp_X10_shake Q bT bY bU qG m_x gR qR nG oO pJ uL := dt_X10_shake h (fun o eo hp => hp eo)
noncomputable def F_X10_goSleep (bT : Int32) (qG : Nat -> Int32) : Int32 × (Nat -> Int32) := (((upd (upd (upd (F_X10_empty bT qG).2 (17 : Int32).toNatClampNeg (-1)) (20 : Int32).toNatClampNeg 0) (19 : Int32).toNatClampNeg (((upd (upd (F_X10_empty bT qG).2 (17 : Int32).toNatClampNeg (-1)) (20 : Int32).toNatClampNeg 0) (19 : Int32).toNatClampNeg) + 1)) (19 : Int32).toNatClampNeg), (upd (upd (upd (F_X10_empty bT qG).2 (17 : Int32).toNatClampNeg (-1)) (20 : Int32).toNatClampNeg 0) (19 : Int32).toNatClampNeg (((upd (upd (F_X10_empty bT qG).2 (17 : Int32).toNatClampNeg (-1)) (20 : Int32).toNatClampNeg 0) (19 : Int32).toNatClampNeg) + 1)))
set_option maxHeartbeats 200000 in
set_option maxRecDepth 10000 in
theorem dt_X10_goSleep {P Q : Int32 -> (Nat -> Int32) -> Prop} {bT : Int32} {qG : Nat -> Int32} (h : wp_X10_goSleep P bT qG) (hq : ∀ o : Int32 × (Nat -> Int32), o = F_X10_goSleep bT qG -> P o.1 o.2 -> Q o.1 o.2) : wp_X10_goSleep Q bT qG := by
  rw [F_X10_goSleep] at hq
  refine du_X10_empty h ?_
  intro h
  refine ae ?_
  have h := h _ rfl
  refine ae ?_
  have h := h _ rfl
  refine ae ?_
  have h := h _ rfl
  have q9 := hq _ rfl
  dsimp only at q9
  exact q9 h
theorem du_X10_goSleep {P Q : Int32 -> (Nat -> Int32) -> Prop} {bT : Int32} {qG : Nat -> Int32} (h : wp_X10_goSleep P bT qG) (hq : P (F_X10_goSleep bT qG).1 (F_X10_goSleep bT qG).2 -> Q (F_X10_goSleep bT qG).1 (F_X10_goSleep bT qG).2) : wp_X10_goSleep Q bT qG := dt_X10_goSleep h (fun o eo => by rw [eo]; exact hq)
theorem dw_X10_goSleep {Q : Int32 -> (Nat -> Int32) -> Prop} {bT : Int32} {qG : Nat -> Int32} (h : wp_X10_goSleep (fun o0 o1 => (o0, o1) = F_X10_goSleep bT qG -> Q o0 o1) bT qG) : wp_X10_goSleep Q bT qG := dt_X10_goSleep h (fun o eo hp => hp eo)
noncomputable def F_X10_sleep (bT bY bU : Int32) (qG uL : Nat -> Int32) : Int32 × Int32 × Int32 × (Nat -> Int32) × (Nat -> Int32) := if (qG (19 : Int32).toNatClampNeg) = 9 then ((-1), 0, bU, qG, uL) else ((F_X10_goSleep bT qG).1, 0, (aNN bU qG uL).1, (F_X10_goSleep bT qG).2, (aNN bU qG uL).2)
set_option maxHeartbeats 200000 in
set_option maxRecDepth 10000 in
theorem dt_X10_sleep {P Q : Int32 -> Int32 -> Int32 -> (Nat -> Int32) -> (Nat -> Int32) -> Prop} {bT bY bU : Int32} {qG uL : Nat -> Int32} (h : wp_X10_sleep P bT bY bU qG uL) (hq : ∀ o : Int32 × Int32 × Int32 × (Nat -> Int32) × (Nat -> Int32), o = F_X10_sleep bT bY bU qG uL -> P o.1 o.2.1 o.2.2.1 o.2.2.2.1 o.2.2.2.2 -> Q o.1 o.2.1 o.2.2.1 o.2.2.2.1 o.2.2.2.2) : wp_X10_sleep Q bT bY bU qG uL := by
  rw [F_X10_sleep] at hq
  refine ae ?_
  have h := h _ rfl
  refine And.intro (fun c1 => ?_) (fun c1 => ?_)
  · have h := And.left h c1
    rw [if_neg c1] at hq
    refine du_X10_remember h ?_
    intro h
    refine du_X10_goSleep h ?_
    intro h
    have q9 := hq _ rfl
    dsimp only at q9
    exact q9 h
  · have h := And.right h c1
    rw [if_pos c1] at hq
    have q9 := hq _ rfl
    dsimp only at q9
    exact q9 h
theorem du_X10_sleep {P Q : Int32 -> Int32 -> Int32 -> (Nat -> Int32) -> (Nat -> Int32) -> Prop} {bT bY bU : Int32} {qG uL : Nat -> Int32} (h : wp_X10_sleep P bT bY bU qG uL) (hq : P (F_X10_sleep bT bY bU qG uL).1 (F_X10_sleep bT bY bU qG uL).2.1 (F_X10_sleep bT bY bU qG uL).2.2.1 (F_X10_sleep bT bY bU qG uL).2.2.2.1 (F_X10_sleep bT bY bU qG uL).2.2.2.2 -> Q (F_X10_sleep bT bY bU qG uL).1 (F_X10_sleep bT bY bU qG uL).2.1 (F_X10_sleep bT bY bU qG uL).2.2.1 (F_X10_sleep bT bY bU qG uL).2.2.2.1 (F_X10_sleep bT bY bU qG uL).2.2.2.2) : wp_X10_sleep Q bT bY bU qG uL := dt_X10_sleep h (fun o eo => by rw [eo]; exact hq)
theorem dw_X10_sleep {Q : Int32 -> Int32 -> Int32 -> (Nat -> Int32) -> (Nat -> Int32) -> Prop} {bT bY bU : Int32} {qG uL : Nat -> Int32} (h : wp_X10_sleep (fun o0 o1 o2 o3 o4 => (o0, o1, o2, o3, o4) = F_X10_sleep bT bY bU qG uL -> Q o0 o1 o2 o3 o4) bT bY bU qG uL) : wp_X10_sleep Q bT bY bU qG uL := dt_X10_sleep h (fun o eo hp => hp eo)
noncomputable def aFc {R : Type} (po : Int32 -> Int32 -> (Nat -> Int32) -> R) (jD : Nat) (mLn oF : Int32) (qO qQ : Nat -> Int32) (x1 rP dQ : Int32) (wJ : Nat -> Int32) : R := po ((aBD 2 jD mLn oF rP dQ qO qQ).2.1) ((aBD 2 jD mLn oF rP dQ qO qQ).2.2) (upd wJ (x1 + 1).toNatClampNeg (aBD 2 jD mLn oF rP dQ qO qQ).1)
noncomputable def aJS {R : Type} (po : Int32 -> Int32 -> (Nat -> Int32) -> R) (jD : Nat) (mLn oF : Int32) (qO qQ : Nat -> Int32) (x1 x2 rP dQ : Int32) (wJ : Nat -> Int32) : R := if x2 = 112 then (aFc po jD mLn oF qO qQ x1 rP dQ wJ) else (if x2 = 104 then (aFc po jD mLn oF qO qQ x1 rP dQ wJ) else (po rP dQ wJ))
noncomputable def aKM {R : Type} (po : Int32 -> Int32 -> (Nat -> Int32) -> R) (jD : Nat) (mLn oF : Int32) (qO qQ : Nat -> Int32) (x1 x2 rP dQ : Int32) (wJ : Nat -> Int32) : R := if x2 = 109 then (aJS po jD mLn oF qO qQ x1 x2 ((aBD 1 jD mLn oF (rP + 1) dQ qO qQ).2.1) ((aBD 1 jD mLn oF (rP + 1) dQ qO qQ).2.2) (upd (upd wJ x1.toNatClampNeg x2) (x1 + 1).toNatClampNeg (aBD 1 jD mLn oF (rP + 1) dQ qO qQ).1)) else (aJS po jD mLn oF qO qQ x1 x2 (rP + 1) dQ (upd wJ x1.toNatClampNeg x2))
noncomputable def aMq (p0 : Int32) (jD : Nat) (mLn oF rP dQ : Int32) (qO qQ wJ : Nat -> Int32) : Int32 × Int32 × (Nat -> Int32) := if (aRs jD mLn oF rP qO qQ) = 109 then (aKM (fun o0 o1 o2 => (o0, o1, o2)) jD mLn oF qO qQ p0 (aRs jD mLn oF rP qO qQ) rP dQ wJ) else (if (aRs jD mLn oF rP qO qQ) = 112 then (aKM (fun o0 o1 o2 => (o0, o1, o2)) jD mLn oF qO qQ p0 (aRs jD mLn oF rP qO qQ) rP dQ wJ) else (if (aRs jD mLn oF rP qO qQ) = 104 then (aKM (fun o0 o1 o2 => (o0, o1, o2)) jD mLn oF qO qQ p0 (aRs jD mLn oF rP qO qQ) rP dQ wJ) else (if (aRs jD mLn oF rP qO qQ) = 100 then (aKM (fun o0 o1 o2 => (o0, o1, o2)) jD mLn oF qO qQ p0 (aRs jD mLn oF rP qO qQ) rP dQ wJ) else (if (aRs jD mLn oF rP qO qQ) = 107 then (aKM (fun o0 o1 o2 => (o0, o1, o2)) jD mLn oF qO qQ p0 (aRs jD mLn oF rP qO qQ) rP dQ wJ) else (if (aRs jD mLn oF rP qO qQ) = 97 then (aKM (fun o0 o1 o2 => (o0, o1, o2)) jD mLn oF qO qQ p0 (aRs jD mLn oF rP qO qQ) rP dQ wJ) else (if (aRs jD mLn oF rP qO qQ) = 111 then (aKM (fun o0 o1 o2 => (o0, o1, o2)) jD mLn oF qO qQ p0 (aRs jD mLn oF rP qO qQ) rP dQ wJ) else (if (aRs jD mLn oF rP qO qQ) = 122 then (aKM (fun o0 o1 o2 => (o0, o1, o2)) jD mLn oF qO qQ p0 (aRs jD mLn oF rP qO qQ) rP dQ wJ) else (aKM (fun o0 o1 o2 => (o0, o1, o2)) jD mLn oF qO qQ p0 (aRs jD mLn oF rP qO qQ) rP (F_X10_fault rP dQ) wJ))))))))
set_option maxHeartbeats 200000 in
set_option maxRecDepth 10000 in
theorem dt_X10_readAct {P Q : Int32 -> Int32 -> (Nat -> Int32) -> Prop} {p0 : Int32} {jD : Nat} {mLn oF rP dQ : Int32} {qO qQ wJ : Nat -> Int32} (h : wp_X10_readAct P p0 jD mLn oF rP dQ qO qQ wJ) (hq : ∀ o : Int32 × Int32 × (Nat -> Int32), o = aMq p0 jD mLn oF rP dQ qO qQ wJ -> P o.1 o.2.1 o.2.2 -> Q o.1 o.2.1 o.2.2) : wp_X10_readAct Q p0 jD mLn oF rP dQ qO qQ wJ := by
  rw [aMq] at hq
  refine du_X10_here h ?_
  intro h
  refine And.intro (fun c1 => ?_) (fun c1 => ?_)
  · have h := And.left h c1
    rw [if_pos c1] at hq
    rw [aKM] at hq
    unfold aJJ at h ⊢
    refine ae ?_
    have h := h _ rfl
    refine And.intro (And.left h) ?_
    have h := And.right h
    refine And.intro (fun c2 => ?_) (fun c2 => ?_)
    · have h := And.left h c2
      rw [if_neg c2] at hq
      rw [aJS] at hq
      unfold aJ6 at h ⊢
      refine And.intro (fun c3 => ?_) (fun c3 => ?_)
      · have h := And.left h c3
        rw [if_pos c3] at hq
        rw [aFc] at hq
        unfold aEP at h ⊢
        refine ae ?_
        have h := h _ rfl
        refine aEu (by decide) h ?_
        intro h
        refine And.intro (And.left h) ?_
        have h := And.right h
        have q9 := hq _ rfl
        dsimp only at q9
        exact q9 h
      · have h := And.right h c3
        rw [if_neg c3] at hq
        refine And.intro (fun c4 => ?_) (fun c4 => ?_)
        · have h := And.left h c4
          rw [if_neg c4] at hq
          have q9 := hq _ rfl
          dsimp only at q9
          exact q9 h
        · have h := And.right h c4
          rw [if_pos c4] at hq
          rw [aFc] at hq
          unfold aEP at h ⊢
          refine ae ?_
          have h := h _ rfl
          refine aEu (by decide) h ?_
          intro h
          refine And.intro (And.left h) ?_
          have h := And.right h
          have q9 := hq _ rfl
          dsimp only at q9
          exact q9 h
    · have h := And.right h c2
      rw [if_pos c2] at hq
      refine ae ?_
      have h := h _ rfl
      refine aEu (by decide) h ?_
      intro h
      refine And.intro (And.left h) ?_
      have h := And.right h
      rw [aJS] at hq
      unfold aJ6 at h ⊢
      refine And.intro (fun c5 => ?_) (fun c5 => ?_)
      · have h := And.left h c5
        rw [if_pos c5] at hq
        rw [aFc] at hq
        unfold aEP at h ⊢
        refine ae ?_
        have h := h _ rfl
        refine aEu (by decide) h ?_
        intro h
        refine And.intro (And.left h) ?_
        have h := And.right h
        have q9 := hq _ rfl
        dsimp only at q9
        exact q9 h
      · have h := And.right h c5
        rw [if_neg c5] at hq
        refine And.intro (fun c6 => ?_) (fun c6 => ?_)
        · have h := And.left h c6
          rw [if_neg c6] at hq
          have q9 := hq _ rfl
          dsimp only at q9
          exact q9 h
        · have h := And.right h c6
          rw [if_pos c6] at hq
          rw [aFc] at hq
          unfold aEP at h ⊢
          refine ae ?_
          have h := h _ rfl
          refine aEu (by decide) h ?_
          intro h
          refine And.intro (And.left h) ?_
          have h := And.right h
          have q9 := hq _ rfl
          dsimp only at q9
          exact q9 h
  · have h := And.right h c1
    rw [if_neg c1] at hq
    refine And.intro (fun c7 => ?_) (fun c7 => ?_)
    · have h := And.left h c7
      rw [if_pos c7] at hq
      rw [aKM] at hq
      unfold aJJ at h ⊢
      refine ae ?_
      have h := h _ rfl
      refine And.intro (And.left h) ?_
      have h := And.right h
      refine And.intro (fun c8 => ?_) (fun c8 => ?_)
      · have h := And.left h c8
        rw [if_neg c8] at hq
        rw [aJS] at hq
        unfold aJ6 at h ⊢
        refine And.intro (fun c9 => ?_) (fun c9 => ?_)
        · have h := And.left h c9
          rw [if_pos c9] at hq
          rw [aFc] at hq
          unfold aEP at h ⊢
          refine ae ?_
          have h := h _ rfl
          refine aEu (by decide) h ?_
          intro h
          refine And.intro (And.left h) ?_
          have h := And.right h
          have q9 := hq _ rfl
          dsimp only at q9
          exact q9 h
        · have h := And.right h c9
          rw [if_neg c9] at hq
          refine And.intro (fun c10 => ?_) (fun c10 => ?_)
          · have h := And.left h c10
            rw [if_neg c10] at hq
            have q9 := hq _ rfl
            dsimp only at q9
            exact q9 h
          · have h := And.right h c10
            rw [if_pos c10] at hq
            rw [aFc] at hq
            unfold aEP at h ⊢
            refine ae ?_
            have h := h _ rfl
            refine aEu (by decide) h ?_
            intro h
            refine And.intro (And.left h) ?_
            have h := And.right h
            have q9 := hq _ rfl
            dsimp only at q9
            exact q9 h
      · have h := And.right h c8
        rw [if_pos c8] at hq
        refine ae ?_
        have h := h _ rfl
        refine aEu (by decide) h ?_
        intro h
        refine And.intro (And.left h) ?_
        have h := And.right h
        rw [aJS] at hq
        unfold aJ6 at h ⊢
        refine And.intro (fun c11 => ?_) (fun c11 => ?_)
        · have h := And.left h c11
          rw [if_pos c11] at hq
          rw [aFc] at hq
          unfold aEP at h ⊢
          refine ae ?_
          have h := h _ rfl
          refine aEu (by decide) h ?_
          intro h
          refine And.intro (And.left h) ?_
          have h := And.right h
          have q9 := hq _ rfl
          dsimp only at q9
          exact q9 h
        · have h := And.right h c11
          rw [if_neg c11] at hq
          refine And.intro (fun c12 => ?_) (fun c12 => ?_)
          · have h := And.left h c12
            rw [if_neg c12] at hq
            have q9 := hq _ rfl
            dsimp only at q9
            exact q9 h
          · have h := And.right h c12
            rw [if_pos c12] at hq
            rw [aFc] at hq
            unfold aEP at h ⊢
            refine ae ?_
            have h := h _ rfl
            refine aEu (by decide) h ?_
            intro h
            refine And.intro (And.left h) ?_
            have h := And.right h
            have q9 := hq _ rfl
            dsimp only at q9
            exact q9 h
    · have h := And.right h c7
      rw [if_neg c7] at hq
      refine And.intro (fun c13 => ?_) (fun c13 => ?_)
      · have h := And.left h c13
        rw [if_pos c13] at hq
        rw [aKM] at hq
        unfold aJJ at h ⊢
        refine ae ?_
        have h := h _ rfl
        refine And.intro (And.left h) ?_
        have h := And.right h
        refine And.intro (fun c14 => ?_) (fun c14 => ?_)
        · have h := And.left h c14
          rw [if_neg c14] at hq
          rw [aJS] at hq
          unfold aJ6 at h ⊢
          refine And.intro (fun c15 => ?_) (fun c15 => ?_)
          · have h := And.left h c15
            rw [if_pos c15] at hq
            rw [aFc] at hq
            unfold aEP at h ⊢
            refine ae ?_
            have h := h _ rfl
            refine aEu (by decide) h ?_
            intro h
            refine And.intro (And.left h) ?_
            have h := And.right h
            have q9 := hq _ rfl
            dsimp only at q9
            exact q9 h
          · have h := And.right h c15
            rw [if_neg c15] at hq
            refine And.intro (fun c16 => ?_) (fun c16 => ?_)
            · have h := And.left h c16
              rw [if_neg c16] at hq
              have q9 := hq _ rfl
              dsimp only at q9
              exact q9 h
            · have h := And.right h c16
              rw [if_pos c16] at hq
              rw [aFc] at hq
              unfold aEP at h ⊢
              refine ae ?_
              have h := h _ rfl
              refine aEu (by decide) h ?_
              intro h
              refine And.intro (And.left h) ?_
              have h := And.right h
              have q9 := hq _ rfl
              dsimp only at q9
              exact q9 h
        · have h := And.right h c14
          rw [if_pos c14] at hq
          refine ae ?_
          have h := h _ rfl
          refine aEu (by decide) h ?_
          intro h
          refine And.intro (And.left h) ?_
          have h := And.right h
          rw [aJS] at hq
          unfold aJ6 at h ⊢
          refine And.intro (fun c17 => ?_) (fun c17 => ?_)
          · have h := And.left h c17
            rw [if_pos c17] at hq
            rw [aFc] at hq
            unfold aEP at h ⊢
            refine ae ?_
            have h := h _ rfl
            refine aEu (by decide) h ?_
            intro h
            refine And.intro (And.left h) ?_
            have h := And.right h
            have q9 := hq _ rfl
            dsimp only at q9
            exact q9 h
          · have h := And.right h c17
            rw [if_neg c17] at hq
            refine And.intro (fun c18 => ?_) (fun c18 => ?_)
            · have h := And.left h c18
              rw [if_neg c18] at hq
              have q9 := hq _ rfl
              dsimp only at q9
              exact q9 h
            · have h := And.right h c18
              rw [if_pos c18] at hq
              rw [aFc] at hq
              unfold aEP at h ⊢
              refine ae ?_
              have h := h _ rfl
              refine aEu (by decide) h ?_
              intro h
              refine And.intro (And.left h) ?_
              have h := And.right h
              have q9 := hq _ rfl
              dsimp only at q9
              exact q9 h
      · have h := And.right h c13
        rw [if_neg c13] at hq
        refine And.intro (fun c19 => ?_) (fun c19 => ?_)
        · have h := And.left h c19
          rw [if_pos c19] at hq
          rw [aKM] at hq
          unfold aJJ at h ⊢
          refine ae ?_
          have h := h _ rfl
          refine And.intro (And.left h) ?_
          have h := And.right h
          refine And.intro (fun c20 => ?_) (fun c20 => ?_)
          · have h := And.left h c20
            rw [if_neg c20] at hq
            rw [aJS] at hq
            unfold aJ6 at h ⊢
            refine And.intro (fun c21 => ?_) (fun c21 => ?_)
            · have h := And.left h c21
              rw [if_pos c21] at hq
              rw [aFc] at hq
              unfold aEP at h ⊢
              refine ae ?_
              have h := h _ rfl
              refine aEu (by decide) h ?_
              intro h
              refine And.intro (And.left h) ?_
              have h := And.right h
              have q9 := hq _ rfl
              dsimp only at q9
              exact q9 h
            · have h := And.right h c21
              rw [if_neg c21] at hq
              refine And.intro (fun c22 => ?_) (fun c22 => ?_)
              · have h := And.left h c22
                rw [if_neg c22] at hq
                have q9 := hq _ rfl
                dsimp only at q9
                exact q9 h
              · have h := And.right h c22
                rw [if_pos c22] at hq
                rw [aFc] at hq
                unfold aEP at h ⊢
                refine ae ?_
                have h := h _ rfl
                refine aEu (by decide) h ?_
                intro h
                refine And.intro (And.left h) ?_
                have h := And.right h
                have q9 := hq _ rfl
                dsimp only at q9
                exact q9 h
          · have h := And.right h c20
            rw [if_pos c20] at hq
            refine ae ?_
            have h := h _ rfl
            refine aEu (by decide) h ?_
            intro h
            refine And.intro (And.left h) ?_
            have h := And.right h
            rw [aJS] at hq
            unfold aJ6 at h ⊢
            refine And.intro (fun c23 => ?_) (fun c23 => ?_)
            · have h := And.left h c23
              rw [if_pos c23] at hq
              rw [aFc] at hq
              unfold aEP at h ⊢
              refine ae ?_
              have h := h _ rfl
              refine aEu (by decide) h ?_
              intro h
              refine And.intro (And.left h) ?_
              have h := And.right h
              have q9 := hq _ rfl
              dsimp only at q9
              exact q9 h
            · have h := And.right h c23
              rw [if_neg c23] at hq
              refine And.intro (fun c24 => ?_) (fun c24 => ?_)
              · have h := And.left h c24
                rw [if_neg c24] at hq
                have q9 := hq _ rfl
                dsimp only at q9
                exact q9 h
              · have h := And.right h c24
                rw [if_pos c24] at hq
                rw [aFc] at hq
                unfold aEP at h ⊢
                refine ae ?_
                have h := h _ rfl
                refine aEu (by decide) h ?_
                intro h
                refine And.intro (And.left h) ?_
                have h := And.right h
                have q9 := hq _ rfl
                dsimp only at q9
                exact q9 h
        · have h := And.right h c19
          rw [if_neg c19] at hq
          refine And.intro (fun c25 => ?_) (fun c25 => ?_)
          · have h := And.left h c25
            rw [if_pos c25] at hq
            rw [aKM] at hq
            unfold aJJ at h ⊢
            refine ae ?_
            have h := h _ rfl
            refine And.intro (And.left h) ?_
            have h := And.right h
            refine And.intro (fun c26 => ?_) (fun c26 => ?_)
            · have h := And.left h c26
              rw [if_neg c26] at hq
              rw [aJS] at hq
              unfold aJ6 at h ⊢
              refine And.intro (fun c27 => ?_) (fun c27 => ?_)
              · have h := And.left h c27
                rw [if_pos c27] at hq
                rw [aFc] at hq
                unfold aEP at h ⊢
                refine ae ?_
                have h := h _ rfl
                refine aEu (by decide) h ?_
                intro h
                refine And.intro (And.left h) ?_
                have h := And.right h
                have q9 := hq _ rfl
                dsimp only at q9
                exact q9 h
              · have h := And.right h c27
                rw [if_neg c27] at hq
                refine And.intro (fun c28 => ?_) (fun c28 => ?_)
                · have h := And.left h c28
                  rw [if_neg c28] at hq
                  have q9 := hq _ rfl
                  dsimp only at q9
                  exact q9 h
                · have h := And.right h c28
                  rw [if_pos c28] at hq
                  rw [aFc] at hq
                  unfold aEP at h ⊢
                  refine ae ?_
                  have h := h _ rfl
                  refine aEu (by decide) h ?_
                  intro h
                  refine And.intro (And.left h) ?_
                  have h := And.right h
                  have q9 := hq _ rfl
                  dsimp only at q9
                  exact q9 h
            · have h := And.right h c26
              rw [if_pos c26] at hq
              refine ae ?_
              have h := h _ rfl
              refine aEu (by decide) h ?_
              intro h
              refine And.intro (And.left h) ?_
              have h := And.right h
              rw [aJS] at hq
              unfold aJ6 at h ⊢
              refine And.intro (fun c29 => ?_) (fun c29 => ?_)
              · have h := And.left h c29
                rw [if_pos c29] at hq
                rw [aFc] at hq
                unfold aEP at h ⊢
                refine ae ?_
                have h := h _ rfl
                refine aEu (by decide) h ?_
                intro h
                refine And.intro (And.left h) ?_
                have h := And.right h
                have q9 := hq _ rfl
                dsimp only at q9
                exact q9 h
              · have h := And.right h c29
                rw [if_neg c29] at hq
                refine And.intro (fun c30 => ?_) (fun c30 => ?_)
                · have h := And.left h c30
                  rw [if_neg c30] at hq
                  have q9 := hq _ rfl
                  dsimp only at q9
                  exact q9 h
                · have h := And.right h c30
                  rw [if_pos c30] at hq
                  rw [aFc] at hq
                  unfold aEP at h ⊢
                  refine ae ?_
                  have h := h _ rfl
                  refine aEu (by decide) h ?_
                  intro h
                  refine And.intro (And.left h) ?_
                  have h := And.right h
                  have q9 := hq _ rfl
                  dsimp only at q9
                  exact q9 h
          · have h := And.right h c25
            rw [if_neg c25] at hq
            refine And.intro (fun c31 => ?_) (fun c31 => ?_)
            · have h := And.left h c31
              rw [if_pos c31] at hq
              rw [aKM] at hq
              unfold aJJ at h ⊢
              refine ae ?_
              have h := h _ rfl
              refine And.intro (And.left h) ?_
              have h := And.right h
              refine And.intro (fun c32 => ?_) (fun c32 => ?_)
              · have h := And.left h c32
                rw [if_neg c32] at hq
                rw [aJS] at hq
                unfold aJ6 at h ⊢
                refine And.intro (fun c33 => ?_) (fun c33 => ?_)
                · have h := And.left h c33
                  rw [if_pos c33] at hq
                  rw [aFc] at hq
                  unfold aEP at h ⊢
                  refine ae ?_
                  have h := h _ rfl
                  refine aEu (by decide) h ?_
                  intro h
                  refine And.intro (And.left h) ?_
                  have h := And.right h
                  have q9 := hq _ rfl
                  dsimp only at q9
                  exact q9 h
                · have h := And.right h c33
                  rw [if_neg c33] at hq
                  refine And.intro (fun c34 => ?_) (fun c34 => ?_)
                  · have h := And.left h c34
                    rw [if_neg c34] at hq
                    have q9 := hq _ rfl
                    dsimp only at q9
                    exact q9 h
                  · have h := And.right h c34
                    rw [if_pos c34] at hq
                    rw [aFc] at hq
                    unfold aEP at h ⊢
                    refine ae ?_
                    have h := h _ rfl
                    refine aEu (by decide) h ?_
                    intro h
                    refine And.intro (And.left h) ?_
                    have h := And.right h
                    have q9 := hq _ rfl
                    dsimp only at q9
                    exact q9 h
              · have h := And.right h c32
                rw [if_pos c32] at hq
                refine ae ?_
                have h := h _ rfl
                refine aEu (by decide) h ?_
                intro h
                refine And.intro (And.left h) ?_
                have h := And.right h
                rw [aJS] at hq
                unfold aJ6 at h ⊢
                refine And.intro (fun c35 => ?_) (fun c35 => ?_)
                · have h := And.left h c35
                  rw [if_pos c35] at hq
                  rw [aFc] at hq
                  unfold aEP at h ⊢
                  refine ae ?_
                  have h := h _ rfl
                  refine aEu (by decide) h ?_
                  intro h
                  refine And.intro (And.left h) ?_
                  have h := And.right h
                  have q9 := hq _ rfl
                  dsimp only at q9
                  exact q9 h
                · have h := And.right h c35
                  rw [if_neg c35] at hq
                  refine And.intro (fun c36 => ?_) (fun c36 => ?_)
                  · have h := And.left h c36
                    rw [if_neg c36] at hq
                    have q9 := hq _ rfl
                    dsimp only at q9
                    exact q9 h
                  · have h := And.right h c36
                    rw [if_pos c36] at hq
                    rw [aFc] at hq
                    unfold aEP at h ⊢
                    refine ae ?_
                    have h := h _ rfl
                    refine aEu (by decide) h ?_
                    intro h
                    refine And.intro (And.left h) ?_
                    have h := And.right h
                    have q9 := hq _ rfl
                    dsimp only at q9
                    exact q9 h
            · have h := And.right h c31
              rw [if_neg c31] at hq
              refine And.intro (fun c37 => ?_) (fun c37 => ?_)
              · have h := And.left h c37
                rw [if_pos c37] at hq
                rw [aKM] at hq
                unfold aJJ at h ⊢
                refine ae ?_
                have h := h _ rfl
                refine And.intro (And.left h) ?_
                have h := And.right h
                refine And.intro (fun c38 => ?_) (fun c38 => ?_)
                · have h := And.left h c38
                  rw [if_neg c38] at hq
                  rw [aJS] at hq
                  unfold aJ6 at h ⊢
                  refine And.intro (fun c39 => ?_) (fun c39 => ?_)
                  · have h := And.left h c39
                    rw [if_pos c39] at hq
                    rw [aFc] at hq
                    unfold aEP at h ⊢
                    refine ae ?_
                    have h := h _ rfl
                    refine aEu (by decide) h ?_
                    intro h
                    refine And.intro (And.left h) ?_
                    have h := And.right h
                    have q9 := hq _ rfl
                    dsimp only at q9
                    exact q9 h
                  · have h := And.right h c39
                    rw [if_neg c39] at hq
                    refine And.intro (fun c40 => ?_) (fun c40 => ?_)
                    · have h := And.left h c40
                      rw [if_neg c40] at hq
                      have q9 := hq _ rfl
                      dsimp only at q9
                      exact q9 h
                    · have h := And.right h c40
                      rw [if_pos c40] at hq
                      rw [aFc] at hq
                      unfold aEP at h ⊢
                      refine ae ?_
                      have h := h _ rfl
                      refine aEu (by decide) h ?_
                      intro h
                      refine And.intro (And.left h) ?_
                      have h := And.right h
                      have q9 := hq _ rfl
                      dsimp only at q9
                      exact q9 h
                · have h := And.right h c38
                  rw [if_pos c38] at hq
                  refine ae ?_
                  have h := h _ rfl
                  refine aEu (by decide) h ?_
                  intro h
                  refine And.intro (And.left h) ?_
                  have h := And.right h
                  rw [aJS] at hq
                  unfold aJ6 at h ⊢
                  refine And.intro (fun c41 => ?_) (fun c41 => ?_)
                  · have h := And.left h c41
                    rw [if_pos c41] at hq
                    rw [aFc] at hq
                    unfold aEP at h ⊢
                    refine ae ?_
                    have h := h _ rfl
                    refine aEu (by decide) h ?_
                    intro h
                    refine And.intro (And.left h) ?_
                    have h := And.right h
                    have q9 := hq _ rfl
                    dsimp only at q9
                    exact q9 h
                  · have h := And.right h c41
                    rw [if_neg c41] at hq
                    refine And.intro (fun c42 => ?_) (fun c42 => ?_)
                    · have h := And.left h c42
                      rw [if_neg c42] at hq
                      have q9 := hq _ rfl
                      dsimp only at q9
                      exact q9 h
                    · have h := And.right h c42
                      rw [if_pos c42] at hq
                      rw [aFc] at hq
                      unfold aEP at h ⊢
                      refine ae ?_
                      have h := h _ rfl
                      refine aEu (by decide) h ?_
                      intro h
                      refine And.intro (And.left h) ?_
                      have h := And.right h
                      have q9 := hq _ rfl
                      dsimp only at q9
                      exact q9 h
              · have h := And.right h c37
                rw [if_neg c37] at hq
                refine And.intro (fun c43 => ?_) (fun c43 => ?_)
                · have h := And.left h c43
                  rw [if_pos c43] at hq
                  rw [aKM] at hq
                  unfold aJJ at h ⊢
                  refine ae ?_
                  have h := h _ rfl
                  refine And.intro (And.left h) ?_
                  have h := And.right h
                  refine And.intro (fun c44 => ?_) (fun c44 => ?_)
                  · have h := And.left h c44
                    rw [if_neg c44] at hq
                    rw [aJS] at hq
                    unfold aJ6 at h ⊢
                    refine And.intro (fun c45 => ?_) (fun c45 => ?_)
                    · have h := And.left h c45
                      rw [if_pos c45] at hq
                      rw [aFc] at hq
                      unfold aEP at h ⊢
                      refine ae ?_
                      have h := h _ rfl
                      refine aEu (by decide) h ?_
                      intro h
                      refine And.intro (And.left h) ?_
                      have h := And.right h
                      have q9 := hq _ rfl
                      dsimp only at q9
                      exact q9 h
                    · have h := And.right h c45
                      rw [if_neg c45] at hq
                      refine And.intro (fun c46 => ?_) (fun c46 => ?_)
                      · have h := And.left h c46
                        rw [if_neg c46] at hq
                        have q9 := hq _ rfl
                        dsimp only at q9
                        exact q9 h
                      · have h := And.right h c46
                        rw [if_pos c46] at hq
                        rw [aFc] at hq
                        unfold aEP at h ⊢
                        refine ae ?_
                        have h := h _ rfl
                        refine aEu (by decide) h ?_
                        intro h
                        refine And.intro (And.left h) ?_
                        have h := And.right h
                        have q9 := hq _ rfl
                        dsimp only at q9
                        exact q9 h
                  · have h := And.right h c44
                    rw [if_pos c44] at hq
                    refine ae ?_
                    have h := h _ rfl
                    refine aEu (by decide) h ?_
                    intro h
                    refine And.intro (And.left h) ?_
                    have h := And.right h
                    rw [aJS] at hq
                    unfold aJ6 at h ⊢
                    refine And.intro (fun c47 => ?_) (fun c47 => ?_)
                    · have h := And.left h c47
                      rw [if_pos c47] at hq
                      rw [aFc] at hq
                      unfold aEP at h ⊢
                      refine ae ?_
                      have h := h _ rfl
                      refine aEu (by decide) h ?_
                      intro h
                      refine And.intro (And.left h) ?_
                      have h := And.right h
                      have q9 := hq _ rfl
                      dsimp only at q9
                      exact q9 h
                    · have h := And.right h c47
                      rw [if_neg c47] at hq
                      refine And.intro (fun c48 => ?_) (fun c48 => ?_)
                      · have h := And.left h c48
                        rw [if_neg c48] at hq
                        have q9 := hq _ rfl
                        dsimp only at q9
                        exact q9 h
                      · have h := And.right h c48
                        rw [if_pos c48] at hq
                        rw [aFc] at hq
                        unfold aEP at h ⊢
                        refine ae ?_
                        have h := h _ rfl
                        refine aEu (by decide) h ?_
                        intro h
                        refine And.intro (And.left h) ?_
                        have h := And.right h
                        have q9 := hq _ rfl
                        dsimp only at q9
                        exact q9 h
                · have h := And.right h c43
                  rw [if_neg c43] at hq
                  refine du_X10_fault h ?_
                  intro h
                  rw [aKM] at hq
                  unfold aJJ at h ⊢
                  refine ae ?_
                  have h := h _ rfl
                  refine And.intro (And.left h) ?_
                  have h := And.right h
                  refine And.intro (fun c49 => ?_) (fun c49 => ?_)
                  · have h := And.left h c49
                    rw [if_neg c49] at hq
                    rw [aJS] at hq
                    unfold aJ6 at h ⊢
                    refine And.intro (fun c50 => ?_) (fun c50 => ?_)
                    · have h := And.left h c50
                      rw [if_pos c50] at hq
                      rw [aFc] at hq
                      unfold aEP at h ⊢
                      refine ae ?_
                      have h := h _ rfl
                      refine aEu (by decide) h ?_
                      intro h
                      refine And.intro (And.left h) ?_
                      have h := And.right h
                      have q9 := hq _ rfl
                      dsimp only at q9
                      exact q9 h
                    · have h := And.right h c50
                      rw [if_neg c50] at hq
                      refine And.intro (fun c51 => ?_) (fun c51 => ?_)
                      · have h := And.left h c51
                        rw [if_neg c51] at hq
                        have q9 := hq _ rfl
                        dsimp only at q9
                        exact q9 h
                      · have h := And.right h c51
                        rw [if_pos c51] at hq
                        rw [aFc] at hq
                        unfold aEP at h ⊢
                        refine ae ?_
                        have h := h _ rfl
                        refine aEu (by decide) h ?_
                        intro h
                        refine And.intro (And.left h) ?_
                        have h := And.right h
                        have q9 := hq _ rfl
                        dsimp only at q9
                        exact q9 h
                  · have h := And.right h c49
                    rw [if_pos c49] at hq
                    refine ae ?_
                    have h := h _ rfl
                    refine aEu (by decide) h ?_
                    intro h
                    refine And.intro (And.left h) ?_
                    have h := And.right h
                    rw [aJS] at hq
                    unfold aJ6 at h ⊢
                    refine And.intro (fun c52 => ?_) (fun c52 => ?_)
                    · have h := And.left h c52
                      rw [if_pos c52] at hq
                      rw [aFc] at hq
                      unfold aEP at h ⊢
                      refine ae ?_
                      have h := h _ rfl
                      refine aEu (by decide) h ?_
                      intro h
                      refine And.intro (And.left h) ?_
                      have h := And.right h
                      have q9 := hq _ rfl
                      dsimp only at q9
                      exact q9 h
                    · have h := And.right h c52
                      rw [if_neg c52] at hq
                      refine And.intro (fun c53 => ?_) (fun c53 => ?_)
                      · have h := And.left h c53
                        rw [if_neg c53] at hq
                        have q9 := hq _ rfl
                        dsimp only at q9
                        exact q9 h
                      · have h := And.right h c53
                        rw [if_pos c53] at hq
                        rw [aFc] at hq
                        unfold aEP at h ⊢
                        refine ae ?_
                        have h := h _ rfl
                        refine aEu (by decide) h ?_
                        intro h
                        refine And.intro (And.left h) ?_
                        have h := And.right h
                        have q9 := hq _ rfl
                        dsimp only at q9
                        exact q9 h
theorem du_X10_readAct {P Q : Int32 -> Int32 -> (Nat -> Int32) -> Prop} {p0 : Int32} {jD : Nat} {mLn oF rP dQ : Int32} {qO qQ wJ : Nat -> Int32} (h : wp_X10_readAct P p0 jD mLn oF rP dQ qO qQ wJ) (hq : P (aMq p0 jD mLn oF rP dQ qO qQ wJ).1 (aMq p0 jD mLn oF rP dQ qO qQ wJ).2.1 (aMq p0 jD mLn oF rP dQ qO qQ wJ).2.2 -> Q (aMq p0 jD mLn oF rP dQ qO qQ wJ).1 (aMq p0 jD mLn oF rP dQ qO qQ wJ).2.1 (aMq p0 jD mLn oF rP dQ qO qQ wJ).2.2) : wp_X10_readAct Q p0 jD mLn oF rP dQ qO qQ wJ := dt_X10_readAct h (fun o eo => by rw [eo]; exact hq)
theorem dw_X10_readAct {Q : Int32 -> Int32 -> (Nat -> Int32) -> Prop} {p0 : Int32} {jD : Nat} {mLn oF rP dQ : Int32} {qO qQ wJ : Nat -> Int32} (h : wp_X10_readAct (fun o0 o1 o2 => (o0, o1, o2) = aMq p0 jD mLn oF rP dQ qO qQ wJ -> Q o0 o1 o2) p0 jD mLn oF rP dQ qO qQ wJ) : wp_X10_readAct Q p0 jD mLn oF rP dQ qO qQ wJ := dt_X10_readAct h (fun o eo hp => hp eo)
noncomputable def bd_X10_lay_b2_2 (qG : Nat -> Int32) (x2 c : Int32) (s : (Nat -> Int32)) : (Nat -> Int32) := (upd s (x2 + c).toNatClampNeg (qG c.toNatClampNeg))
noncomputable def ex_X10_lay_b2_2 {R : Type} (po : (Nat -> Int32) -> R) (qG : Nat -> Int32) (x2 c : Int32) (s : (Nat -> Int32)) : R := po s
set_option maxHeartbeats 200000 in
set_option maxRecDepth 10000 in
theorem dl_X10_lay_b2_2 {P Q : (Nat -> Int32) -> Prop} {qG : Nat -> Int32} {x2 : Int32} {a : (Nat -> Int32)} {i : Nat} (hi0 : i < 2147483648) (hE : ∀ (c : Int32) (s : (Nat -> Int32)), c = nI (i + (Int32.toInt 21 - ((i : Nat) : Int)).toNat) -> s = itr (bd_X10_lay_b2_2 qG x2) a i (Int32.toInt 21 - ((i : Nat) : Int)).toNat -> (P s) -> (Q s)) : ∀ (n k : Nat) (c : Int32), c = nI (i + k) -> k <= (Int32.toInt 21 - ((i : Nat) : Int)).toNat -> wb_X10_lay_b2_2 P qG n x2 c (itr (bd_X10_lay_b2_2 qG x2) a i k) -> wb_X10_lay_b2_2 Q qG n x2 c (itr (bd_X10_lay_b2_2 qG x2) a i k) := by
  intro n
  induction n with
  | zero => intro k c hc hk h; exact False.elim h
  | succ n ih =>
    intro k c hc hk h
    have hr := aAT 21
    have hi : Int32.toInt c = ((i + k : Nat) : Int) := by rw [hc]; exact nI_toInt (by omega)
    refine And.intro (fun t0 => ?_) (fun t0 => ?_)
    · have h := And.left h t0
      have t1 := (aAO _ _).mp t0
      have hk2 : k = (Int32.toInt 21 - ((i : Nat) : Int)).toNat := by omega
      subst hk2
      exact hE _ _ hc rfl h
    · have h := And.right h t0
      have t1 := mt (aAO _ _).mpr t0
      have hs : ∀ o : (Nat -> Int32), o = itr (bd_X10_lay_b2_2 qG x2) a i (k + 1) -> wb_X10_lay_b2_2 P qG n x2 (c + 1) o -> wb_X10_lay_b2_2 Q qG n x2 (c + 1) o := by
        intro o eo h9
        have q := ih (k + 1) (c + 1) (by rw [hc]; exact nI_1 _) (by omega)
        rw [<- eo] at q
        exact q h9
      rw [itr_s, <- hc, bd_X10_lay_b2_2] at hs
      refine ae ?_
      have h := h _ rfl
      refine And.intro (And.left h) ?_
      have h := And.right h
      refine ae ?_
      have h := h _ rfl
      refine And.intro (And.left h) ?_
      have h := And.right h
      refine ae ?_
      have h := h _ rfl
      have q9 := hs _ rfl
      exact q9 h
noncomputable def F_X10_lay_b2 (p2 : Int32) (qG vF : Nat -> Int32) : (Nat -> Int32) := ex_X10_lay_b2_2 (fun o0 => o0) qG p2 (nI (0 + (Int32.toInt 21 - ((0 : Nat) : Int)).toNat)) (itr (bd_X10_lay_b2_2 qG p2) vF 0 (Int32.toInt 21 - ((0 : Nat) : Int)).toNat)
set_option maxHeartbeats 200000 in
set_option maxRecDepth 10000 in
theorem dt_X10_lay_b2 {P Q : (Nat -> Int32) -> Prop} {p2 : Int32} {qG vF : Nat -> Int32} (h : wp_X10_lay_b2 P p2 qG vF) (hq : ∀ o : (Nat -> Int32), o = F_X10_lay_b2 p2 qG vF -> P o -> Q o) : wp_X10_lay_b2 Q p2 qG vF := by
  rw [F_X10_lay_b2] at hq
  obtain ⟨n1, h⟩ := h
  refine ⟨n1, dl_X10_lay_b2_2 (a := vF) (i := 0) (by decide) ?_ n1 0 0 (by decide) (Nat.zero_le _) h⟩
  intro cc2 s3 ec4 es5 h
  rw [<- ec4, <- es5, ex_X10_lay_b2_2] at hq
  have q9 := hq _ rfl
  exact q9 h
theorem du_X10_lay_b2 {P Q : (Nat -> Int32) -> Prop} {p2 : Int32} {qG vF : Nat -> Int32} (h : wp_X10_lay_b2 P p2 qG vF) (hq : P (F_X10_lay_b2 p2 qG vF) -> Q (F_X10_lay_b2 p2 qG vF)) : wp_X10_lay_b2 Q p2 qG vF := dt_X10_lay_b2 h (fun o eo => by rw [eo]; exact hq)
theorem dw_X10_lay_b2 {Q : (Nat -> Int32) -> Prop} {p2 : Int32} {qG vF : Nat -> Int32} (h : wp_X10_lay_b2 (fun o0 => o0 = F_X10_lay_b2 p2 qG vF -> Q o0) p2 qG vF) : wp_X10_lay_b2 Q p2 qG vF := dt_X10_lay_b2 h (fun o eo hp => hp eo)
noncomputable def bd_X10_lay_b3_2 (vF : Nat -> Int32) (x2 c : Int32) (s : (Nat -> Int32)) : (Nat -> Int32) := (upd s (x2 + c).toNatClampNeg (vF c.toNatClampNeg))
noncomputable def ex_X10_lay_b3_2 {R : Type} (po : (Nat -> Int32) -> R) (vF : Nat -> Int32) (x2 c : Int32) (s : (Nat -> Int32)) : R := po s
set_option maxHeartbeats 200000 in
set_option maxRecDepth 10000 in
theorem dl_X10_lay_b3_2 {P Q : (Nat -> Int32) -> Prop} {vF : Nat -> Int32} {x2 : Int32} {a : (Nat -> Int32)} {i : Nat} (hi0 : i < 2147483648) (hE : ∀ (c : Int32) (s : (Nat -> Int32)), c = nI (i + (Int32.toInt 21 - ((i : Nat) : Int)).toNat) -> s = itr (bd_X10_lay_b3_2 vF x2) a i (Int32.toInt 21 - ((i : Nat) : Int)).toNat -> (P s) -> (Q s)) : ∀ (n k : Nat) (c : Int32), c = nI (i + k) -> k <= (Int32.toInt 21 - ((i : Nat) : Int)).toNat -> wb_X10_lay_b3_2 P vF n x2 c (itr (bd_X10_lay_b3_2 vF x2) a i k) -> wb_X10_lay_b3_2 Q vF n x2 c (itr (bd_X10_lay_b3_2 vF x2) a i k) := by
  intro n
  induction n with
  | zero => intro k c hc hk h; exact False.elim h
  | succ n ih =>
    intro k c hc hk h
    have hr := aAT 21
    have hi : Int32.toInt c = ((i + k : Nat) : Int) := by rw [hc]; exact nI_toInt (by omega)
    refine And.intro (fun t0 => ?_) (fun t0 => ?_)
    · have h := And.left h t0
      have t1 := (aAO _ _).mp t0
      have hk2 : k = (Int32.toInt 21 - ((i : Nat) : Int)).toNat := by omega
      subst hk2
      exact hE _ _ hc rfl h
    · have h := And.right h t0
      have t1 := mt (aAO _ _).mpr t0
      have hs : ∀ o : (Nat -> Int32), o = itr (bd_X10_lay_b3_2 vF x2) a i (k + 1) -> wb_X10_lay_b3_2 P vF n x2 (c + 1) o -> wb_X10_lay_b3_2 Q vF n x2 (c + 1) o := by
        intro o eo h9
        have q := ih (k + 1) (c + 1) (by rw [hc]; exact nI_1 _) (by omega)
        rw [<- eo] at q
        exact q h9
      rw [itr_s, <- hc, bd_X10_lay_b3_2] at hs
      refine ae ?_
      have h := h _ rfl
      refine And.intro (And.left h) ?_
      have h := And.right h
      refine ae ?_
      have h := h _ rfl
      refine And.intro (And.left h) ?_
      have h := And.right h
      refine ae ?_
      have h := h _ rfl
      have q9 := hs _ rfl
      exact q9 h
noncomputable def F_X10_lay_b3 (p2 : Int32) (uL vF : Nat -> Int32) : (Nat -> Int32) := ex_X10_lay_b3_2 (fun o0 => o0) vF p2 (nI (0 + (Int32.toInt 21 - ((0 : Nat) : Int)).toNat)) (itr (bd_X10_lay_b3_2 vF p2) uL 0 (Int32.toInt 21 - ((0 : Nat) : Int)).toNat)
set_option maxHeartbeats 200000 in
set_option maxRecDepth 10000 in
theorem dt_X10_lay_b3 {P Q : (Nat -> Int32) -> Prop} {p2 : Int32} {uL vF : Nat -> Int32} (h : wp_X10_lay_b3 P p2 uL vF) (hq : ∀ o : (Nat -> Int32), o = F_X10_lay_b3 p2 uL vF -> P o -> Q o) : wp_X10_lay_b3 Q p2 uL vF := by
  rw [F_X10_lay_b3] at hq
  obtain ⟨n1, h⟩ := h
  refine ⟨n1, dl_X10_lay_b3_2 (a := uL) (i := 0) (by decide) ?_ n1 0 0 (by decide) (Nat.zero_le _) h⟩
  intro cc2 s3 ec4 es5 h
  rw [<- ec4, <- es5, ex_X10_lay_b3_2] at hq
  have q9 := hq _ rfl
  exact q9 h
theorem du_X10_lay_b3 {P Q : (Nat -> Int32) -> Prop} {p2 : Int32} {uL vF : Nat -> Int32} (h : wp_X10_lay_b3 P p2 uL vF) (hq : P (F_X10_lay_b3 p2 uL vF) -> Q (F_X10_lay_b3 p2 uL vF)) : wp_X10_lay_b3 Q p2 uL vF := dt_X10_lay_b3 h (fun o eo => by rw [eo]; exact hq)
theorem dw_X10_lay_b3 {Q : (Nat -> Int32) -> Prop} {p2 : Int32} {uL vF : Nat -> Int32} (h : wp_X10_lay_b3 (fun o0 => o0 = F_X10_lay_b3 p2 uL vF -> Q o0) p2 uL vF) : wp_X10_lay_b3 Q p2 uL vF := dt_X10_lay_b3 h (fun o eo hp => hp eo)
noncomputable def bd_X10_remember_b2_11 (vF : Nat -> Int32) (bU c : Int32) (s : (Nat -> Int32)) : (Nat -> Int32) := (upd s c.toNatClampNeg (s (c + 21).toNatClampNeg))
noncomputable def j_X10_remember_b2_49 {R : Type} (po : Int32 -> (Nat -> Int32) -> R) (vF : Nat -> Int32) (bU : Int32) (uL : Nat -> Int32) : R := po (bU + 1) (F_X10_lay_b3 (21 * bU) uL vF)
noncomputable def ex_X10_remember_b2_11 {R : Type} (po : Int32 -> (Nat -> Int32) -> R) (vF : Nat -> Int32) (bU c : Int32) (s : (Nat -> Int32)) : R := j_X10_remember_b2_49 po vF (bU - 1) s
set_option maxHeartbeats 200000 in
set_option maxRecDepth 10000 in
theorem dl_X10_remember_b2_11 {P Q : Int32 -> (Nat -> Int32) -> Prop} {vF : Nat -> Int32} {bU : Int32} {a : (Nat -> Int32)} {i : Nat} (hi0 : i < 2147483648) (hE : ∀ (c : Int32) (s : (Nat -> Int32)), c = nI (i + (Int32.toInt 231 - ((i : Nat) : Int)).toNat) -> s = itr (bd_X10_remember_b2_11 vF bU) a i (Int32.toInt 231 - ((i : Nat) : Int)).toNat -> (∀ v_4 : Int32, v_4 = bU - 1 -> aYJ P vF v_4 s) -> (∀ v_4 : Int32, v_4 = bU - 1 -> aYJ Q vF v_4 s)) : ∀ (n k : Nat) (c : Int32), c = nI (i + k) -> k <= (Int32.toInt 231 - ((i : Nat) : Int)).toNat -> wb_X10_remember_b2_11 P vF n c bU (itr (bd_X10_remember_b2_11 vF bU) a i k) -> wb_X10_remember_b2_11 Q vF n c bU (itr (bd_X10_remember_b2_11 vF bU) a i k) := by
  intro n
  induction n with
  | zero => intro k c hc hk h; exact False.elim h
  | succ n ih =>
    intro k c hc hk h
    have hr := aAT 231
    have hi : Int32.toInt c = ((i + k : Nat) : Int) := by rw [hc]; exact nI_toInt (by omega)
    refine And.intro (fun t0 => ?_) (fun t0 => ?_)
    · have h := And.left h t0
      have t1 := (aAO _ _).mp t0
      have hk2 : k = (Int32.toInt 231 - ((i : Nat) : Int)).toNat := by omega
      subst hk2
      exact hE _ _ hc rfl h
    · have h := And.right h t0
      have t1 := mt (aAO _ _).mpr t0
      have hs : ∀ o : (Nat -> Int32), o = itr (bd_X10_remember_b2_11 vF bU) a i (k + 1) -> wb_X10_remember_b2_11 P vF n (c + 1) bU o -> wb_X10_remember_b2_11 Q vF n (c + 1) bU o := by
        intro o eo h9
        have q := ih (k + 1) (c + 1) (by rw [hc]; exact nI_1 _) (by omega)
        rw [<- eo] at q
        exact q h9
      rw [itr_s, <- hc, bd_X10_remember_b2_11] at hs
      refine ae ?_
      have h := h _ rfl
      refine And.intro (And.left h) ?_
      have h := And.right h
      refine ae ?_
      have h := h _ rfl
      refine And.intro (And.left h) ?_
      have h := And.right h
      refine ae ?_
      have h := h _ rfl
      have q9 := hs _ rfl
      exact q9 h
noncomputable def F_X10_remember_b2 (bU : Int32) (uL vF : Nat -> Int32) : Int32 × (Nat -> Int32) := if bU = 12 then (ex_X10_remember_b2_11 (fun o0 o1 => (o0, o1)) vF bU (nI (0 + (Int32.toInt 231 - ((0 : Nat) : Int)).toNat)) (itr (bd_X10_remember_b2_11 vF bU) uL 0 (Int32.toInt 231 - ((0 : Nat) : Int)).toNat)) else (j_X10_remember_b2_49 (fun o0 o1 => (o0, o1)) vF bU uL)
set_option maxHeartbeats 200000 in
set_option maxRecDepth 10000 in
theorem dt_X10_remember_b2 {P Q : Int32 -> (Nat -> Int32) -> Prop} {bU : Int32} {uL vF : Nat -> Int32} (h : bBu P bU uL vF) (hq : ∀ o : Int32 × (Nat -> Int32), o = F_X10_remember_b2 bU uL vF -> P o.1 o.2 -> Q o.1 o.2) : bBu Q bU uL vF := by
  rw [F_X10_remember_b2] at hq
  refine And.intro (fun c1 => ?_) (fun c1 => ?_)
  · have h := And.left h c1
    rw [if_neg c1] at hq
    rw [j_X10_remember_b2_49] at hq
    unfold aYJ at h ⊢
    refine ae ?_
    have h := h _ rfl
    refine du_X10_lay_b3 h ?_
    intro h
    refine ae ?_
    have h := h _ rfl
    have q9 := hq _ rfl
    dsimp only at q9
    exact q9 h
  · have h := And.right h c1
    rw [if_pos c1] at hq
    obtain ⟨n2, h⟩ := h
    refine ⟨n2, dl_X10_remember_b2_11 (a := uL) (i := 0) (by decide) ?_ n2 0 0 (by decide) (Nat.zero_le _) h⟩
    intro cc3 s4 ec5 es6 h
    rw [<- ec5, <- es6, ex_X10_remember_b2_11] at hq
    refine ae ?_
    have h := h _ rfl
    rw [j_X10_remember_b2_49] at hq
    unfold aYJ at h ⊢
    refine ae ?_
    have h := h _ rfl
    refine du_X10_lay_b3 h ?_
    intro h
    refine ae ?_
    have h := h _ rfl
    have q9 := hq _ rfl
    dsimp only at q9
    exact q9 h
theorem du_X10_remember_b2 {P Q : Int32 -> (Nat -> Int32) -> Prop} {bU : Int32} {uL vF : Nat -> Int32} (h : bBu P bU uL vF) (hq : P (F_X10_remember_b2 bU uL vF).1 (F_X10_remember_b2 bU uL vF).2 -> Q (F_X10_remember_b2 bU uL vF).1 (F_X10_remember_b2 bU uL vF).2) : bBu Q bU uL vF := dt_X10_remember_b2 h (fun o eo => by rw [eo]; exact hq)
theorem dw_X10_remember_b2 {Q : Int32 -> (Nat -> Int32) -> Prop} {bU : Int32} {uL vF : Nat -> Int32} (h : bBu (fun o0 o1 => (o0, o1) = F_X10_remember_b2 bU uL vF -> Q o0 o1) bU uL vF) : bBu Q bU uL vF := dt_X10_remember_b2 h (fun o eo hp => hp eo)
noncomputable def bd_X10_undo_26 (uL : Nat -> Int32) (bY bU c : Int32) (s : (Nat -> Int32)) : (Nat -> Int32) := (upd s c.toNatClampNeg (uL ((21 * bU) + c).toNatClampNeg))
noncomputable def ex_X10_undo_26 {R : Type} (po : Int32 -> Int32 -> Int32 -> (Nat -> Int32) -> R) (uL : Nat -> Int32) (bY bU c : Int32) (s : (Nat -> Int32)) : R := po bU bY bU s
set_option maxHeartbeats 200000 in
set_option maxRecDepth 10000 in
theorem dl_X10_undo_26 {P Q : Int32 -> Int32 -> Int32 -> (Nat -> Int32) -> Prop} {uL : Nat -> Int32} {bY bU : Int32} {a : (Nat -> Int32)} {i : Nat} (hi0 : i < 2147483648) (hE : ∀ (c : Int32) (s : (Nat -> Int32)), c = nI (i + (Int32.toInt 21 - ((i : Nat) : Int)).toNat) -> s = itr (bd_X10_undo_26 uL bY bU) a i (Int32.toInt 21 - ((i : Nat) : Int)).toNat -> (P bU bY bU s) -> (Q bU bY bU s)) : ∀ (n k : Nat) (c : Int32), c = nI (i + k) -> k <= (Int32.toInt 21 - ((i : Nat) : Int)).toNat -> wb_X10_undo_26 P uL n c bY bU (itr (bd_X10_undo_26 uL bY bU) a i k) -> wb_X10_undo_26 Q uL n c bY bU (itr (bd_X10_undo_26 uL bY bU) a i k) := by
  intro n
  induction n with
  | zero => intro k c hc hk h; exact False.elim h
  | succ n ih =>
    intro k c hc hk h
    have hr := aAT 21
    have hi : Int32.toInt c = ((i + k : Nat) : Int) := by rw [hc]; exact nI_toInt (by omega)
    refine And.intro (fun t0 => ?_) (fun t0 => ?_)
    · have h := And.left h t0
      have t1 := (aAO _ _).mp t0
      have hk2 : k = (Int32.toInt 21 - ((i : Nat) : Int)).toNat := by omega
      subst hk2
      exact hE _ _ hc rfl h
    · have h := And.right h t0
      have t1 := mt (aAO _ _).mpr t0
      have hs : ∀ o : (Nat -> Int32), o = itr (bd_X10_undo_26 uL bY bU) a i (k + 1) -> wb_X10_undo_26 P uL n (c + 1) bY bU o -> wb_X10_undo_26 Q uL n (c + 1) bY bU o := by
        intro o eo h9
        have q := ih (k + 1) (c + 1) (by rw [hc]; exact nI_1 _) (by omega)
        rw [<- eo] at q
        exact q h9
      rw [itr_s, <- hc, bd_X10_undo_26] at hs
      refine ae ?_
      have h := h _ rfl
      refine ae ?_
      have h := h _ rfl
      refine And.intro (And.left h) ?_
      have h := And.right h
      refine ae ?_
      have h := h _ rfl
      refine And.intro (And.left h) ?_
      have h := And.right h
      refine ae ?_
      have h := h _ rfl
      have q9 := hs _ rfl
      exact q9 h
noncomputable def F_X10_undo (bY bU : Int32) (qG uL : Nat -> Int32) : Int32 × Int32 × Int32 × (Nat -> Int32) := if bU = 0 then ((-1), 0, bU, qG) else (ex_X10_undo_26 (fun o0 o1 o2 o3 => (o0, o1, o2, o3)) uL 0 (bU - 1) (nI (0 + (Int32.toInt 21 - ((0 : Nat) : Int)).toNat)) (itr (bd_X10_undo_26 uL 0 (bU - 1)) qG 0 (Int32.toInt 21 - ((0 : Nat) : Int)).toNat))
set_option maxHeartbeats 200000 in
set_option maxRecDepth 10000 in
theorem dt_X10_undo {P Q : Int32 -> Int32 -> Int32 -> (Nat -> Int32) -> Prop} {bY bU : Int32} {qG uL : Nat -> Int32} (h : wp_X10_undo P bY bU qG uL) (hq : ∀ o : Int32 × Int32 × Int32 × (Nat -> Int32), o = F_X10_undo bY bU qG uL -> P o.1 o.2.1 o.2.2.1 o.2.2.2 -> Q o.1 o.2.1 o.2.2.1 o.2.2.2) : wp_X10_undo Q bY bU qG uL := by
  rw [F_X10_undo] at hq
  refine And.intro (fun c1 => ?_) (fun c1 => ?_)
  · have h := And.left h c1
    rw [if_neg c1] at hq
    refine ae ?_
    have h := h _ rfl
    obtain ⟨n2, h⟩ := h
    refine ⟨n2, dl_X10_undo_26 (a := qG) (i := 0) (by decide) ?_ n2 0 0 (by decide) (Nat.zero_le _) h⟩
    intro cc3 s4 ec5 es6 h
    rw [<- ec5, <- es6, ex_X10_undo_26] at hq
    have q9 := hq _ rfl
    dsimp only at q9
    exact q9 h
  · have h := And.right h c1
    rw [if_pos c1] at hq
    have q9 := hq _ rfl
    dsimp only at q9
    exact q9 h
theorem du_X10_undo {P Q : Int32 -> Int32 -> Int32 -> (Nat -> Int32) -> Prop} {bY bU : Int32} {qG uL : Nat -> Int32} (h : wp_X10_undo P bY bU qG uL) (hq : P (F_X10_undo bY bU qG uL).1 (F_X10_undo bY bU qG uL).2.1 (F_X10_undo bY bU qG uL).2.2.1 (F_X10_undo bY bU qG uL).2.2.2 -> Q (F_X10_undo bY bU qG uL).1 (F_X10_undo bY bU qG uL).2.1 (F_X10_undo bY bU qG uL).2.2.1 (F_X10_undo bY bU qG uL).2.2.2) : wp_X10_undo Q bY bU qG uL := dt_X10_undo h (fun o eo => by rw [eo]; exact hq)
theorem dw_X10_undo {Q : Int32 -> Int32 -> Int32 -> (Nat -> Int32) -> Prop} {bY bU : Int32} {qG uL : Nat -> Int32} (h : wp_X10_undo (fun o0 o1 o2 o3 => (o0, o1, o2, o3) = F_X10_undo bY bU qG uL -> Q o0 o1 o2 o3) bY bU qG uL) : wp_X10_undo Q bY bU qG uL := dt_X10_undo h (fun o eo hp => hp eo)
noncomputable def j_X10_from_69 {R : Type} (k29 : Int32 -> Int32 -> Int32 -> Int32 -> Int32 -> R) (bT aG : Int32) (qG m_x gR nG oO pJ : Nat -> Int32) (x1 x2 x4 k0 k1 bY : Int32) : R := k29 x1 x2 (k0 ||| k1) (x4 + 1) bY
noncomputable def bd_X10_from_29 (bT aG : Int32) (qG m_x gR nG oO pJ : Nat -> Int32) (x1 x2 bY c s : Int32) : Int32 := if (bAx x1 c (F_X10_reachBy (qG (18 : Int32).toNatClampNeg) x2 pJ) m_x gR nG oO) = 0 then (j_X10_from_69 (fun q0 q1 q2 q3 q4 => q2) bT aG qG m_x gR nG oO pJ x1 x2 c s 0 bY) else (j_X10_from_69 (fun q0 q1 q2 q3 q4 => q2) bT aG qG m_x gR nG oO pJ x1 x2 c s (1 <<< (c &&& 31)) bY)
noncomputable def ex_X10_from_29 {R : Type} (po : Int32 -> Int32 -> R) (bT aG : Int32) (qG m_x gR nG oO pJ : Nat -> Int32) (x1 x2 bY c s : Int32) : R := po s bY
set_option maxHeartbeats 200000 in
set_option maxRecDepth 10000 in
theorem dl_X10_from_29 {P Q : Int32 -> Int32 -> Prop} {bT aG : Int32} {qG m_x gR nG oO pJ : Nat -> Int32} {x1 x2 bY a : Int32} {i : Nat} (hi0 : i < 2147483648) (hE : ∀ (c : Int32) (s : Int32), c = nI (i + (Int32.toInt aG - ((i : Nat) : Int)).toNat) -> s = itr (bd_X10_from_29 bT aG qG m_x gR nG oO pJ x1 x2 bY) a i (Int32.toInt aG - ((i : Nat) : Int)).toNat -> (P s bY) -> (Q s bY)) : ∀ (n k : Nat) (c : Int32), c = nI (i + k) -> k <= (Int32.toInt aG - ((i : Nat) : Int)).toNat -> wb_X10_from_29 P bT aG qG m_x gR nG oO pJ n x1 x2 (itr (bd_X10_from_29 bT aG qG m_x gR nG oO pJ x1 x2 bY) a i k) c bY -> wb_X10_from_29 Q bT aG qG m_x gR nG oO pJ n x1 x2 (itr (bd_X10_from_29 bT aG qG m_x gR nG oO pJ x1 x2 bY) a i k) c bY := by
  intro n
  induction n with
  | zero => intro k c hc hk h; exact False.elim h
  | succ n ih =>
    intro k c hc hk h
    have hr := aAT aG
    have hi : Int32.toInt c = ((i + k : Nat) : Int) := by rw [hc]; exact nI_toInt (by omega)
    refine And.intro (fun t0 => ?_) (fun t0 => ?_)
    · have h := And.left h t0
      have t1 := (aAO _ _).mp t0
      have hk2 : k = (Int32.toInt aG - ((i : Nat) : Int)).toNat := by omega
      subst hk2
      exact hE _ _ hc rfl h
    · have h := And.right h t0
      have t1 := mt (aAO _ _).mpr t0
      have hs : ∀ o : Int32, o = itr (bd_X10_from_29 bT aG qG m_x gR nG oO pJ x1 x2 bY) a i (k + 1) -> wb_X10_from_29 P bT aG qG m_x gR nG oO pJ n x1 x2 o (c + 1) bY -> wb_X10_from_29 Q bT aG qG m_x gR nG oO pJ n x1 x2 o (c + 1) bY := by
        intro o eo h9
        have q := ih (k + 1) (c + 1) (by rw [hc]; exact nI_1 _) (by omega)
        rw [<- eo] at q
        exact q h9
      rw [itr_s, <- hc, bd_X10_from_29] at hs
      refine ae ?_
      have h := h _ rfl
      refine du_X10_reachBy h ?_
      intro h
      refine du_X10_isWithin h ?_
      intro h
      refine And.intro (fun c1 => ?_) (fun c1 => ?_)
      · have h := And.left h c1
        rw [if_pos c1] at hs
        rw [j_X10_from_69] at hs
        unfold ws_X10_from_69 at h ⊢
        refine ae ?_
        have h := h _ rfl
        refine ae ?_
        have h := h _ rfl
        have q9 := hs _ rfl
        exact q9 h
      · have h := And.right h c1
        rw [if_neg c1] at hs
        refine ae ?_
        have h := h _ rfl
        rw [j_X10_from_69] at hs
        unfold ws_X10_from_69 at h ⊢
        refine ae ?_
        have h := h _ rfl
        refine ae ?_
        have h := h _ rfl
        have q9 := hs _ rfl
        exact q9 h
noncomputable def F_X10_from (p0 p1 bT aG bY : Int32) (qG m_x gR nG oO pJ : Nat -> Int32) : Int32 × Int32 := if (F_X10_isFruit p0 bT) = 0 then ((-1), 0) else (if (aUe p1 0 1) = 0 then ((-1), 0) else (ex_X10_from_29 (fun o0 o1 => (o0, o1)) bT aG qG m_x gR nG oO pJ p0 p1 0 (nI (0 + (Int32.toInt aG - ((0 : Nat) : Int)).toNat)) (itr (bd_X10_from_29 bT aG qG m_x gR nG oO pJ p0 p1 0) 0 0 (Int32.toInt aG - ((0 : Nat) : Int)).toNat)))
set_option maxHeartbeats 200000 in
set_option maxRecDepth 10000 in
theorem dt_X10_from {P Q : Int32 -> Int32 -> Prop} {p0 p1 bT aG bY : Int32} {qG m_x gR nG oO pJ : Nat -> Int32} (h : wp_X10_from P p0 p1 bT aG bY qG m_x gR nG oO pJ) (hq : ∀ o : Int32 × Int32, o = F_X10_from p0 p1 bT aG bY qG m_x gR nG oO pJ -> P o.1 o.2 -> Q o.1 o.2) : wp_X10_from Q p0 p1 bT aG bY qG m_x gR nG oO pJ := by
  rw [F_X10_from] at hq
  refine du_X10_isFruit h ?_
  intro h
  refine And.intro (fun c1 => ?_) (fun c1 => ?_)
  · have h := And.left h c1
    rw [if_pos c1] at hq
    have q9 := hq _ rfl
    dsimp only at q9
    exact q9 h
  · have h := And.right h c1
    rw [if_neg c1] at hq
    refine du_X10_in h ?_
    intro h
    refine And.intro (fun c2 => ?_) (fun c2 => ?_)
    · have h := And.left h c2
      rw [if_neg c2] at hq
      obtain ⟨n3, h⟩ := h
      refine ⟨n3, dl_X10_from_29 (a := 0) (i := 0) (by decide) ?_ n3 0 0 (by decide) (Nat.zero_le _) h⟩
      intro cc4 s5 ec6 es7 h
      rw [<- ec6, <- es7, ex_X10_from_29] at hq
      have q9 := hq _ rfl
      dsimp only at q9
      exact q9 h
    · have h := And.right h c2
      rw [if_pos c2] at hq
      have q9 := hq _ rfl
      dsimp only at q9
      exact q9 h
theorem du_X10_from {P Q : Int32 -> Int32 -> Prop} {p0 p1 bT aG bY : Int32} {qG m_x gR nG oO pJ : Nat -> Int32} (h : wp_X10_from P p0 p1 bT aG bY qG m_x gR nG oO pJ) (hq : P (F_X10_from p0 p1 bT aG bY qG m_x gR nG oO pJ).1 (F_X10_from p0 p1 bT aG bY qG m_x gR nG oO pJ).2 -> Q (F_X10_from p0 p1 bT aG bY qG m_x gR nG oO pJ).1 (F_X10_from p0 p1 bT aG bY qG m_x gR nG oO pJ).2) : wp_X10_from Q p0 p1 bT aG bY qG m_x gR nG oO pJ := dt_X10_from h (fun o eo => by rw [eo]; exact hq)
theorem dw_X10_from {Q : Int32 -> Int32 -> Prop} {p0 p1 bT aG bY : Int32} {qG m_x gR nG oO pJ : Nat -> Int32} (h : wp_X10_from (fun o0 o1 => (o0, o1) = F_X10_from p0 p1 bT aG bY qG m_x gR nG oO pJ -> Q o0 o1) p0 p1 bT aG bY qG m_x gR nG oO pJ) : wp_X10_from Q p0 p1 bT aG bY qG m_x gR nG oO pJ := dt_X10_from h (fun o eo hp => hp eo)
noncomputable def F_X10_worthOf (p0 p1 : Int32) (pW : Nat -> Int32) : Int32 := if (F_X10_has p1 p0) = 0 then (pW p0.toNatClampNeg) else ((pW p0.toNatClampNeg) / 2)
set_option maxHeartbeats 200000 in
set_option maxRecDepth 10000 in
theorem dt_X10_worthOf {P Q : Int32 -> Prop} {p0 p1 : Int32} {pW : Nat -> Int32} (h : wp_X10_worthOf P p0 p1 pW) (hq : ∀ o : Int32, o = F_X10_worthOf p0 p1 pW -> P o -> Q o) : wp_X10_worthOf Q p0 p1 pW := by
  rw [F_X10_worthOf] at hq
  refine du_X10_has h ?_
  intro h
  refine And.intro (fun c1 => ?_) (fun c1 => ?_)
  · have h := And.left h c1
    rw [if_pos c1] at hq
    refine And.intro (And.left h) ?_
    have h := And.right h
    have q9 := hq _ rfl
    exact q9 h
  · have h := And.right h c1
    rw [if_neg c1] at hq
    refine And.intro (And.left h) ?_
    have h := And.right h
    refine ae ?_
    have h := h _ rfl
    refine ae ?_
    have h := h _ rfl
    have q9 := hq _ rfl
    exact q9 h
theorem du_X10_worthOf {P Q : Int32 -> Prop} {p0 p1 : Int32} {pW : Nat -> Int32} (h : wp_X10_worthOf P p0 p1 pW) (hq : P (F_X10_worthOf p0 p1 pW) -> Q (F_X10_worthOf p0 p1 pW)) : wp_X10_worthOf Q p0 p1 pW := dt_X10_worthOf h (fun o eo => by rw [eo]; exact hq)
theorem dw_X10_worthOf {Q : Int32 -> Prop} {p0 p1 : Int32} {pW : Nat -> Int32} (h : wp_X10_worthOf (fun o0 => o0 = F_X10_worthOf p0 p1 pW -> Q o0) p0 p1 pW) : wp_X10_worthOf Q p0 p1 pW := dt_X10_worthOf h (fun o eo hp => hp eo)
noncomputable def j_X10_worthOfAll_35 {R : Type} (k5 : Int32 -> Int32 -> Int32 -> Int32 -> R) (bT : Int32) (pW : Nat -> Int32) (x1 x2 x4 k0 k1 : Int32) : R := k5 x1 x2 (k0 + k1) (x4 + 1)
noncomputable def bd_X10_worthOfAll_5 (bT : Int32) (pW : Nat -> Int32) (x1 x2 c s : Int32) : Int32 := if (F_X10_has x1 c) = 0 then (j_X10_worthOfAll_35 (fun q0 q1 q2 q3 => q2) bT pW x1 x2 c s 0) else (j_X10_worthOfAll_35 (fun q0 q1 q2 q3 => q2) bT pW x1 x2 c s (F_X10_worthOf c x2 pW))
noncomputable def ex_X10_worthOfAll_5 {R : Type} (po : Int32 -> R) (bT : Int32) (pW : Nat -> Int32) (x1 x2 c s : Int32) : R := po s
set_option maxHeartbeats 200000 in
set_option maxRecDepth 10000 in
theorem dl_X10_worthOfAll_5 {P Q : Int32 -> Prop} {bT : Int32} {pW : Nat -> Int32} {x1 x2 a : Int32} {i : Nat} (hi0 : i < 2147483648) (hE : ∀ (c : Int32) (s : Int32), c = nI (i + (Int32.toInt bT - ((i : Nat) : Int)).toNat) -> s = itr (bd_X10_worthOfAll_5 bT pW x1 x2) a i (Int32.toInt bT - ((i : Nat) : Int)).toNat -> (P s) -> (Q s)) : ∀ (n k : Nat) (c : Int32), c = nI (i + k) -> k <= (Int32.toInt bT - ((i : Nat) : Int)).toNat -> wb_X10_worthOfAll_5 P bT pW n x1 x2 (itr (bd_X10_worthOfAll_5 bT pW x1 x2) a i k) c -> wb_X10_worthOfAll_5 Q bT pW n x1 x2 (itr (bd_X10_worthOfAll_5 bT pW x1 x2) a i k) c := by
  intro n
  induction n with
  | zero => intro k c hc hk h; exact False.elim h
  | succ n ih =>
    intro k c hc hk h
    have hr := aAT bT
    have hi : Int32.toInt c = ((i + k : Nat) : Int) := by rw [hc]; exact nI_toInt (by omega)
    refine And.intro (fun t0 => ?_) (fun t0 => ?_)
    · have h := And.left h t0
      have t1 := (aAO _ _).mp t0
      have hk2 : k = (Int32.toInt bT - ((i : Nat) : Int)).toNat := by omega
      subst hk2
      exact hE _ _ hc rfl h
    · have h := And.right h t0
      have t1 := mt (aAO _ _).mpr t0
      have hs : ∀ o : Int32, o = itr (bd_X10_worthOfAll_5 bT pW x1 x2) a i (k + 1) -> wb_X10_worthOfAll_5 P bT pW n x1 x2 o (c + 1) -> wb_X10_worthOfAll_5 Q bT pW n x1 x2 o (c + 1) := by
        intro o eo h9
        have q := ih (k + 1) (c + 1) (by rw [hc]; exact nI_1 _) (by omega)
        rw [<- eo] at q
        exact q h9
      rw [itr_s, <- hc, bd_X10_worthOfAll_5] at hs
      refine du_X10_has h ?_
      intro h
      refine And.intro (fun c1 => ?_) (fun c1 => ?_)
      · have h := And.left h c1
        rw [if_pos c1] at hs
        rw [j_X10_worthOfAll_35] at hs
        unfold ws_X10_worthOfAll_35 at h ⊢
        refine ae ?_
        have h := h _ rfl
        refine ae ?_
        have h := h _ rfl
        have q9 := hs _ rfl
        exact q9 h
      · have h := And.right h c1
        rw [if_neg c1] at hs
        refine du_X10_worthOf h ?_
        intro h
        rw [j_X10_worthOfAll_35] at hs
        unfold ws_X10_worthOfAll_35 at h ⊢
        refine ae ?_
        have h := h _ rfl
        refine ae ?_
        have h := h _ rfl
        have q9 := hs _ rfl
        exact q9 h
noncomputable def F_X10_worthOfAll (p0 p1 bT : Int32) (pW : Nat -> Int32) : Int32 := ex_X10_worthOfAll_5 (fun o0 => o0) bT pW p0 p1 (nI (0 + (Int32.toInt bT - ((0 : Nat) : Int)).toNat)) (itr (bd_X10_worthOfAll_5 bT pW p0 p1) 0 0 (Int32.toInt bT - ((0 : Nat) : Int)).toNat)
set_option maxHeartbeats 200000 in
set_option maxRecDepth 10000 in
theorem dt_X10_worthOfAll {P Q : Int32 -> Prop} {p0 p1 bT : Int32} {pW : Nat -> Int32} (h : aMp P p0 p1 bT pW) (hq : ∀ o : Int32, o = F_X10_worthOfAll p0 p1 bT pW -> P o -> Q o) : aMp Q p0 p1 bT pW := by
  rw [F_X10_worthOfAll] at hq
  obtain ⟨n1, h⟩ := h
  refine ⟨n1, dl_X10_worthOfAll_5 (a := 0) (i := 0) (by decide) ?_ n1 0 0 (by decide) (Nat.zero_le _) h⟩
  intro cc2 s3 ec4 es5 h
  rw [<- ec4, <- es5, ex_X10_worthOfAll_5] at hq
  have q9 := hq _ rfl
  exact q9 h
theorem du_X10_worthOfAll {P Q : Int32 -> Prop} {p0 p1 bT : Int32} {pW : Nat -> Int32} (h : aMp P p0 p1 bT pW) (hq : P (F_X10_worthOfAll p0 p1 bT pW) -> Q (F_X10_worthOfAll p0 p1 bT pW)) : aMp Q p0 p1 bT pW := dt_X10_worthOfAll h (fun o eo => by rw [eo]; exact hq)
theorem dw_X10_worthOfAll {Q : Int32 -> Prop} {p0 p1 bT : Int32} {pW : Nat -> Int32} (h : aMp (fun o0 => o0 = F_X10_worthOfAll p0 p1 bT pW -> Q o0) p0 p1 bT pW) : aMp Q p0 p1 bT pW := dt_X10_worthOfAll h (fun o eo hp => hp eo)
noncomputable def bd_X10_never_17 (bT aG : Int32) (qG m_x gR pW nG oO pJ : Nat -> Int32) (bL bY : Int32) (sW : Nat -> Int32) (c s : Int32) : Int32 := (s &&& ((aLM c 1 1 bT m_x gR nG oO pJ) ^^^ (-1)))
noncomputable def ex_X10_never_17 {R : Type} (po : Int32 -> Int32 -> Int32 -> (Nat -> Int32) -> R) (bT aG : Int32) (qG m_x gR pW nG oO pJ : Nat -> Int32) (bL bY : Int32) (sW : Nat -> Int32) (c s : Int32) : R := po s ((bBW (F_X10_worthOfAll s (qG (16 : Int32).toNatClampNeg) bT pW) 0 sW).1) bY ((bBW (F_X10_worthOfAll s (qG (16 : Int32).toNatClampNeg) bT pW) 0 sW).2)
set_option maxHeartbeats 200000 in
set_option maxRecDepth 10000 in
theorem dl_X10_never_17 {P Q : Int32 -> Int32 -> Int32 -> (Nat -> Int32) -> Prop} {bT aG : Int32} {qG m_x gR pW nG oO pJ : Nat -> Int32} {bL bY : Int32} {sW : Nat -> Int32} {a : Int32} {i : Nat} (hi0 : i < 2147483648) (hE : ∀ (c : Int32) (s : Int32), c = nI (i + (Int32.toInt aG - ((i : Nat) : Int)).toNat) -> s = itr (bd_X10_never_17 bT aG qG m_x gR pW nG oO pJ bL bY sW) a i (Int32.toInt aG - ((i : Nat) : Int)).toNat -> (∀ v_2 : Int32, v_2 = qG (16 : Int32).toNatClampNeg -> aMp (fun r_3 => aDs (fun aMo m_row_5 => P s aMo bY m_row_5) r_3 0 sW) s v_2 bT pW) -> (∀ v_2 : Int32, v_2 = qG (16 : Int32).toNatClampNeg -> aMp (fun r_3 => aDs (fun aMo m_row_5 => Q s aMo bY m_row_5) r_3 0 sW) s v_2 bT pW)) : ∀ (n k : Nat) (c : Int32), c = nI (i + k) -> k <= (Int32.toInt aG - ((i : Nat) : Int)).toNat -> wb_X10_never_17 P bT aG qG m_x gR pW nG oO pJ n (itr (bd_X10_never_17 bT aG qG m_x gR pW nG oO pJ bL bY sW) a i k) c bL bY sW -> wb_X10_never_17 Q bT aG qG m_x gR pW nG oO pJ n (itr (bd_X10_never_17 bT aG qG m_x gR pW nG oO pJ bL bY sW) a i k) c bL bY sW := by
  intro n
  induction n with
  | zero => intro k c hc hk h; exact False.elim h
  | succ n ih =>
    intro k c hc hk h
    have hr := aAT aG
    have hi : Int32.toInt c = ((i + k : Nat) : Int) := by rw [hc]; exact nI_toInt (by omega)
    refine And.intro (fun t0 => ?_) (fun t0 => ?_)
    · have h := And.left h t0
      have t1 := (aAO _ _).mp t0
      have hk2 : k = (Int32.toInt aG - ((i : Nat) : Int)).toNat := by omega
      subst hk2
      exact hE _ _ hc rfl h
    · have h := And.right h t0
      have t1 := mt (aAO _ _).mpr t0
      have hs : ∀ o : Int32, o = itr (bd_X10_never_17 bT aG qG m_x gR pW nG oO pJ bL bY sW) a i (k + 1) -> wb_X10_never_17 P bT aG qG m_x gR pW nG oO pJ n o (c + 1) bL bY sW -> wb_X10_never_17 Q bT aG qG m_x gR pW nG oO pJ n o (c + 1) bL bY sW := by
        intro o eo h9
        have q := ih (k + 1) (c + 1) (by rw [hc]; exact nI_1 _) (by omega)
        rw [<- eo] at q
        exact q h9
      rw [itr_s, <- hc, bd_X10_never_17] at hs
      refine du_X10_reachedFrom h ?_
      intro h
      refine ae ?_
      have h := h _ rfl
      refine ae ?_
      have h := h _ rfl
      have q9 := hs _ rfl
      exact q9 h
noncomputable def F_X10_never (bT aG bL bY : Int32) (qG m_x gR pW nG oO pJ sW : Nat -> Int32) : Int32 × Int32 × Int32 × (Nat -> Int32) := ex_X10_never_17 (fun o0 o1 o2 o3 => (o0, o1, o2, o3)) bT aG qG m_x gR pW nG oO pJ bL 0 sW (nI (0 + (Int32.toInt aG - ((0 : Nat) : Int)).toNat)) (itr (bd_X10_never_17 bT aG qG m_x gR pW nG oO pJ bL 0 sW) (aUf 0 bT qG) 0 (Int32.toInt aG - ((0 : Nat) : Int)).toNat)
set_option maxHeartbeats 200000 in
set_option maxRecDepth 10000 in
theorem dt_X10_never {P Q : Int32 -> Int32 -> Int32 -> (Nat -> Int32) -> Prop} {bT aG bL bY : Int32} {qG m_x gR pW nG oO pJ sW : Nat -> Int32} (h : wp_X10_never P bT aG bL bY qG m_x gR pW nG oO pJ sW) (hq : ∀ o : Int32 × Int32 × Int32 × (Nat -> Int32), o = F_X10_never bT aG bL bY qG m_x gR pW nG oO pJ sW -> P o.1 o.2.1 o.2.2.1 o.2.2.2 -> Q o.1 o.2.1 o.2.2.1 o.2.2.2) : wp_X10_never Q bT aG bL bY qG m_x gR pW nG oO pJ sW := by
  rw [F_X10_never] at hq
  refine du_X10_which h ?_
  intro h
  obtain ⟨n1, h⟩ := h
  refine ⟨n1, dl_X10_never_17 (a := (aUf 0 bT qG)) (i := 0) (by decide) ?_ n1 0 0 (by decide) (Nat.zero_le _) h⟩
  intro cc2 s3 ec4 es5 h
  rw [<- ec4, <- es5, ex_X10_never_17] at hq
  refine ae ?_
  have h := h _ rfl
  refine du_X10_worthOfAll h ?_
  intro h
  refine du_X10_tell h ?_
  intro h
  have q9 := hq _ rfl
  dsimp only at q9
  exact q9 h
theorem du_X10_never {P Q : Int32 -> Int32 -> Int32 -> (Nat -> Int32) -> Prop} {bT aG bL bY : Int32} {qG m_x gR pW nG oO pJ sW : Nat -> Int32} (h : wp_X10_never P bT aG bL bY qG m_x gR pW nG oO pJ sW) (hq : P (F_X10_never bT aG bL bY qG m_x gR pW nG oO pJ sW).1 (F_X10_never bT aG bL bY qG m_x gR pW nG oO pJ sW).2.1 (F_X10_never bT aG bL bY qG m_x gR pW nG oO pJ sW).2.2.1 (F_X10_never bT aG bL bY qG m_x gR pW nG oO pJ sW).2.2.2 -> Q (F_X10_never bT aG bL bY qG m_x gR pW nG oO pJ sW).1 (F_X10_never bT aG bL bY qG m_x gR pW nG oO pJ sW).2.1 (F_X10_never bT aG bL bY qG m_x gR pW nG oO pJ sW).2.2.1 (F_X10_never bT aG bL bY qG m_x gR pW nG oO pJ sW).2.2.2) : wp_X10_never Q bT aG bL bY qG m_x gR pW nG oO pJ sW := dt_X10_never h (fun o eo => by rw [eo]; exact hq)
theorem dw_X10_never {Q : Int32 -> Int32 -> Int32 -> (Nat -> Int32) -> Prop} {bT aG bL bY : Int32} {qG m_x gR pW nG oO pJ sW : Nat -> Int32} (h : wp_X10_never (fun o0 o1 o2 o3 => (o0, o1, o2, o3) = F_X10_never bT aG bL bY qG m_x gR pW nG oO pJ sW -> Q o0 o1 o2 o3) bT aG bL bY qG m_x gR pW nG oO pJ sW) : wp_X10_never Q bT aG bL bY qG m_x gR pW nG oO pJ sW := dt_X10_never h (fun o eo hp => hp eo)
noncomputable def F_X10_allStandings (aG : Int32) : Int32 := ((1 <<< (aG &&& 31)) - 1)
set_option maxHeartbeats 200000 in
set_option maxRecDepth 10000 in
theorem dt_X10_allStandings {P Q : Int32 -> Prop} {aG : Int32} (h : aGu P aG) (hq : ∀ o : Int32, o = F_X10_allStandings aG -> P o -> Q o) : aGu Q aG := by
  rw [F_X10_allStandings] at hq
  refine ae ?_
  have h := h _ rfl
  have q9 := hq _ rfl
  exact q9 h
theorem du_X10_allStandings {P Q : Int32 -> Prop} {aG : Int32} (h : aGu P aG) (hq : P (F_X10_allStandings aG) -> Q (F_X10_allStandings aG)) : aGu Q aG := dt_X10_allStandings h (fun o eo => by rw [eo]; exact hq)
theorem dw_X10_allStandings {Q : Int32 -> Prop} {aG : Int32} (h : aGu (fun o0 => o0 = F_X10_allStandings aG -> Q o0) aG) : aGu Q aG := dt_X10_allStandings h (fun o eo hp => hp eo)
noncomputable def j_X10_handOf_31 {R : Type} (k4 : Int32 -> Int32 -> Int32 -> R) (aG : Int32) (sH : Nat -> Int32) (x1 x3 k0 k1 : Int32) : R := k4 x1 (k0 ||| k1) (x3 + 1)
noncomputable def bd_X10_handOf_4 (aG : Int32) (sH : Nat -> Int32) (x1 c s : Int32) : Int32 := if (F_X10_has x1 c) = 0 then (j_X10_handOf_31 (fun q0 q1 q2 => q1) aG sH x1 c s 0) else (j_X10_handOf_31 (fun q0 q1 q2 => q1) aG sH x1 c s (sH c.toNatClampNeg))
noncomputable def ex_X10_handOf_4 {R : Type} (po : Int32 -> R) (aG : Int32) (sH : Nat -> Int32) (x1 c s : Int32) : R := po s
set_option maxHeartbeats 200000 in
set_option maxRecDepth 10000 in
theorem dl_X10_handOf_4 {P Q : Int32 -> Prop} {aG : Int32} {sH : Nat -> Int32} {x1 a : Int32} {i : Nat} (hi0 : i < 2147483648) (hE : ∀ (c : Int32) (s : Int32), c = nI (i + (Int32.toInt aG - ((i : Nat) : Int)).toNat) -> s = itr (bd_X10_handOf_4 aG sH x1) a i (Int32.toInt aG - ((i : Nat) : Int)).toNat -> (P s) -> (Q s)) : ∀ (n k : Nat) (c : Int32), c = nI (i + k) -> k <= (Int32.toInt aG - ((i : Nat) : Int)).toNat -> wb_X10_handOf_4 P aG sH n x1 (itr (bd_X10_handOf_4 aG sH x1) a i k) c -> wb_X10_handOf_4 Q aG sH n x1 (itr (bd_X10_handOf_4 aG sH x1) a i k) c := by
  intro n
  induction n with
  | zero => intro k c hc hk h; exact False.elim h
  | succ n ih =>
    intro k c hc hk h
    have hr := aAT aG
    have hi : Int32.toInt c = ((i + k : Nat) : Int) := by rw [hc]; exact nI_toInt (by omega)
    refine And.intro (fun t0 => ?_) (fun t0 => ?_)
    · have h := And.left h t0
      have t1 := (aAO _ _).mp t0
      have hk2 : k = (Int32.toInt aG - ((i : Nat) : Int)).toNat := by omega
      subst hk2
      exact hE _ _ hc rfl h
    · have h := And.right h t0
      have t1 := mt (aAO _ _).mpr t0
      have hs : ∀ o : Int32, o = itr (bd_X10_handOf_4 aG sH x1) a i (k + 1) -> wb_X10_handOf_4 P aG sH n x1 o (c + 1) -> wb_X10_handOf_4 Q aG sH n x1 o (c + 1) := by
        intro o eo h9
        have q := ih (k + 1) (c + 1) (by rw [hc]; exact nI_1 _) (by omega)
        rw [<- eo] at q
        exact q h9
      rw [itr_s, <- hc, bd_X10_handOf_4] at hs
      refine du_X10_has h ?_
      intro h
      refine And.intro (fun c1 => ?_) (fun c1 => ?_)
      · have h := And.left h c1
        rw [if_pos c1] at hs
        rw [j_X10_handOf_31] at hs
        unfold ws_X10_handOf_31 at h ⊢
        refine ae ?_
        have h := h _ rfl
        refine ae ?_
        have h := h _ rfl
        have q9 := hs _ rfl
        exact q9 h
      · have h := And.right h c1
        rw [if_neg c1] at hs
        refine And.intro (And.left h) ?_
        have h := And.right h
        refine ae ?_
        have h := h _ rfl
        rw [j_X10_handOf_31] at hs
        unfold ws_X10_handOf_31 at h ⊢
        refine ae ?_
        have h := h _ rfl
        refine ae ?_
        have h := h _ rfl
        have q9 := hs _ rfl
        exact q9 h
noncomputable def F_X10_handOf (p0 aG : Int32) (sH : Nat -> Int32) : Int32 := ex_X10_handOf_4 (fun o0 => o0) aG sH p0 (nI (0 + (Int32.toInt aG - ((0 : Nat) : Int)).toNat)) (itr (bd_X10_handOf_4 aG sH p0) 0 0 (Int32.toInt aG - ((0 : Nat) : Int)).toNat)
set_option maxHeartbeats 200000 in
set_option maxRecDepth 10000 in
theorem dt_X10_handOf {P Q : Int32 -> Prop} {p0 aG : Int32} {sH : Nat -> Int32} (h : aRt P p0 aG sH) (hq : ∀ o : Int32, o = F_X10_handOf p0 aG sH -> P o -> Q o) : aRt Q p0 aG sH := by
  rw [F_X10_handOf] at hq
  obtain ⟨n1, h⟩ := h
  refine ⟨n1, dl_X10_handOf_4 (a := 0) (i := 0) (by decide) ?_ n1 0 0 (by decide) (Nat.zero_le _) h⟩
  intro cc2 s3 ec4 es5 h
  rw [<- ec4, <- es5, ex_X10_handOf_4] at hq
  have q9 := hq _ rfl
  exact q9 h
theorem du_X10_handOf {P Q : Int32 -> Prop} {p0 aG : Int32} {sH : Nat -> Int32} (h : aRt P p0 aG sH) (hq : P (F_X10_handOf p0 aG sH) -> Q (F_X10_handOf p0 aG sH)) : aRt Q p0 aG sH := dt_X10_handOf h (fun o eo => by rw [eo]; exact hq)
theorem dw_X10_handOf {Q : Int32 -> Prop} {p0 aG : Int32} {sH : Nat -> Int32} (h : aRt (fun o0 => o0 = F_X10_handOf p0 aG sH -> Q o0) p0 aG sH) : aRt Q p0 aG sH := dt_X10_handOf h (fun o eo hp => hp eo)
noncomputable def bd_X10_layHands__2 (bT aG : Int32) (qG m_x gR qR nG oO pJ : Nat -> Int32) (x1 dO c : Int32) (s : (Nat -> Int32)) : (Nat -> Int32) := (upd s c.toNatClampNeg (aLM c x1 0 bT m_x gR nG oO pJ))
noncomputable def ex_X10_layHands__2 {R : Type} (po : Int32 -> (Nat -> Int32) -> R) (bT aG : Int32) (qG m_x gR qR nG oO pJ : Nat -> Int32) (x1 dO c : Int32) (s : (Nat -> Int32)) : R := po (((aUf 0 bT qG) &&& (F_X10_ripeOnes (qG (19 : Int32).toNatClampNeg) bT qR)) &&& (F_X10_handOf (F_X10_allStandings aG) aG s)) s
set_option maxHeartbeats 200000 in
set_option maxRecDepth 10000 in
theorem dl_X10_layHands__2 {P Q : Int32 -> (Nat -> Int32) -> Prop} {bT aG : Int32} {qG m_x gR qR nG oO pJ : Nat -> Int32} {x1 dO : Int32} {a : (Nat -> Int32)} {i : Nat} (hi0 : i < 2147483648) (hE : ∀ (c : Int32) (s : (Nat -> Int32)), c = nI (i + (Int32.toInt aG - ((i : Nat) : Int)).toNat) -> s = itr (bd_X10_layHands__2 bT aG qG m_x gR qR nG oO pJ x1 dO) a i (Int32.toInt aG - ((i : Nat) : Int)).toNat -> (aIB (fun r_1 => ∀ v_2 : Int32, v_2 = qG (19 : Int32).toNatClampNeg -> aLg (fun r_3 => ∀ v_4 : Int32, v_4 = r_1 &&& r_3 -> aGu (fun r_5 => aRt (fun r_6 => ∀ v_7 : Int32, v_7 = v_4 &&& r_6 -> P v_7 s) r_5 aG s) aG) v_2 bT qR) 0 bT qG) -> (aIB (fun r_1 => ∀ v_2 : Int32, v_2 = qG (19 : Int32).toNatClampNeg -> aLg (fun r_3 => ∀ v_4 : Int32, v_4 = r_1 &&& r_3 -> aGu (fun r_5 => aRt (fun r_6 => ∀ v_7 : Int32, v_7 = v_4 &&& r_6 -> Q v_7 s) r_5 aG s) aG) v_2 bT qR) 0 bT qG)) : ∀ (n k : Nat) (c : Int32), c = nI (i + k) -> k <= (Int32.toInt aG - ((i : Nat) : Int)).toNat -> wb_X10_layHands__2 P bT aG qG m_x gR qR nG oO pJ n x1 c dO (itr (bd_X10_layHands__2 bT aG qG m_x gR qR nG oO pJ x1 dO) a i k) -> wb_X10_layHands__2 Q bT aG qG m_x gR qR nG oO pJ n x1 c dO (itr (bd_X10_layHands__2 bT aG qG m_x gR qR nG oO pJ x1 dO) a i k) := by
  intro n
  induction n with
  | zero => intro k c hc hk h; exact False.elim h
  | succ n ih =>
    intro k c hc hk h
    have hr := aAT aG
    have hi : Int32.toInt c = ((i + k : Nat) : Int) := by rw [hc]; exact nI_toInt (by omega)
    refine And.intro (fun t0 => ?_) (fun t0 => ?_)
    · have h := And.left h t0
      have t1 := (aAO _ _).mp t0
      have hk2 : k = (Int32.toInt aG - ((i : Nat) : Int)).toNat := by omega
      subst hk2
      exact hE _ _ hc rfl h
    · have h := And.right h t0
      have t1 := mt (aAO _ _).mpr t0
      have hs : ∀ o : (Nat -> Int32), o = itr (bd_X10_layHands__2 bT aG qG m_x gR qR nG oO pJ x1 dO) a i (k + 1) -> wb_X10_layHands__2 P bT aG qG m_x gR qR nG oO pJ n x1 (c + 1) dO o -> wb_X10_layHands__2 Q bT aG qG m_x gR qR nG oO pJ n x1 (c + 1) dO o := by
        intro o eo h9
        have q := ih (k + 1) (c + 1) (by rw [hc]; exact nI_1 _) (by omega)
        rw [<- eo] at q
        exact q h9
      rw [itr_s, <- hc, bd_X10_layHands__2] at hs
      refine du_X10_reachedFrom h ?_
      intro h
      refine And.intro (And.left h) ?_
      have h := And.right h
      refine ae ?_
      have h := h _ rfl
      have q9 := hs _ rfl
      exact q9 h
noncomputable def F_X10_layHands_ (p0 bT aG dO : Int32) (qG m_x gR qR nG oO pJ sH : Nat -> Int32) : Int32 × (Nat -> Int32) := ex_X10_layHands__2 (fun o0 o1 => (o0, o1)) bT aG qG m_x gR qR nG oO pJ p0 dO (nI (0 + (Int32.toInt aG - ((0 : Nat) : Int)).toNat)) (itr (bd_X10_layHands__2 bT aG qG m_x gR qR nG oO pJ p0 dO) sH 0 (Int32.toInt aG - ((0 : Nat) : Int)).toNat)
set_option maxHeartbeats 200000 in
set_option maxRecDepth 10000 in
theorem dt_X10_layHands_ {P Q : Int32 -> (Nat -> Int32) -> Prop} {p0 bT aG dO : Int32} {qG m_x gR qR nG oO pJ sH : Nat -> Int32} (h : wp_X10_layHands_ P p0 bT aG dO qG m_x gR qR nG oO pJ sH) (hq : ∀ o : Int32 × (Nat -> Int32), o = F_X10_layHands_ p0 bT aG dO qG m_x gR qR nG oO pJ sH -> P o.1 o.2 -> Q o.1 o.2) : wp_X10_layHands_ Q p0 bT aG dO qG m_x gR qR nG oO pJ sH := by
  rw [F_X10_layHands_] at hq
  obtain ⟨n1, h⟩ := h
  refine ⟨n1, dl_X10_layHands__2 (a := sH) (i := 0) (by decide) ?_ n1 0 0 (by decide) (Nat.zero_le _) h⟩
  intro cc2 s3 ec4 es5 h
  rw [<- ec4, <- es5, ex_X10_layHands__2] at hq
  refine du_X10_which h ?_
  intro h
  refine ae ?_
  have h := h _ rfl
  refine du_X10_ripeOnes h ?_
  intro h
  refine ae ?_
  have h := h _ rfl
  refine du_X10_allStandings h ?_
  intro h
  refine du_X10_handOf h ?_
  intro h
  refine ae ?_
  have h := h _ rfl
  have q9 := hq _ rfl
  dsimp only at q9
  exact q9 h
theorem du_X10_layHands_ {P Q : Int32 -> (Nat -> Int32) -> Prop} {p0 bT aG dO : Int32} {qG m_x gR qR nG oO pJ sH : Nat -> Int32} (h : wp_X10_layHands_ P p0 bT aG dO qG m_x gR qR nG oO pJ sH) (hq : P (F_X10_layHands_ p0 bT aG dO qG m_x gR qR nG oO pJ sH).1 (F_X10_layHands_ p0 bT aG dO qG m_x gR qR nG oO pJ sH).2 -> Q (F_X10_layHands_ p0 bT aG dO qG m_x gR qR nG oO pJ sH).1 (F_X10_layHands_ p0 bT aG dO qG m_x gR qR nG oO pJ sH).2) : wp_X10_layHands_ Q p0 bT aG dO qG m_x gR qR nG oO pJ sH := dt_X10_layHands_ h (fun o eo => by rw [eo]; exact hq)
theorem dw_X10_layHands_ {Q : Int32 -> (Nat -> Int32) -> Prop} {p0 bT aG dO : Int32} {qG m_x gR qR nG oO pJ sH : Nat -> Int32} (h : wp_X10_layHands_ (fun o0 o1 => (o0, o1) = F_X10_layHands_ p0 bT aG dO qG m_x gR qR nG oO pJ sH -> Q o0 o1) p0 bT aG dO qG m_x gR qR nG oO pJ sH) : wp_X10_layHands_ Q p0 bT aG dO qG m_x gR qR nG oO pJ sH := dt_X10_layHands_ h (fun o eo hp => hp eo)
noncomputable def bBY (bT aG dO : Int32) (qG m_x gR qR nG oO pJ sH : Nat -> Int32) : Int32 × (Nat -> Int32) := ((F_X10_layHands_ (qG (18 : Int32).toNatClampNeg) bT aG dO qG m_x gR qR nG oO pJ sH).1, (F_X10_layHands_ (qG (18 : Int32).toNatClampNeg) bT aG dO qG m_x gR qR nG oO pJ sH).2)
set_option maxHeartbeats 200000 in
set_option maxRecDepth 10000 in
theorem dt_X10_layHands {P Q : Int32 -> (Nat -> Int32) -> Prop} {bT aG dO : Int32} {qG m_x gR qR nG oO pJ sH : Nat -> Int32} (h : aJm P bT aG dO qG m_x gR qR nG oO pJ sH) (hq : ∀ o : Int32 × (Nat -> Int32), o = bBY bT aG dO qG m_x gR qR nG oO pJ sH -> P o.1 o.2 -> Q o.1 o.2) : aJm Q bT aG dO qG m_x gR qR nG oO pJ sH := by
  rw [bBY] at hq
  refine ae ?_
  have h := h _ rfl
  refine du_X10_layHands_ h ?_
  intro h
  have q9 := hq _ rfl
  dsimp only at q9
  exact q9 h
theorem du_X10_layHands {P Q : Int32 -> (Nat -> Int32) -> Prop} {bT aG dO : Int32} {qG m_x gR qR nG oO pJ sH : Nat -> Int32} (h : aJm P bT aG dO qG m_x gR qR nG oO pJ sH) (hq : P (bBY bT aG dO qG m_x gR qR nG oO pJ sH).1 (bBY bT aG dO qG m_x gR qR nG oO pJ sH).2 -> Q (bBY bT aG dO qG m_x gR qR nG oO pJ sH).1 (bBY bT aG dO qG m_x gR qR nG oO pJ sH).2) : aJm Q bT aG dO qG m_x gR qR nG oO pJ sH := dt_X10_layHands h (fun o eo => by rw [eo]; exact hq)
theorem dw_X10_layHands {Q : Int32 -> (Nat -> Int32) -> Prop} {bT aG dO : Int32} {qG m_x gR qR nG oO pJ sH : Nat -> Int32} (h : aJm (fun o0 o1 => (o0, o1) = bBY bT aG dO qG m_x gR qR nG oO pJ sH -> Q o0 o1) bT aG dO qG m_x gR qR nG oO pJ sH) : aJm Q bT aG dO qG m_x gR qR nG oO pJ sH := dt_X10_layHands h (fun o eo hp => hp eo)
noncomputable def F_X10_both (p0 p1 bT aG bL bY dO : Int32) (qG m_x gR qR nG oO pJ sW sH : Nat -> Int32) : Int32 × Int32 × Int32 × Int32 × (Nat -> Int32) × (Nat -> Int32) := if (aUD p0 aG) = 0 then ((-1), bL, 0, dO, sW, sH) else (if (aUD p1 aG) = 0 then ((-1), bL, 0, dO, sW, sH) else (if p0 = p1 then ((-1), bL, 0, dO, sW, sH) else ((((bBY bT aG dO qG m_x gR qR nG oO pJ sH).1 &&& ((bBY bT aG dO qG m_x gR qR nG oO pJ sH).2 p0.toNatClampNeg)) &&& ((bBY bT aG dO qG m_x gR qR nG oO pJ sH).2 p1.toNatClampNeg)), (bBW (((bBY bT aG dO qG m_x gR qR nG oO pJ sH).1 &&& ((bBY bT aG dO qG m_x gR qR nG oO pJ sH).2 p1.toNatClampNeg)) &&& (((bBY bT aG dO qG m_x gR qR nG oO pJ sH).2 p0.toNatClampNeg) ^^^ (-1))) (bBW (((bBY bT aG dO qG m_x gR qR nG oO pJ sH).1 &&& ((bBY bT aG dO qG m_x gR qR nG oO pJ sH).2 p0.toNatClampNeg)) &&& (((bBY bT aG dO qG m_x gR qR nG oO pJ sH).2 p1.toNatClampNeg) ^^^ (-1))) 0 sW).1 (bBW (((bBY bT aG dO qG m_x gR qR nG oO pJ sH).1 &&& ((bBY bT aG dO qG m_x gR qR nG oO pJ sH).2 p0.toNatClampNeg)) &&& (((bBY bT aG dO qG m_x gR qR nG oO pJ sH).2 p1.toNatClampNeg) ^^^ (-1))) 0 sW).2).1, 0, (bBY bT aG dO qG m_x gR qR nG oO pJ sH).1, (bBW (((bBY bT aG dO qG m_x gR qR nG oO pJ sH).1 &&& ((bBY bT aG dO qG m_x gR qR nG oO pJ sH).2 p1.toNatClampNeg)) &&& (((bBY bT aG dO qG m_x gR qR nG oO pJ sH).2 p0.toNatClampNeg) ^^^ (-1))) (bBW (((bBY bT aG dO qG m_x gR qR nG oO pJ sH).1 &&& ((bBY bT aG dO qG m_x gR qR nG oO pJ sH).2 p0.toNatClampNeg)) &&& (((bBY bT aG dO qG m_x gR qR nG oO pJ sH).2 p1.toNatClampNeg) ^^^ (-1))) 0 sW).1 (bBW (((bBY bT aG dO qG m_x gR qR nG oO pJ sH).1 &&& ((bBY bT aG dO qG m_x gR qR nG oO pJ sH).2 p0.toNatClampNeg)) &&& (((bBY bT aG dO qG m_x gR qR nG oO pJ sH).2 p1.toNatClampNeg) ^^^ (-1))) 0 sW).2).2, (bBY bT aG dO qG m_x gR qR nG oO pJ sH).2)))
set_option maxHeartbeats 200000 in
set_option maxRecDepth 10000 in
theorem dt_X10_both {P Q : Int32 -> Int32 -> Int32 -> Int32 -> (Nat -> Int32) -> (Nat -> Int32) -> Prop} {p0 p1 bT aG bL bY dO : Int32} {qG m_x gR qR nG oO pJ sW sH : Nat -> Int32} (h : wp_X10_both P p0 p1 bT aG bL bY dO qG m_x gR qR nG oO pJ sW sH) (hq : ∀ o : Int32 × Int32 × Int32 × Int32 × (Nat -> Int32) × (Nat -> Int32), o = F_X10_both p0 p1 bT aG bL bY dO qG m_x gR qR nG oO pJ sW sH -> P o.1 o.2.1 o.2.2.1 o.2.2.2.1 o.2.2.2.2.1 o.2.2.2.2.2 -> Q o.1 o.2.1 o.2.2.1 o.2.2.2.1 o.2.2.2.2.1 o.2.2.2.2.2) : wp_X10_both Q p0 p1 bT aG bL bY dO qG m_x gR qR nG oO pJ sW sH := by
  rw [F_X10_both] at hq
  refine du_X10_isStanding h ?_
  intro h
  refine And.intro (fun c1 => ?_) (fun c1 => ?_)
  · have h := And.left h c1
    rw [if_pos c1] at hq
    have q9 := hq _ rfl
    dsimp only at q9
    exact q9 h
  · have h := And.right h c1
    rw [if_neg c1] at hq
    refine du_X10_isStanding h ?_
    intro h
    refine And.intro (fun c2 => ?_) (fun c2 => ?_)
    · have h := And.left h c2
      rw [if_pos c2] at hq
      have q9 := hq _ rfl
      dsimp only at q9
      exact q9 h
    · have h := And.right h c2
      rw [if_neg c2] at hq
      refine And.intro (fun c3 => ?_) (fun c3 => ?_)
      · have h := And.left h c3
        rw [if_neg c3] at hq
        refine du_X10_layHands h ?_
        intro h
        refine And.intro (And.left h) ?_
        have h := And.right h
        refine ae ?_
        have h := h _ rfl
        refine And.intro (And.left h) ?_
        have h := And.right h
        refine ae ?_
        have h := h _ rfl
        refine ae ?_
        have h := h _ rfl
        refine du_X10_tell h ?_
        intro h
        refine And.intro (And.left h) ?_
        have h := And.right h
        refine ae ?_
        have h := h _ rfl
        refine And.intro (And.left h) ?_
        have h := And.right h
        refine ae ?_
        have h := h _ rfl
        refine ae ?_
        have h := h _ rfl
        refine du_X10_tell h ?_
        intro h
        refine And.intro (And.left h) ?_
        have h := And.right h
        refine ae ?_
        have h := h _ rfl
        refine And.intro (And.left h) ?_
        have h := And.right h
        have q9 := hq _ rfl
        dsimp only at q9
        exact q9 h
      · have h := And.right h c3
        rw [if_pos c3] at hq
        have q9 := hq _ rfl
        dsimp only at q9
        exact q9 h
theorem du_X10_both {P Q : Int32 -> Int32 -> Int32 -> Int32 -> (Nat -> Int32) -> (Nat -> Int32) -> Prop} {p0 p1 bT aG bL bY dO : Int32} {qG m_x gR qR nG oO pJ sW sH : Nat -> Int32} (h : wp_X10_both P p0 p1 bT aG bL bY dO qG m_x gR qR nG oO pJ sW sH) (hq : P (F_X10_both p0 p1 bT aG bL bY dO qG m_x gR qR nG oO pJ sW sH).1 (F_X10_both p0 p1 bT aG bL bY dO qG m_x gR qR nG oO pJ sW sH).2.1 (F_X10_both p0 p1 bT aG bL bY dO qG m_x gR qR nG oO pJ sW sH).2.2.1 (F_X10_both p0 p1 bT aG bL bY dO qG m_x gR qR nG oO pJ sW sH).2.2.2.1 (F_X10_both p0 p1 bT aG bL bY dO qG m_x gR qR nG oO pJ sW sH).2.2.2.2.1 (F_X10_both p0 p1 bT aG bL bY dO qG m_x gR qR nG oO pJ sW sH).2.2.2.2.2 -> Q (F_X10_both p0 p1 bT aG bL bY dO qG m_x gR qR nG oO pJ sW sH).1 (F_X10_both p0 p1 bT aG bL bY dO qG m_x gR qR nG oO pJ sW sH).2.1 (F_X10_both p0 p1 bT aG bL bY dO qG m_x gR qR nG oO pJ sW sH).2.2.1 (F_X10_both p0 p1 bT aG bL bY dO qG m_x gR qR nG oO pJ sW sH).2.2.2.1 (F_X10_both p0 p1 bT aG bL bY dO qG m_x gR qR nG oO pJ sW sH).2.2.2.2.1 (F_X10_both p0 p1 bT aG bL bY dO qG m_x gR qR nG oO pJ sW sH).2.2.2.2.2) : wp_X10_both Q p0 p1 bT aG bL bY dO qG m_x gR qR nG oO pJ sW sH := dt_X10_both h (fun o eo => by rw [eo]; exact hq)
theorem dw_X10_both {Q : Int32 -> Int32 -> Int32 -> Int32 -> (Nat -> Int32) -> (Nat -> Int32) -> Prop} {p0 p1 bT aG bL bY dO : Int32} {qG m_x gR qR nG oO pJ sW sH : Nat -> Int32} (h : wp_X10_both (fun o0 o1 o2 o3 o4 o5 => (o0, o1, o2, o3, o4, o5) = F_X10_both p0 p1 bT aG bL bY dO qG m_x gR qR nG oO pJ sW sH -> Q o0 o1 o2 o3 o4 o5) p0 p1 bT aG bL bY dO qG m_x gR qR nG oO pJ sW sH) : wp_X10_both Q p0 p1 bT aG bL bY dO qG m_x gR qR nG oO pJ sW sH := dt_X10_both h (fun o eo hp => hp eo)
noncomputable def F_X10_leftBy (p0 bT aG dO : Int32) (qG pW sH : Nat -> Int32) : Int32 := (F_X10_worthOfAll (dO &&& ((F_X10_handOf p0 aG sH) ^^^ (-1))) (qG (16 : Int32).toNatClampNeg) bT pW)
set_option maxHeartbeats 200000 in
set_option maxRecDepth 10000 in
theorem dt_X10_leftBy {P Q : Int32 -> Prop} {p0 bT aG dO : Int32} {qG pW sH : Nat -> Int32} (h : wp_X10_leftBy P p0 bT aG dO qG pW sH) (hq : ∀ o : Int32, o = F_X10_leftBy p0 bT aG dO qG pW sH -> P o -> Q o) : wp_X10_leftBy Q p0 bT aG dO qG pW sH := by
  rw [F_X10_leftBy] at hq
  refine du_X10_handOf h ?_
  intro h
  refine ae ?_
  have h := h _ rfl
  refine ae ?_
  have h := h _ rfl
  refine du_X10_worthOfAll h ?_
  intro h
  have q9 := hq _ rfl
  exact q9 h
theorem du_X10_leftBy {P Q : Int32 -> Prop} {p0 bT aG dO : Int32} {qG pW sH : Nat -> Int32} (h : wp_X10_leftBy P p0 bT aG dO qG pW sH) (hq : P (F_X10_leftBy p0 bT aG dO qG pW sH) -> Q (F_X10_leftBy p0 bT aG dO qG pW sH)) : wp_X10_leftBy Q p0 bT aG dO qG pW sH := dt_X10_leftBy h (fun o eo => by rw [eo]; exact hq)
theorem dw_X10_leftBy {Q : Int32 -> Prop} {p0 bT aG dO : Int32} {qG pW sH : Nat -> Int32} (h : wp_X10_leftBy (fun o0 => o0 = F_X10_leftBy p0 bT aG dO qG pW sH -> Q o0) p0 bT aG dO qG pW sH) : wp_X10_leftBy Q p0 bT aG dO qG pW sH := dt_X10_leftBy h (fun o eo hp => hp eo)
noncomputable def j_X10_next_71 {R : Type} (k28 : Int32 -> Int32 -> Int32 -> Int32 -> Int32 -> Int32 -> (Nat -> Int32) -> (Nat -> Int32) -> R) (bT aG : Int32) (qG m_x gR pW qR nG oO pJ : Nat -> Int32) (x1 x2 x3 bL bY dO : Int32) (sW sH : Nat -> Int32) : R := k28 x1 x2 (x3 + 1) bL bY dO sW sH
noncomputable def j_X10_next_69 {R : Type} (k28 : Int32 -> Int32 -> Int32 -> Int32 -> Int32 -> Int32 -> (Nat -> Int32) -> (Nat -> Int32) -> R) (bT aG : Int32) (qG m_x gR pW qR nG oO pJ : Nat -> Int32) (x1 x3 bL bY dO : Int32) (sW sH : Nat -> Int32) : R := j_X10_next_71 k28 bT aG qG m_x gR pW qR nG oO pJ x1 x3 x3 bL bY dO sW sH
noncomputable def bd_X10_next_28 (bT aG : Int32) (qG m_x gR pW qR nG oO pJ : Nat -> Int32) (x1 bL bY dO : Int32) (sW sH : Nat -> Int32) (c s : Int32) : Int32 := if (F_X10_has x1 c) = 0 then (if s < 0 then (j_X10_next_69 (fun q0 q1 q2 q3 q4 q5 q6 q7 => q1) bT aG qG m_x gR pW qR nG oO pJ x1 c bL bY dO sW sH) else (if (F_X10_leftBy (x1 ||| (1 <<< (s &&& 31))) bT aG dO qG pW sH) <= (F_X10_leftBy (x1 ||| (1 <<< (c &&& 31))) bT aG dO qG pW sH) then (j_X10_next_71 (fun q0 q1 q2 q3 q4 q5 q6 q7 => q1) bT aG qG m_x gR pW qR nG oO pJ x1 s c bL bY dO sW sH) else (j_X10_next_69 (fun q0 q1 q2 q3 q4 q5 q6 q7 => q1) bT aG qG m_x gR pW qR nG oO pJ x1 c bL bY dO sW sH))) else (j_X10_next_71 (fun q0 q1 q2 q3 q4 q5 q6 q7 => q1) bT aG qG m_x gR pW qR nG oO pJ x1 s c bL bY dO sW sH)
noncomputable def ex_X10_next_28 {R : Type} (po : Int32 -> Int32 -> Int32 -> Int32 -> (Nat -> Int32) -> (Nat -> Int32) -> R) (bT aG : Int32) (qG m_x gR pW qR nG oO pJ : Nat -> Int32) (x1 bL bY dO : Int32) (sW sH : Nat -> Int32) (c s : Int32) : R := if 0 <= s then (po s ((bBW (F_X10_leftBy x1 bT aG dO qG pW sH) (bBW (F_X10_leftBy (x1 ||| (1 <<< (s &&& 31))) bT aG dO qG pW sH) 0 sW).1 (bBW (F_X10_leftBy (x1 ||| (1 <<< (s &&& 31))) bT aG dO qG pW sH) 0 sW).2).1) bY dO ((bBW (F_X10_leftBy x1 bT aG dO qG pW sH) (bBW (F_X10_leftBy (x1 ||| (1 <<< (s &&& 31))) bT aG dO qG pW sH) 0 sW).1 (bBW (F_X10_leftBy (x1 ||| (1 <<< (s &&& 31))) bT aG dO qG pW sH) 0 sW).2).2) sH) else (po (-2) bL bY dO sW sH)
set_option maxHeartbeats 200000 in
set_option maxRecDepth 10000 in
theorem dl_X10_next_28 {P Q : Int32 -> Int32 -> Int32 -> Int32 -> (Nat -> Int32) -> (Nat -> Int32) -> Prop} {bT aG : Int32} {qG m_x gR pW qR nG oO pJ : Nat -> Int32} {x1 bL bY dO : Int32} {sW sH : Nat -> Int32} {a : Int32} {i : Nat} (hi0 : i < 2147483648) (hE : ∀ (c : Int32) (s : Int32), c = nI (i + (Int32.toInt aG - ((i : Nat) : Int)).toNat) -> s = itr (bd_X10_next_28 bT aG qG m_x gR pW qR nG oO pJ x1 bL bY dO sW sH) a i (Int32.toInt aG - ((i : Nat) : Int)).toNat -> ((0 <= s -> ∀ v_5 : Int32, v_5 = x1 ||| (1 <<< (s &&& 31)) -> wp_X10_leftBy (fun r_6 => aDs (fun aOp m_row_8 => wp_X10_leftBy (fun r_9 => aDs (fun aDZ aHj => P s aDZ bY dO aHj sH) r_9 aOp m_row_8) x1 bT aG dO qG pW sH) r_6 0 sW) v_5 bT aG dO qG pW sH) /\ (¬ 0 <= s -> P (-2) bL bY dO sW sH)) -> ((0 <= s -> ∀ v_5 : Int32, v_5 = x1 ||| (1 <<< (s &&& 31)) -> wp_X10_leftBy (fun r_6 => aDs (fun aOp m_row_8 => wp_X10_leftBy (fun r_9 => aDs (fun aDZ aHj => Q s aDZ bY dO aHj sH) r_9 aOp m_row_8) x1 bT aG dO qG pW sH) r_6 0 sW) v_5 bT aG dO qG pW sH) /\ (¬ 0 <= s -> Q (-2) bL bY dO sW sH))) : ∀ (n k : Nat) (c : Int32), c = nI (i + k) -> k <= (Int32.toInt aG - ((i : Nat) : Int)).toNat -> wb_X10_next_28 P bT aG qG m_x gR pW qR nG oO pJ n x1 (itr (bd_X10_next_28 bT aG qG m_x gR pW qR nG oO pJ x1 bL bY dO sW sH) a i k) c bL bY dO sW sH -> wb_X10_next_28 Q bT aG qG m_x gR pW qR nG oO pJ n x1 (itr (bd_X10_next_28 bT aG qG m_x gR pW qR nG oO pJ x1 bL bY dO sW sH) a i k) c bL bY dO sW sH := by
  intro n
  induction n with
  | zero => intro k c hc hk h; exact False.elim h
  | succ n ih =>
    intro k c hc hk h
    have hr := aAT aG
    have hi : Int32.toInt c = ((i + k : Nat) : Int) := by rw [hc]; exact nI_toInt (by omega)
    refine And.intro (fun t0 => ?_) (fun t0 => ?_)
    · have h := And.left h t0
      have t1 := (aAO _ _).mp t0
      have hk2 : k = (Int32.toInt aG - ((i : Nat) : Int)).toNat := by omega
      subst hk2
      exact hE _ _ hc rfl h
    · have h := And.right h t0
      have t1 := mt (aAO _ _).mpr t0
      have hs : ∀ o : Int32, o = itr (bd_X10_next_28 bT aG qG m_x gR pW qR nG oO pJ x1 bL bY dO sW sH) a i (k + 1) -> wb_X10_next_28 P bT aG qG m_x gR pW qR nG oO pJ n x1 o (c + 1) bL bY dO sW sH -> wb_X10_next_28 Q bT aG qG m_x gR pW qR nG oO pJ n x1 o (c + 1) bL bY dO sW sH := by
        intro o eo h9
        have q := ih (k + 1) (c + 1) (by rw [hc]; exact nI_1 _) (by omega)
        rw [<- eo] at q
        exact q h9
      rw [itr_s, <- hc, bd_X10_next_28] at hs
      refine du_X10_has h ?_
      intro h
      refine And.intro (fun c1 => ?_) (fun c1 => ?_)
      · have h := And.left h c1
        rw [if_neg c1] at hs
        rw [j_X10_next_71] at hs
        unfold ws_X10_next_71 at h ⊢
        refine ae ?_
        have h := h _ rfl
        have q9 := hs _ rfl
        exact q9 h
      · have h := And.right h c1
        rw [if_pos c1] at hs
        refine And.intro (fun c2 => ?_) (fun c2 => ?_)
        · have h := And.left h c2
          rw [if_pos c2] at hs
          rw [j_X10_next_69] at hs
          unfold ws_X10_next_69 at h ⊢
          rw [j_X10_next_71] at hs
          unfold ws_X10_next_71 at h ⊢
          refine ae ?_
          have h := h _ rfl
          have q9 := hs _ rfl
          exact q9 h
        · have h := And.right h c2
          rw [if_neg c2] at hs
          refine ae ?_
          have h := h _ rfl
          refine du_X10_leftBy h ?_
          intro h
          refine ae ?_
          have h := h _ rfl
          refine du_X10_leftBy h ?_
          intro h
          refine And.intro (fun c3 => ?_) (fun c3 => ?_)
          · have h := And.left h c3
            rw [if_pos c3] at hs
            rw [j_X10_next_71] at hs
            unfold ws_X10_next_71 at h ⊢
            refine ae ?_
            have h := h _ rfl
            have q9 := hs _ rfl
            exact q9 h
          · have h := And.right h c3
            rw [if_neg c3] at hs
            rw [j_X10_next_69] at hs
            unfold ws_X10_next_69 at h ⊢
            rw [j_X10_next_71] at hs
            unfold ws_X10_next_71 at h ⊢
            refine ae ?_
            have h := h _ rfl
            have q9 := hs _ rfl
            exact q9 h
noncomputable def F_X10_next (p0 bT aG bL bY dO : Int32) (qG m_x gR pW qR nG oO pJ sW sH : Nat -> Int32) : Int32 × Int32 × Int32 × Int32 × (Nat -> Int32) × (Nat -> Int32) := if (aUe p0 0 (F_X10_allStandings aG)) = 0 then ((-1), bL, 0, dO, sW, sH) else (ex_X10_next_28 (fun o0 o1 o2 o3 o4 o5 => (o0, o1, o2, o3, o4, o5)) bT aG qG m_x gR pW qR nG oO pJ p0 bL 0 ((bBY bT aG dO qG m_x gR qR nG oO pJ sH).1) sW ((bBY bT aG dO qG m_x gR qR nG oO pJ sH).2) (nI (0 + (Int32.toInt aG - ((0 : Nat) : Int)).toNat)) (itr (bd_X10_next_28 bT aG qG m_x gR pW qR nG oO pJ p0 bL 0 ((bBY bT aG dO qG m_x gR qR nG oO pJ sH).1) sW ((bBY bT aG dO qG m_x gR qR nG oO pJ sH).2)) (-2) 0 (Int32.toInt aG - ((0 : Nat) : Int)).toNat))
set_option maxHeartbeats 200000 in
set_option maxRecDepth 10000 in
theorem dt_X10_next {P Q : Int32 -> Int32 -> Int32 -> Int32 -> (Nat -> Int32) -> (Nat -> Int32) -> Prop} {p0 bT aG bL bY dO : Int32} {qG m_x gR pW qR nG oO pJ sW sH : Nat -> Int32} (h : wp_X10_next P p0 bT aG bL bY dO qG m_x gR pW qR nG oO pJ sW sH) (hq : ∀ o : Int32 × Int32 × Int32 × Int32 × (Nat -> Int32) × (Nat -> Int32), o = F_X10_next p0 bT aG bL bY dO qG m_x gR pW qR nG oO pJ sW sH -> P o.1 o.2.1 o.2.2.1 o.2.2.2.1 o.2.2.2.2.1 o.2.2.2.2.2 -> Q o.1 o.2.1 o.2.2.1 o.2.2.2.1 o.2.2.2.2.1 o.2.2.2.2.2) : wp_X10_next Q p0 bT aG bL bY dO qG m_x gR pW qR nG oO pJ sW sH := by
  rw [F_X10_next] at hq
  refine du_X10_allStandings h ?_
  intro h
  refine du_X10_in h ?_
  intro h
  refine And.intro (fun c1 => ?_) (fun c1 => ?_)
  · have h := And.left h c1
    rw [if_neg c1] at hq
    refine du_X10_layHands h ?_
    intro h
    obtain ⟨n2, h⟩ := h
    refine ⟨n2, dl_X10_next_28 (a := (-2)) (i := 0) (by decide) ?_ n2 0 0 (by decide) (Nat.zero_le _) h⟩
    intro cc3 s4 ec5 es6 h
    rw [<- ec5, <- es6, ex_X10_next_28] at hq
    refine And.intro (fun c7 => ?_) (fun c7 => ?_)
    · have h := And.left h c7
      rw [if_pos c7] at hq
      refine ae ?_
      have h := h _ rfl
      refine du_X10_leftBy h ?_
      intro h
      refine du_X10_tell h ?_
      intro h
      refine du_X10_leftBy h ?_
      intro h
      refine du_X10_tell h ?_
      intro h
      have q9 := hq _ rfl
      dsimp only at q9
      exact q9 h
    · have h := And.right h c7
      rw [if_neg c7] at hq
      have q9 := hq _ rfl
      dsimp only at q9
      exact q9 h
  · have h := And.right h c1
    rw [if_pos c1] at hq
    have q9 := hq _ rfl
    dsimp only at q9
    exact q9 h
theorem du_X10_next {P Q : Int32 -> Int32 -> Int32 -> Int32 -> (Nat -> Int32) -> (Nat -> Int32) -> Prop} {p0 bT aG bL bY dO : Int32} {qG m_x gR pW qR nG oO pJ sW sH : Nat -> Int32} (h : wp_X10_next P p0 bT aG bL bY dO qG m_x gR pW qR nG oO pJ sW sH) (hq : P (F_X10_next p0 bT aG bL bY dO qG m_x gR pW qR nG oO pJ sW sH).1 (F_X10_next p0 bT aG bL bY dO qG m_x gR pW qR nG oO pJ sW sH).2.1 (F_X10_next p0 bT aG bL bY dO qG m_x gR pW qR nG oO pJ sW sH).2.2.1 (F_X10_next p0 bT aG bL bY dO qG m_x gR pW qR nG oO pJ sW sH).2.2.2.1 (F_X10_next p0 bT aG bL bY dO qG m_x gR pW qR nG oO pJ sW sH).2.2.2.2.1 (F_X10_next p0 bT aG bL bY dO qG m_x gR pW qR nG oO pJ sW sH).2.2.2.2.2 -> Q (F_X10_next p0 bT aG bL bY dO qG m_x gR pW qR nG oO pJ sW sH).1 (F_X10_next p0 bT aG bL bY dO qG m_x gR pW qR nG oO pJ sW sH).2.1 (F_X10_next p0 bT aG bL bY dO qG m_x gR pW qR nG oO pJ sW sH).2.2.1 (F_X10_next p0 bT aG bL bY dO qG m_x gR pW qR nG oO pJ sW sH).2.2.2.1 (F_X10_next p0 bT aG bL bY dO qG m_x gR pW qR nG oO pJ sW sH).2.2.2.2.1 (F_X10_next p0 bT aG bL bY dO qG m_x gR pW qR nG oO pJ sW sH).2.2.2.2.2) : wp_X10_next Q p0 bT aG bL bY dO qG m_x gR pW qR nG oO pJ sW sH := dt_X10_next h (fun o eo => by rw [eo]; exact hq)
theorem dw_X10_next {Q : Int32 -> Int32 -> Int32 -> Int32 -> (Nat -> Int32) -> (Nat -> Int32) -> Prop} {p0 bT aG bL bY dO : Int32} {qG m_x gR pW qR nG oO pJ sW sH : Nat -> Int32} (h : wp_X10_next (fun o0 o1 o2 o3 o4 o5 => (o0, o1, o2, o3, o4, o5) = F_X10_next p0 bT aG bL bY dO qG m_x gR pW qR nG oO pJ sW sH -> Q o0 o1 o2 o3 o4 o5) p0 bT aG bL bY dO qG m_x gR pW qR nG oO pJ sW sH) : wp_X10_next Q p0 bT aG bL bY dO qG m_x gR pW qR nG oO pJ sW sH := dt_X10_next h (fun o eo hp => hp eo)
noncomputable def F_X10_leastMoves (p0 p1 : Int32) (uE : Nat -> Int32) : Int32 := (uE ((p0 <<< (8 &&& 31)) + p1).toNatClampNeg)
set_option maxHeartbeats 200000 in
set_option maxRecDepth 10000 in
theorem dt_X10_leastMoves {P Q : Int32 -> Prop} {p0 p1 : Int32} {uE : Nat -> Int32} (h : wp_X10_leastMoves P p0 p1 uE) (hq : ∀ o : Int32, o = F_X10_leastMoves p0 p1 uE -> P o -> Q o) : wp_X10_leastMoves Q p0 p1 uE := by
  rw [F_X10_leastMoves] at hq
  refine ae ?_
  have h := h _ rfl
  refine ae ?_
  have h := h _ rfl
  refine And.intro (And.left h) ?_
  have h := And.right h
  have q9 := hq _ rfl
  exact q9 h
theorem du_X10_leastMoves {P Q : Int32 -> Prop} {p0 p1 : Int32} {uE : Nat -> Int32} (h : wp_X10_leastMoves P p0 p1 uE) (hq : P (F_X10_leastMoves p0 p1 uE) -> Q (F_X10_leastMoves p0 p1 uE)) : wp_X10_leastMoves Q p0 p1 uE := dt_X10_leastMoves h (fun o eo => by rw [eo]; exact hq)
theorem dw_X10_leastMoves {Q : Int32 -> Prop} {p0 p1 : Int32} {uE : Nat -> Int32} (h : wp_X10_leastMoves (fun o0 => o0 = F_X10_leastMoves p0 p1 uE -> Q o0) p0 p1 uE) : wp_X10_leastMoves Q p0 p1 uE := dt_X10_leastMoves h (fun o eo hp => hp eo)
noncomputable def j_X10_layMoves_113 {R : Type} (k58 : Int32 -> Int32 -> Int32 -> Int32 -> (Nat -> Int32) -> R) (aG : Int32) (nG pJ : Nat -> Int32) (x1 x2 x3 x4 : Int32) (uE : Nat -> Int32) : R := k58 x1 x2 x3 (x4 + 1) uE
noncomputable def j_X10_layMoves_89 {R : Type} (k58 : Int32 -> Int32 -> Int32 -> Int32 -> (Nat -> Int32) -> R) (aG : Int32) (nG pJ : Nat -> Int32) (x1 x2 x4 k0 k2 : Int32) (uE : Nat -> Int32) : R := j_X10_layMoves_113 k58 aG nG pJ x1 x2 (if ((F_X10_moveOf k2 x4 nG pJ) + (F_X10_leastMoves x4 (x1 &&& ((1 <<< (x4 &&& 31)) ^^^ (-1))) uE)) < k0 then ((F_X10_moveOf k2 x4 nG pJ) + (F_X10_leastMoves x4 (x1 &&& ((1 <<< (x4 &&& 31)) ^^^ (-1))) uE)) else k0) x4 uE
noncomputable def bd_X10_layMoves_58 (aG : Int32) (nG pJ : Nat -> Int32) (x1 x2 : Int32) (uE : Nat -> Int32) (c s : Int32) : Int32 := if (F_X10_has x1 c) = 0 then (j_X10_layMoves_113 (fun q0 q1 q2 q3 q4 => q2) aG nG pJ x1 x2 s c uE) else (if x2 = 8 then (j_X10_layMoves_89 (fun q0 q1 q2 q3 q4 => q2) aG nG pJ x1 x2 c s (-1) uE) else (j_X10_layMoves_89 (fun q0 q1 q2 q3 q4 => q2) aG nG pJ x1 x2 c s x2 uE))
noncomputable def j_X10_layMoves_131 {R : Type} (k12 : Int32 -> Int32 -> (Nat -> Int32) -> R) (aG : Int32) (nG pJ : Nat -> Int32) (x1 x2 : Int32) (uE : Nat -> Int32) : R := k12 x1 (x2 + 1) uE
noncomputable def ex_X10_layMoves_58 {R : Type} (k12 : Int32 -> Int32 -> (Nat -> Int32) -> R) (aG : Int32) (nG pJ : Nat -> Int32) (x1 x2 : Int32) (uE : Nat -> Int32) (c s : Int32) : R := j_X10_layMoves_131 k12 aG nG pJ x1 x2 (upd uE ((x2 <<< (8 &&& 31)) + x1).toNatClampNeg s)
set_option maxHeartbeats 200000 in
set_option maxRecDepth 10000 in
theorem dl_X10_layMoves_58 {P Q : (Nat -> Int32) -> Prop} {K2 L2 : Int32 -> (Nat -> Int32) -> Prop} {K12 L12 : Int32 -> Int32 -> (Nat -> Int32) -> Prop} {aG : Int32} {nG pJ : Nat -> Int32} {x1 x2 : Int32} {uE : Nat -> Int32} {a : Int32} {i : Nat} (hi0 : i < 2147483648) (hE : ∀ (c : Int32) (s : Int32), c = nI (i + (Int32.toInt aG - ((i : Nat) : Int)).toNat) -> s = itr (bd_X10_layMoves_58 aG nG pJ x1 x2 uE) a i (Int32.toInt aG - ((i : Nat) : Int)).toNat -> (∀ v_3 : Int32, v_3 = x2 <<< (8 &&& 31) -> ∀ v_4 : Int32, v_4 = v_3 + x1 -> vp_in v_4 2304 /\ (ws_X10_layMoves_131 P K2 K12 aG nG pJ x1 x2 (upd uE v_4.toNatClampNeg s))) -> (∀ v_3 : Int32, v_3 = x2 <<< (8 &&& 31) -> ∀ v_4 : Int32, v_4 = v_3 + x1 -> vp_in v_4 2304 /\ (ws_X10_layMoves_131 Q L2 L12 aG nG pJ x1 x2 (upd uE v_4.toNatClampNeg s)))) : ∀ (n k : Nat) (c : Int32), c = nI (i + k) -> k <= (Int32.toInt aG - ((i : Nat) : Int)).toNat -> wb_X10_layMoves_58 P K2 K12 aG nG pJ n x1 x2 (itr (bd_X10_layMoves_58 aG nG pJ x1 x2 uE) a i k) c uE -> wb_X10_layMoves_58 Q L2 L12 aG nG pJ n x1 x2 (itr (bd_X10_layMoves_58 aG nG pJ x1 x2 uE) a i k) c uE := by
  intro n
  induction n with
  | zero => intro k c hc hk h; exact False.elim h
  | succ n ih =>
    intro k c hc hk h
    have hr := aAT aG
    have hi : Int32.toInt c = ((i + k : Nat) : Int) := by rw [hc]; exact nI_toInt (by omega)
    refine And.intro (fun t0 => ?_) (fun t0 => ?_)
    · have h := And.left h t0
      have t1 := (aAO _ _).mp t0
      have hk2 : k = (Int32.toInt aG - ((i : Nat) : Int)).toNat := by omega
      subst hk2
      exact hE _ _ hc rfl h
    · have h := And.right h t0
      have t1 := mt (aAO _ _).mpr t0
      have hs : ∀ o : Int32, o = itr (bd_X10_layMoves_58 aG nG pJ x1 x2 uE) a i (k + 1) -> wb_X10_layMoves_58 P K2 K12 aG nG pJ n x1 x2 o (c + 1) uE -> wb_X10_layMoves_58 Q L2 L12 aG nG pJ n x1 x2 o (c + 1) uE := by
        intro o eo h9
        have q := ih (k + 1) (c + 1) (by rw [hc]; exact nI_1 _) (by omega)
        rw [<- eo] at q
        exact q h9
      rw [itr_s, <- hc, bd_X10_layMoves_58] at hs
      refine du_X10_has h ?_
      intro h
      refine And.intro (fun c1 => ?_) (fun c1 => ?_)
      · have h := And.left h c1
        rw [if_pos c1] at hs
        rw [j_X10_layMoves_113] at hs
        unfold ws_X10_layMoves_113 at h ⊢
        refine ae ?_
        have h := h _ rfl
        have q9 := hs _ rfl
        exact q9 h
      · have h := And.right h c1
        rw [if_neg c1] at hs
        refine And.intro (fun c2 => ?_) (fun c2 => ?_)
        · have h := And.left h c2
          rw [if_neg c2] at hs
          rw [j_X10_layMoves_89] at hs
          unfold ws_X10_layMoves_89 at h ⊢
          refine du_X10_moveOf h ?_
          intro h
          refine ae ?_
          have h := h _ rfl
          refine ae ?_
          have h := h _ rfl
          refine du_X10_leastMoves h ?_
          intro h
          refine ae ?_
          have h := h _ rfl
          refine ae ?_
          have h := h _ rfl
          rw [j_X10_layMoves_113] at hs
          unfold ws_X10_layMoves_113 at h ⊢
          refine ae ?_
          have h := h _ rfl
          have q9 := hs _ rfl
          exact q9 h
        · have h := And.right h c2
          rw [if_pos c2] at hs
          rw [j_X10_layMoves_89] at hs
          unfold ws_X10_layMoves_89 at h ⊢
          refine du_X10_moveOf h ?_
          intro h
          refine ae ?_
          have h := h _ rfl
          refine ae ?_
          have h := h _ rfl
          refine du_X10_leastMoves h ?_
          intro h
          refine ae ?_
          have h := h _ rfl
          refine ae ?_
          have h := h _ rfl
          rw [j_X10_layMoves_113] at hs
          unfold ws_X10_layMoves_113 at h ⊢
          refine ae ?_
          have h := h _ rfl
          have q9 := hs _ rfl
          exact q9 h
noncomputable def j_X10_layMoves_54 {R : Type} (k12 : Int32 -> Int32 -> (Nat -> Int32) -> R) (aG : Int32) (nG pJ : Nat -> Int32) (x1 x2 k0 : Int32) (uE : Nat -> Int32) : R := ex_X10_layMoves_58 k12 aG nG pJ x1 x2 uE (nI (0 + (Int32.toInt aG - ((0 : Nat) : Int)).toNat)) (itr (bd_X10_layMoves_58 aG nG pJ x1 x2 uE) k0 0 (Int32.toInt aG - ((0 : Nat) : Int)).toNat)
noncomputable def j_X10_layMoves_43 {R : Type} (k12 : Int32 -> Int32 -> (Nat -> Int32) -> R) (aG : Int32) (nG pJ : Nat -> Int32) (x1 x2 : Int32) (uE : Nat -> Int32) : R := if x1 = 0 then (j_X10_layMoves_54 k12 aG nG pJ x1 x2 0 uE) else (j_X10_layMoves_54 k12 aG nG pJ x1 x2 1000000 uE)
noncomputable def bd_X10_layMoves_12 (aG : Int32) (nG pJ : Nat -> Int32) (x1 c : Int32) (s : (Nat -> Int32)) : (Nat -> Int32) := if 8 <= c then (j_X10_layMoves_43 (fun q0 q1 q2 => q2) aG nG pJ x1 c s) else (if aG <= c then (j_X10_layMoves_131 (fun q0 q1 q2 => q2) aG nG pJ x1 c s) else (if (F_X10_has x1 c) = 0 then (j_X10_layMoves_43 (fun q0 q1 q2 => q2) aG nG pJ x1 c s) else (j_X10_layMoves_131 (fun q0 q1 q2 => q2) aG nG pJ x1 c s)))
noncomputable def ex_X10_layMoves_12 {R : Type} (k2 : Int32 -> (Nat -> Int32) -> R) (aG : Int32) (nG pJ : Nat -> Int32) (x1 c : Int32) (s : (Nat -> Int32)) : R := k2 (x1 + 1) s
set_option maxHeartbeats 200000 in
set_option maxRecDepth 10000 in
theorem dl_X10_layMoves_12 {P Q : (Nat -> Int32) -> Prop} {K2 L2 : Int32 -> (Nat -> Int32) -> Prop} {aG : Int32} {nG pJ : Nat -> Int32} {x1 : Int32} {a : (Nat -> Int32)} {i : Nat} (hi0 : i < 2147483648) (hE : ∀ (c : Int32) (s : (Nat -> Int32)), c = nI (i + (Int32.toInt 8 + 1 - ((i : Nat) : Int)).toNat) -> s = itr (bd_X10_layMoves_12 aG nG pJ x1) a i (Int32.toInt 8 + 1 - ((i : Nat) : Int)).toNat -> (∀ v_2 : Int32, v_2 = x1 + 1 -> K2 v_2 s) -> (∀ v_2 : Int32, v_2 = x1 + 1 -> L2 v_2 s)) : ∀ (n k : Nat) (c : Int32), c = nI (i + k) -> k <= (Int32.toInt 8 + 1 - ((i : Nat) : Int)).toNat -> wb_X10_layMoves_12 P K2 aG nG pJ n x1 c (itr (bd_X10_layMoves_12 aG nG pJ x1) a i k) -> wb_X10_layMoves_12 Q L2 aG nG pJ n x1 c (itr (bd_X10_layMoves_12 aG nG pJ x1) a i k) := by
  intro n
  induction n with
  | zero => intro k c hc hk h; exact False.elim h
  | succ n ih =>
    intro k c hc hk h
    have hr := aAT 8
    have hl9 : Int32.toInt 8 < 2147483647 := by decide
    have hi : Int32.toInt c = ((i + k : Nat) : Int) := by rw [hc]; exact nI_toInt (by omega)
    refine And.intro (fun t0 => ?_) (fun t0 => ?_)
    · have h := And.left h t0
      have t1 := (aAd _ _).mp t0
      have hk2 : k = (Int32.toInt 8 + 1 - ((i : Nat) : Int)).toNat := by omega
      subst hk2
      exact hE _ _ hc rfl h
    · have h := And.right h t0
      have t1 := mt (aAd _ _).mpr t0
      have hs : ∀ o : (Nat -> Int32), o = itr (bd_X10_layMoves_12 aG nG pJ x1) a i (k + 1) -> wb_X10_layMoves_12 P K2 aG nG pJ n x1 (c + 1) o -> wb_X10_layMoves_12 Q L2 aG nG pJ n x1 (c + 1) o := by
        intro o eo h9
        have q := ih (k + 1) (c + 1) (by rw [hc]; exact nI_1 _) (by omega)
        rw [<- eo] at q
        exact q h9
      rw [itr_s, <- hc, bd_X10_layMoves_12] at hs
      refine And.intro (fun c1 => ?_) (fun c1 => ?_)
      · have h := And.left h c1
        rw [if_pos c1] at hs
        rw [j_X10_layMoves_43] at hs
        unfold ws_X10_layMoves_43 at h ⊢
        refine And.intro (fun c2 => ?_) (fun c2 => ?_)
        · have h := And.left h c2
          rw [if_neg c2] at hs
          rw [j_X10_layMoves_54] at hs
          unfold ws_X10_layMoves_54 at h ⊢
          obtain ⟨n3, h⟩ := h
          refine ⟨n3, dl_X10_layMoves_58 (a := 1000000) (i := 0) (by decide) ?_ n3 0 0 (by decide) (Nat.zero_le _) h⟩
          intro cc4 s5 ec6 es7 h
          rw [<- ec6, <- es7, ex_X10_layMoves_58] at hs
          refine ae ?_
          have h := h _ rfl
          refine ae ?_
          have h := h _ rfl
          refine And.intro (And.left h) ?_
          have h := And.right h
          rw [j_X10_layMoves_131] at hs
          unfold ws_X10_layMoves_131 at h ⊢
          refine ae ?_
          have h := h _ rfl
          have q9 := hs _ rfl
          exact q9 h
        · have h := And.right h c2
          rw [if_pos c2] at hs
          rw [j_X10_layMoves_54] at hs
          unfold ws_X10_layMoves_54 at h ⊢
          obtain ⟨n8, h⟩ := h
          refine ⟨n8, dl_X10_layMoves_58 (a := 0) (i := 0) (by decide) ?_ n8 0 0 (by decide) (Nat.zero_le _) h⟩
          intro cc9 s10 ec11 es12 h
          rw [<- ec11, <- es12, ex_X10_layMoves_58] at hs
          refine ae ?_
          have h := h _ rfl
          refine ae ?_
          have h := h _ rfl
          refine And.intro (And.left h) ?_
          have h := And.right h
          rw [j_X10_layMoves_131] at hs
          unfold ws_X10_layMoves_131 at h ⊢
          refine ae ?_
          have h := h _ rfl
          have q9 := hs _ rfl
          exact q9 h
      · have h := And.right h c1
        rw [if_neg c1] at hs
        refine And.intro (fun c13 => ?_) (fun c13 => ?_)
        · have h := And.left h c13
          rw [if_pos c13] at hs
          rw [j_X10_layMoves_131] at hs
          unfold ws_X10_layMoves_131 at h ⊢
          refine ae ?_
          have h := h _ rfl
          have q9 := hs _ rfl
          exact q9 h
        · have h := And.right h c13
          rw [if_neg c13] at hs
          refine du_X10_has h ?_
          intro h
          refine And.intro (fun c14 => ?_) (fun c14 => ?_)
          · have h := And.left h c14
            rw [if_pos c14] at hs
            rw [j_X10_layMoves_43] at hs
            unfold ws_X10_layMoves_43 at h ⊢
            refine And.intro (fun c15 => ?_) (fun c15 => ?_)
            · have h := And.left h c15
              rw [if_neg c15] at hs
              rw [j_X10_layMoves_54] at hs
              unfold ws_X10_layMoves_54 at h ⊢
              obtain ⟨n16, h⟩ := h
              refine ⟨n16, dl_X10_layMoves_58 (a := 1000000) (i := 0) (by decide) ?_ n16 0 0 (by decide) (Nat.zero_le _) h⟩
              intro cc17 s18 ec19 es20 h
              rw [<- ec19, <- es20, ex_X10_layMoves_58] at hs
              refine ae ?_
              have h := h _ rfl
              refine ae ?_
              have h := h _ rfl
              refine And.intro (And.left h) ?_
              have h := And.right h
              rw [j_X10_layMoves_131] at hs
              unfold ws_X10_layMoves_131 at h ⊢
              refine ae ?_
              have h := h _ rfl
              have q9 := hs _ rfl
              exact q9 h
            · have h := And.right h c15
              rw [if_pos c15] at hs
              rw [j_X10_layMoves_54] at hs
              unfold ws_X10_layMoves_54 at h ⊢
              obtain ⟨n21, h⟩ := h
              refine ⟨n21, dl_X10_layMoves_58 (a := 0) (i := 0) (by decide) ?_ n21 0 0 (by decide) (Nat.zero_le _) h⟩
              intro cc22 s23 ec24 es25 h
              rw [<- ec24, <- es25, ex_X10_layMoves_58] at hs
              refine ae ?_
              have h := h _ rfl
              refine ae ?_
              have h := h _ rfl
              refine And.intro (And.left h) ?_
              have h := And.right h
              rw [j_X10_layMoves_131] at hs
              unfold ws_X10_layMoves_131 at h ⊢
              refine ae ?_
              have h := h _ rfl
              have q9 := hs _ rfl
              exact q9 h
          · have h := And.right h c14
            rw [if_neg c14] at hs
            rw [j_X10_layMoves_131] at hs
            unfold ws_X10_layMoves_131 at h ⊢
            refine ae ?_
            have h := h _ rfl
            have q9 := hs _ rfl
            exact q9 h
noncomputable def bd_X10_layMoves_2 (aG : Int32) (nG pJ : Nat -> Int32) (c : Int32) (s : (Nat -> Int32)) : (Nat -> Int32) := ex_X10_layMoves_12 (fun q0 q1 => q1) aG nG pJ c (nI (0 + (Int32.toInt 8 + 1 - ((0 : Nat) : Int)).toNat)) (itr (bd_X10_layMoves_12 aG nG pJ c) s 0 (Int32.toInt 8 + 1 - ((0 : Nat) : Int)).toNat)
noncomputable def ex_X10_layMoves_2 {R : Type} (po : (Nat -> Int32) -> R) (aG : Int32) (nG pJ : Nat -> Int32) (c : Int32) (s : (Nat -> Int32)) : R := po s
set_option maxHeartbeats 200000 in
set_option maxRecDepth 10000 in
theorem dl_X10_layMoves_2 {P Q : (Nat -> Int32) -> Prop} {aG : Int32} {nG pJ : Nat -> Int32} {a : (Nat -> Int32)} {i : Nat} (hi0 : i < 2147483648) (hz0 : Int32.toInt (F_X10_allStandings aG) < 2147483647) (hE : ∀ (c : Int32) (s : (Nat -> Int32)), c = nI (i + (Int32.toInt (F_X10_allStandings aG) + 1 - ((i : Nat) : Int)).toNat) -> s = itr (bd_X10_layMoves_2 aG nG pJ) a i (Int32.toInt (F_X10_allStandings aG) + 1 - ((i : Nat) : Int)).toNat -> (P s) -> (Q s)) : ∀ (n k : Nat) (c : Int32), c = nI (i + k) -> k <= (Int32.toInt (F_X10_allStandings aG) + 1 - ((i : Nat) : Int)).toNat -> wb_X10_layMoves_2 P aG nG pJ n c (itr (bd_X10_layMoves_2 aG nG pJ) a i k) -> wb_X10_layMoves_2 Q aG nG pJ n c (itr (bd_X10_layMoves_2 aG nG pJ) a i k) := by
  intro n
  induction n with
  | zero => intro k c hc hk h; exact False.elim h
  | succ n ih =>
    intro k c hc hk h
    have hr := aAT (F_X10_allStandings aG)
    have hi : Int32.toInt c = ((i + k : Nat) : Int) := by rw [hc]; exact nI_toInt (by omega)
    have h : ws_X10_layMoves_2 P (wb_X10_layMoves_2 P aG nG pJ n) aG nG pJ c (itr (bd_X10_layMoves_2 aG nG pJ) a i k) := h
    show ws_X10_layMoves_2 Q (wb_X10_layMoves_2 Q aG nG pJ n) aG nG pJ c (itr (bd_X10_layMoves_2 aG nG pJ) a i k)
    unfold ws_X10_layMoves_2 at h ⊢
    refine du_X10_allStandings h ?_
    intro h
    refine And.intro (fun t0 => ?_) (fun t0 => ?_)
    · have h := And.left h t0
      have t1 := (aAd _ _).mp t0
      have hk2 : k = (Int32.toInt (F_X10_allStandings aG) + 1 - ((i : Nat) : Int)).toNat := by omega
      subst hk2
      exact hE _ _ hc rfl h
    · have h := And.right h t0
      have t1 := mt (aAd _ _).mpr t0
      have hs : ∀ o : (Nat -> Int32), o = itr (bd_X10_layMoves_2 aG nG pJ) a i (k + 1) -> wb_X10_layMoves_2 P aG nG pJ n (c + 1) o -> wb_X10_layMoves_2 Q aG nG pJ n (c + 1) o := by
        intro o eo h9
        have q := ih (k + 1) (c + 1) (by rw [hc]; exact nI_1 _) (by omega)
        rw [<- eo] at q
        exact q h9
      rw [itr_s, <- hc, bd_X10_layMoves_2] at hs
      obtain ⟨n1, h⟩ := h
      refine ⟨n1, dl_X10_layMoves_12 (a := (itr (bd_X10_layMoves_2 aG nG pJ) a i k)) (i := 0) (by decide) ?_ n1 0 0 (by decide) (Nat.zero_le _) h⟩
      intro cc2 s3 ec4 es5 h
      rw [<- ec4, <- es5, ex_X10_layMoves_12] at hs
      refine ae ?_
      have h := h _ rfl
      have q9 := hs _ rfl
      exact q9 h
noncomputable def F_X10_layMoves (aG : Int32) (nG pJ uE : Nat -> Int32) : (Nat -> Int32) := ex_X10_layMoves_2 (fun o0 => o0) aG nG pJ (nI (0 + (Int32.toInt (F_X10_allStandings aG) + 1 - ((0 : Nat) : Int)).toNat)) (itr (bd_X10_layMoves_2 aG nG pJ) uE 0 (Int32.toInt (F_X10_allStandings aG) + 1 - ((0 : Nat) : Int)).toNat)
set_option maxHeartbeats 200000 in
set_option maxRecDepth 10000 in
theorem dt_X10_layMoves {P Q : (Nat -> Int32) -> Prop} {aG : Int32} {nG pJ uE : Nat -> Int32} (hy0 : Int32.toInt (F_X10_allStandings aG) < 2147483647) (h : wp_X10_layMoves P aG nG pJ uE) (hq : ∀ o : (Nat -> Int32), o = F_X10_layMoves aG nG pJ uE -> P o -> Q o) : wp_X10_layMoves Q aG nG pJ uE := by
  rw [F_X10_layMoves] at hq
  obtain ⟨n1, h⟩ := h
  refine ⟨n1, dl_X10_layMoves_2 (a := uE) (i := 0) (by decide) hy0 ?_ n1 0 0 (by decide) (Nat.zero_le _) h⟩
  intro cc2 s3 ec4 es5 h
  rw [<- ec4, <- es5, ex_X10_layMoves_2] at hq
  have q9 := hq _ rfl
  exact q9 h
theorem du_X10_layMoves {P Q : (Nat -> Int32) -> Prop} {aG : Int32} {nG pJ uE : Nat -> Int32} (hy0 : Int32.toInt (F_X10_allStandings aG) < 2147483647) (h : wp_X10_layMoves P aG nG pJ uE) (hq : P (F_X10_layMoves aG nG pJ uE) -> Q (F_X10_layMoves aG nG pJ uE)) : wp_X10_layMoves Q aG nG pJ uE := dt_X10_layMoves hy0 h (fun o eo => by rw [eo]; exact hq)
theorem dw_X10_layMoves {Q : (Nat -> Int32) -> Prop} {aG : Int32} {nG pJ uE : Nat -> Int32} (hy0 : Int32.toInt (F_X10_allStandings aG) < 2147483647) (h : wp_X10_layMoves (fun o0 => o0 = F_X10_layMoves aG nG pJ uE -> Q o0) aG nG pJ uE) : wp_X10_layMoves Q aG nG pJ uE := dt_X10_layMoves hy0 h (fun o eo hp => hp eo)
noncomputable def F_X10_besides (p0 : Int32) (qG : Nat -> Int32) : Int32 := if (qG (17 : Int32).toNatClampNeg) = (-1) then p0 else (p0 &&& ((1 <<< ((qG (17 : Int32).toNatClampNeg) &&& 31)) ^^^ (-1)))
set_option maxHeartbeats 200000 in
set_option maxRecDepth 10000 in
theorem dt_X10_besides {P Q : Int32 -> Prop} {p0 : Int32} {qG : Nat -> Int32} (h : wp_X10_besides P p0 qG) (hq : ∀ o : Int32, o = F_X10_besides p0 qG -> P o -> Q o) : wp_X10_besides Q p0 qG := by
  rw [F_X10_besides] at hq
  refine ae ?_
  have h := h _ rfl
  refine And.intro (fun c1 => ?_) (fun c1 => ?_)
  · have h := And.left h c1
    rw [if_neg c1] at hq
    refine ae ?_
    have h := h _ rfl
    have q9 := hq _ rfl
    exact q9 h
  · have h := And.right h c1
    rw [if_pos c1] at hq
    have q9 := hq _ rfl
    exact q9 h
theorem du_X10_besides {P Q : Int32 -> Prop} {p0 : Int32} {qG : Nat -> Int32} (h : wp_X10_besides P p0 qG) (hq : P (F_X10_besides p0 qG) -> Q (F_X10_besides p0 qG)) : wp_X10_besides Q p0 qG := dt_X10_besides h (fun o eo => by rw [eo]; exact hq)
theorem dw_X10_besides {Q : Int32 -> Prop} {p0 : Int32} {qG : Nat -> Int32} (h : wp_X10_besides (fun o0 => o0 = F_X10_besides p0 qG -> Q o0) p0 qG) : wp_X10_besides Q p0 qG := dt_X10_besides h (fun o eo hp => hp eo)
noncomputable def F_X10_placeOf (p0 : Int32) : Int32 := if p0 = (-1) then 8 else p0
set_option maxHeartbeats 200000 in
set_option maxRecDepth 10000 in
theorem dt_X10_placeOf {P Q : Int32 -> Prop} {p0 : Int32} (h : wp_X10_placeOf P p0) (hq : ∀ o : Int32, o = F_X10_placeOf p0 -> P o -> Q o) : wp_X10_placeOf Q p0 := by
  rw [F_X10_placeOf] at hq
  refine And.intro (fun c1 => ?_) (fun c1 => ?_)
  · have h := And.left h c1
    rw [if_neg c1] at hq
    have q9 := hq _ rfl
    exact q9 h
  · have h := And.right h c1
    rw [if_pos c1] at hq
    have q9 := hq _ rfl
    exact q9 h
theorem du_X10_placeOf {P Q : Int32 -> Prop} {p0 : Int32} (h : wp_X10_placeOf P p0) (hq : P (F_X10_placeOf p0) -> Q (F_X10_placeOf p0)) : wp_X10_placeOf Q p0 := dt_X10_placeOf h (fun o eo => by rw [eo]; exact hq)
theorem dw_X10_placeOf {Q : Int32 -> Prop} {p0 : Int32} (h : wp_X10_placeOf (fun o0 => o0 = F_X10_placeOf p0 -> Q o0) p0) : wp_X10_placeOf Q p0 := dt_X10_placeOf h (fun o eo hp => hp eo)
noncomputable def F_X10_hereWanted (bT : Int32) (qG m_x gR qR nG oO pJ : Nat -> Int32) : Int32 := (((aUf 0 bT qG) &&& (F_X10_ripeOnes (qG (19 : Int32).toNatClampNeg) bT qR)) &&& (F_X10_byHand (qG (17 : Int32).toNatClampNeg) bT qG m_x gR nG oO pJ))
set_option maxHeartbeats 200000 in
set_option maxRecDepth 10000 in
theorem dt_X10_hereWanted {P Q : Int32 -> Prop} {bT : Int32} {qG m_x gR qR nG oO pJ : Nat -> Int32} (h : bBQ P bT qG m_x gR qR nG oO pJ) (hq : ∀ o : Int32, o = F_X10_hereWanted bT qG m_x gR qR nG oO pJ -> P o -> Q o) : bBQ Q bT qG m_x gR qR nG oO pJ := by
  rw [F_X10_hereWanted] at hq
  refine du_X10_which h ?_
  intro h
  refine ae ?_
  have h := h _ rfl
  refine du_X10_ripeOnes h ?_
  intro h
  refine ae ?_
  have h := h _ rfl
  refine ae ?_
  have h := h _ rfl
  refine du_X10_byHand h ?_
  intro h
  have q9 := hq _ rfl
  exact q9 h
theorem du_X10_hereWanted {P Q : Int32 -> Prop} {bT : Int32} {qG m_x gR qR nG oO pJ : Nat -> Int32} (h : bBQ P bT qG m_x gR qR nG oO pJ) (hq : P (F_X10_hereWanted bT qG m_x gR qR nG oO pJ) -> Q (F_X10_hereWanted bT qG m_x gR qR nG oO pJ)) : bBQ Q bT qG m_x gR qR nG oO pJ := dt_X10_hereWanted h (fun o eo => by rw [eo]; exact hq)
theorem dw_X10_hereWanted {Q : Int32 -> Prop} {bT : Int32} {qG m_x gR qR nG oO pJ : Nat -> Int32} (h : bBQ (fun o0 => o0 = F_X10_hereWanted bT qG m_x gR qR nG oO pJ -> Q o0) bT qG m_x gR qR nG oO pJ) : bBQ Q bT qG m_x gR qR nG oO pJ := dt_X10_hereWanted h (fun o eo hp => hp eo)
noncomputable def bd_X10_lay_b4_2 (qG : Nat -> Int32) (x2 c : Int32) (s : (Nat -> Int32)) : (Nat -> Int32) := (upd s (x2 + c).toNatClampNeg (qG c.toNatClampNeg))
noncomputable def ex_X10_lay_b4_2 {R : Type} (po : (Nat -> Int32) -> R) (qG : Nat -> Int32) (x2 c : Int32) (s : (Nat -> Int32)) : R := po s
set_option maxHeartbeats 200000 in
set_option maxRecDepth 10000 in
theorem dl_X10_lay_b4_2 {P Q : (Nat -> Int32) -> Prop} {qG : Nat -> Int32} {x2 : Int32} {a : (Nat -> Int32)} {i : Nat} (hi0 : i < 2147483648) (hE : ∀ (c : Int32) (s : (Nat -> Int32)), c = nI (i + (Int32.toInt 21 - ((i : Nat) : Int)).toNat) -> s = itr (bd_X10_lay_b4_2 qG x2) a i (Int32.toInt 21 - ((i : Nat) : Int)).toNat -> (P s) -> (Q s)) : ∀ (n k : Nat) (c : Int32), c = nI (i + k) -> k <= (Int32.toInt 21 - ((i : Nat) : Int)).toNat -> wb_X10_lay_b4_2 P qG n x2 c (itr (bd_X10_lay_b4_2 qG x2) a i k) -> wb_X10_lay_b4_2 Q qG n x2 c (itr (bd_X10_lay_b4_2 qG x2) a i k) := by
  intro n
  induction n with
  | zero => intro k c hc hk h; exact False.elim h
  | succ n ih =>
    intro k c hc hk h
    have hr := aAT 21
    have hi : Int32.toInt c = ((i + k : Nat) : Int) := by rw [hc]; exact nI_toInt (by omega)
    refine And.intro (fun t0 => ?_) (fun t0 => ?_)
    · have h := And.left h t0
      have t1 := (aAO _ _).mp t0
      have hk2 : k = (Int32.toInt 21 - ((i : Nat) : Int)).toNat := by omega
      subst hk2
      exact hE _ _ hc rfl h
    · have h := And.right h t0
      have t1 := mt (aAO _ _).mpr t0
      have hs : ∀ o : (Nat -> Int32), o = itr (bd_X10_lay_b4_2 qG x2) a i (k + 1) -> wb_X10_lay_b4_2 P qG n x2 (c + 1) o -> wb_X10_lay_b4_2 Q qG n x2 (c + 1) o := by
        intro o eo h9
        have q := ih (k + 1) (c + 1) (by rw [hc]; exact nI_1 _) (by omega)
        rw [<- eo] at q
        exact q h9
      rw [itr_s, <- hc, bd_X10_lay_b4_2] at hs
      refine ae ?_
      have h := h _ rfl
      refine And.intro (And.left h) ?_
      have h := And.right h
      refine ae ?_
      have h := h _ rfl
      refine And.intro (And.left h) ?_
      have h := And.right h
      refine ae ?_
      have h := h _ rfl
      have q9 := hs _ rfl
      exact q9 h
noncomputable def F_X10_lay_b4 (p2 : Int32) (qG xD : Nat -> Int32) : (Nat -> Int32) := ex_X10_lay_b4_2 (fun o0 => o0) qG p2 (nI (0 + (Int32.toInt 21 - ((0 : Nat) : Int)).toNat)) (itr (bd_X10_lay_b4_2 qG p2) xD 0 (Int32.toInt 21 - ((0 : Nat) : Int)).toNat)
set_option maxHeartbeats 200000 in
set_option maxRecDepth 10000 in
theorem dt_X10_lay_b4 {P Q : (Nat -> Int32) -> Prop} {p2 : Int32} {qG xD : Nat -> Int32} (h : wp_X10_lay_b4 P p2 qG xD) (hq : ∀ o : (Nat -> Int32), o = F_X10_lay_b4 p2 qG xD -> P o -> Q o) : wp_X10_lay_b4 Q p2 qG xD := by
  rw [F_X10_lay_b4] at hq
  obtain ⟨n1, h⟩ := h
  refine ⟨n1, dl_X10_lay_b4_2 (a := xD) (i := 0) (by decide) ?_ n1 0 0 (by decide) (Nat.zero_le _) h⟩
  intro cc2 s3 ec4 es5 h
  rw [<- ec4, <- es5, ex_X10_lay_b4_2] at hq
  have q9 := hq _ rfl
  exact q9 h
theorem du_X10_lay_b4 {P Q : (Nat -> Int32) -> Prop} {p2 : Int32} {qG xD : Nat -> Int32} (h : wp_X10_lay_b4 P p2 qG xD) (hq : P (F_X10_lay_b4 p2 qG xD) -> Q (F_X10_lay_b4 p2 qG xD)) : wp_X10_lay_b4 Q p2 qG xD := dt_X10_lay_b4 h (fun o eo => by rw [eo]; exact hq)
theorem dw_X10_lay_b4 {Q : (Nat -> Int32) -> Prop} {p2 : Int32} {qG xD : Nat -> Int32} (h : wp_X10_lay_b4 (fun o0 => o0 = F_X10_lay_b4 p2 qG xD -> Q o0) p2 qG xD) : wp_X10_lay_b4 Q p2 qG xD := dt_X10_lay_b4 h (fun o eo hp => hp eo)
noncomputable def F_X10_keep (p0 bY oX : Int32) (qG xD vJ uI : Nat -> Int32) : Int32 × Int32 × (Nat -> Int32) × (Nat -> Int32) × (Nat -> Int32) := if (aUe p0 0 1) = 0 then (0, 0, xD, vJ, uI) else (1, 0, (F_X10_lay_b4 (21 * p0) qG xD), (upd vJ p0.toNatClampNeg (vp_nar .boolean 1)), (upd uI p0.toNatClampNeg oX))
set_option maxHeartbeats 200000 in
set_option maxRecDepth 10000 in
theorem dt_X10_keep {P Q : Int32 -> Int32 -> (Nat -> Int32) -> (Nat -> Int32) -> (Nat -> Int32) -> Prop} {p0 bY oX : Int32} {qG xD vJ uI : Nat -> Int32} (h : wp_X10_keep P p0 bY oX qG xD vJ uI) (hq : ∀ o : Int32 × Int32 × (Nat -> Int32) × (Nat -> Int32) × (Nat -> Int32), o = F_X10_keep p0 bY oX qG xD vJ uI -> P o.1 o.2.1 o.2.2.1 o.2.2.2.1 o.2.2.2.2 -> Q o.1 o.2.1 o.2.2.1 o.2.2.2.1 o.2.2.2.2) : wp_X10_keep Q p0 bY oX qG xD vJ uI := by
  rw [F_X10_keep] at hq
  refine du_X10_in h ?_
  intro h
  refine And.intro (fun c1 => ?_) (fun c1 => ?_)
  · have h := And.left h c1
    rw [if_neg c1] at hq
    refine And.intro (And.left h) ?_
    have h := And.right h
    refine And.intro (And.left h) ?_
    have h := And.right h
    refine ae ?_
    have h := h _ rfl
    refine du_X10_lay_b4 h ?_
    intro h
    have q9 := hq _ rfl
    dsimp only at q9
    exact q9 h
  · have h := And.right h c1
    rw [if_pos c1] at hq
    have q9 := hq _ rfl
    dsimp only at q9
    exact q9 h
theorem du_X10_keep {P Q : Int32 -> Int32 -> (Nat -> Int32) -> (Nat -> Int32) -> (Nat -> Int32) -> Prop} {p0 bY oX : Int32} {qG xD vJ uI : Nat -> Int32} (h : wp_X10_keep P p0 bY oX qG xD vJ uI) (hq : P (F_X10_keep p0 bY oX qG xD vJ uI).1 (F_X10_keep p0 bY oX qG xD vJ uI).2.1 (F_X10_keep p0 bY oX qG xD vJ uI).2.2.1 (F_X10_keep p0 bY oX qG xD vJ uI).2.2.2.1 (F_X10_keep p0 bY oX qG xD vJ uI).2.2.2.2 -> Q (F_X10_keep p0 bY oX qG xD vJ uI).1 (F_X10_keep p0 bY oX qG xD vJ uI).2.1 (F_X10_keep p0 bY oX qG xD vJ uI).2.2.1 (F_X10_keep p0 bY oX qG xD vJ uI).2.2.2.1 (F_X10_keep p0 bY oX qG xD vJ uI).2.2.2.2) : wp_X10_keep Q p0 bY oX qG xD vJ uI := dt_X10_keep h (fun o eo => by rw [eo]; exact hq)
theorem dw_X10_keep {Q : Int32 -> Int32 -> (Nat -> Int32) -> (Nat -> Int32) -> (Nat -> Int32) -> Prop} {p0 bY oX : Int32} {qG xD vJ uI : Nat -> Int32} (h : wp_X10_keep (fun o0 o1 o2 o3 o4 => (o0, o1, o2, o3, o4) = F_X10_keep p0 bY oX qG xD vJ uI -> Q o0 o1 o2 o3 o4) p0 bY oX qG xD vJ uI) : wp_X10_keep Q p0 bY oX qG xD vJ uI := dt_X10_keep h (fun o eo hp => hp eo)
noncomputable def bd_X10_again_40 (oX : Int32) (xD vJ uI : Nat -> Int32) (x1 bY bU c : Int32) (s : (Nat -> Int32)) : (Nat -> Int32) := (upd s c.toNatClampNeg (xD ((21 * x1) + c).toNatClampNeg))
noncomputable def ex_X10_again_40 {R : Type} (po : Int32 -> Int32 -> Int32 -> (Nat -> Int32) -> R) (oX : Int32) (xD vJ uI : Nat -> Int32) (x1 bY bU c : Int32) (s : (Nat -> Int32)) : R := po 1 bY 0 s
set_option maxHeartbeats 200000 in
set_option maxRecDepth 10000 in
theorem dl_X10_again_40 {P Q : Int32 -> Int32 -> Int32 -> (Nat -> Int32) -> Prop} {oX : Int32} {xD vJ uI : Nat -> Int32} {x1 bY bU : Int32} {a : (Nat -> Int32)} {i : Nat} (hi0 : i < 2147483648) (hE : ∀ (c : Int32) (s : (Nat -> Int32)), c = nI (i + (Int32.toInt 21 - ((i : Nat) : Int)).toNat) -> s = itr (bd_X10_again_40 oX xD vJ uI x1 bY bU) a i (Int32.toInt 21 - ((i : Nat) : Int)).toNat -> (P 1 bY 0 s) -> (Q 1 bY 0 s)) : ∀ (n k : Nat) (c : Int32), c = nI (i + k) -> k <= (Int32.toInt 21 - ((i : Nat) : Int)).toNat -> wb_X10_again_40 P oX xD vJ uI n x1 c bY bU (itr (bd_X10_again_40 oX xD vJ uI x1 bY bU) a i k) -> wb_X10_again_40 Q oX xD vJ uI n x1 c bY bU (itr (bd_X10_again_40 oX xD vJ uI x1 bY bU) a i k) := by
  intro n
  induction n with
  | zero => intro k c hc hk h; exact False.elim h
  | succ n ih =>
    intro k c hc hk h
    have hr := aAT 21
    have hi : Int32.toInt c = ((i + k : Nat) : Int) := by rw [hc]; exact nI_toInt (by omega)
    refine And.intro (fun t0 => ?_) (fun t0 => ?_)
    · have h := And.left h t0
      have t1 := (aAO _ _).mp t0
      have hk2 : k = (Int32.toInt 21 - ((i : Nat) : Int)).toNat := by omega
      subst hk2
      exact hE _ _ hc rfl h
    · have h := And.right h t0
      have t1 := mt (aAO _ _).mpr t0
      have hs : ∀ o : (Nat -> Int32), o = itr (bd_X10_again_40 oX xD vJ uI x1 bY bU) a i (k + 1) -> wb_X10_again_40 P oX xD vJ uI n x1 (c + 1) bY bU o -> wb_X10_again_40 Q oX xD vJ uI n x1 (c + 1) bY bU o := by
        intro o eo h9
        have q := ih (k + 1) (c + 1) (by rw [hc]; exact nI_1 _) (by omega)
        rw [<- eo] at q
        exact q h9
      rw [itr_s, <- hc, bd_X10_again_40] at hs
      refine ae ?_
      have h := h _ rfl
      refine ae ?_
      have h := h _ rfl
      refine And.intro (And.left h) ?_
      have h := And.right h
      refine ae ?_
      have h := h _ rfl
      refine And.intro (And.left h) ?_
      have h := And.right h
      refine ae ?_
      have h := h _ rfl
      have q9 := hs _ rfl
      exact q9 h
noncomputable def F_X10_again (p0 bY bU oX : Int32) (qG xD vJ uI : Nat -> Int32) : Int32 × Int32 × Int32 × (Nat -> Int32) := if (aUe p0 0 1) = 0 then (0, 0, bU, qG) else (if (vJ p0.toNatClampNeg) = 0 then (0, 0, bU, qG) else (if (uI p0.toNatClampNeg) = oX then (ex_X10_again_40 (fun o0 o1 o2 o3 => (o0, o1, o2, o3)) oX xD vJ uI p0 0 bU (nI (0 + (Int32.toInt 21 - ((0 : Nat) : Int)).toNat)) (itr (bd_X10_again_40 oX xD vJ uI p0 0 bU) qG 0 (Int32.toInt 21 - ((0 : Nat) : Int)).toNat)) else (0, 0, bU, qG)))
set_option maxHeartbeats 200000 in
set_option maxRecDepth 10000 in
theorem dt_X10_again {P Q : Int32 -> Int32 -> Int32 -> (Nat -> Int32) -> Prop} {p0 bY bU oX : Int32} {qG xD vJ uI : Nat -> Int32} (h : wp_X10_again P p0 bY bU oX qG xD vJ uI) (hq : ∀ o : Int32 × Int32 × Int32 × (Nat -> Int32), o = F_X10_again p0 bY bU oX qG xD vJ uI -> P o.1 o.2.1 o.2.2.1 o.2.2.2 -> Q o.1 o.2.1 o.2.2.1 o.2.2.2) : wp_X10_again Q p0 bY bU oX qG xD vJ uI := by
  rw [F_X10_again] at hq
  refine du_X10_in h ?_
  intro h
  refine And.intro (fun c1 => ?_) (fun c1 => ?_)
  · have h := And.left h c1
    rw [if_pos c1] at hq
    have q9 := hq _ rfl
    dsimp only at q9
    exact q9 h
  · have h := And.right h c1
    rw [if_neg c1] at hq
    refine And.intro (And.left h) ?_
    have h := And.right h
    refine And.intro (fun c2 => ?_) (fun c2 => ?_)
    · have h := And.left h c2
      rw [if_pos c2] at hq
      have q9 := hq _ rfl
      dsimp only at q9
      exact q9 h
    · have h := And.right h c2
      rw [if_neg c2] at hq
      refine And.intro (And.left h) ?_
      have h := And.right h
      refine ae ?_
      have h := h _ rfl
      refine And.intro (fun c3 => ?_) (fun c3 => ?_)
      · have h := And.left h c3
        rw [if_pos c3] at hq
        obtain ⟨n4, h⟩ := h
        refine ⟨n4, dl_X10_again_40 (a := qG) (i := 0) (by decide) ?_ n4 0 0 (by decide) (Nat.zero_le _) h⟩
        intro cc5 s6 ec7 es8 h
        rw [<- ec7, <- es8, ex_X10_again_40] at hq
        have q9 := hq _ rfl
        dsimp only at q9
        exact q9 h
      · have h := And.right h c3
        rw [if_neg c3] at hq
        have q9 := hq _ rfl
        dsimp only at q9
        exact q9 h
theorem du_X10_again {P Q : Int32 -> Int32 -> Int32 -> (Nat -> Int32) -> Prop} {p0 bY bU oX : Int32} {qG xD vJ uI : Nat -> Int32} (h : wp_X10_again P p0 bY bU oX qG xD vJ uI) (hq : P (F_X10_again p0 bY bU oX qG xD vJ uI).1 (F_X10_again p0 bY bU oX qG xD vJ uI).2.1 (F_X10_again p0 bY bU oX qG xD vJ uI).2.2.1 (F_X10_again p0 bY bU oX qG xD vJ uI).2.2.2 -> Q (F_X10_again p0 bY bU oX qG xD vJ uI).1 (F_X10_again p0 bY bU oX qG xD vJ uI).2.1 (F_X10_again p0 bY bU oX qG xD vJ uI).2.2.1 (F_X10_again p0 bY bU oX qG xD vJ uI).2.2.2) : wp_X10_again Q p0 bY bU oX qG xD vJ uI := dt_X10_again h (fun o eo => by rw [eo]; exact hq)
theorem dw_X10_again {Q : Int32 -> Int32 -> Int32 -> (Nat -> Int32) -> Prop} {p0 bY bU oX : Int32} {qG xD vJ uI : Nat -> Int32} (h : wp_X10_again (fun o0 o1 o2 o3 => (o0, o1, o2, o3) = F_X10_again p0 bY bU oX qG xD vJ uI -> Q o0 o1 o2 o3) p0 bY bU oX qG xD vJ uI) : wp_X10_again Q p0 bY bU oX qG xD vJ uI := dt_X10_again h (fun o eo hp => hp eo)
