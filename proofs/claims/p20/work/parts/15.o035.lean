section
variable {P Q : Int32 → Int32 → Int32 → Int32 → Nat → Int32 → Int32 → Int32 → Int32 → Int32 → Int32 → Int32 → Int32 → Int32 → Int32 → Int32 → (Nat → Int32) → (Nat → Int32) → (Nat → Int32) → (Nat → Int32) → (Nat → Int32) → Prop} {bT aG jC bL bY m_length oF rP dQ bW bZ aR aE bI aW bU fJ ap ba gr br la he td cl rl und free ros l9 fr9 sd9 pl sp : Int32} {jD : Nat} {qG m_x gR pW qR nG oO pJ qO sW qQ uL vF wJ x h w r ft fk st rg rs rp sg cells ron xa : Nat → Int32} {R9 : Int32 × (Nat → Int32) × Int32 × Int32 × Int32 × Int32 × Int32 × Int32 × Int32 × Int32 × Int32 × Int32 × Int32 × (Nat → Int32) × (Nat → Int32) × Int32 × Int32 × (Nat → Int32) × Int32 × (Nat → Int32)} {R : Int32 × (Nat → Int32) × Int32}
theorem day_e {x1 x3 um rm le to at1 wr ia af as1 ah aa pk : Int32} {rd : Nat} {now us asd ma : Nat → Int32} (hq : ∀ (o0 o1 o2 o3 : Int32) (o4 : Nat) (o5 o6 o7 o8 o9 o10 o11 o12 o13 o14 o15 : Int32) (o16 o17 o18 o19 o20 : Nat → Int32), P o0 o1 o2 o3 o4 o5 o6 o7 o8 o9 o10 o11 o12 o13 o14 o15 o16 o17 o18 o19 o20 → (R9.1 = o0 ∧ MR bT aG R9.2.2.2.2.2.1 R9.2.2.2.2.2.2.1 R9.2.2.2.2.2.2.2.1 R9.2.2.2.2.2.2.2.2.1 R9.2.2.2.2.2.2.2.2.2.1 R9.2.2.2.2.2.2.2.2.2.2.1 R9.2.2.2.2.2.2.2.2.2.2.2.1 o16 ∧ UR bT aG R9.2.2.2.2.2.2.2.2.2.2.2.2.2.2.2.1 R9.2.2.2.2.2.2.2.2.2.2.2.2.2.2.2.2.1 o14 R9.2.2.2.2.2.2.2.2.2.2.2.2.2.2.2.2.2.1 o18) → Q o0 o1 o2 o3 o4 o5 o6 o7 o8 o9 o10 o11 o12 o13 o14 o15 o16 o17 o18 o19 o20) (hr : (R9.1 = x3 ∧ MR bT aG R9.2.2.2.2.2.1 R9.2.2.2.2.2.2.1 R9.2.2.2.2.2.2.2.1 R9.2.2.2.2.2.2.2.2.1 R9.2.2.2.2.2.2.2.2.2.1 R9.2.2.2.2.2.2.2.2.2.2.1 R9.2.2.2.2.2.2.2.2.2.2.2.1 now ∧ UR bT aG R9.2.2.2.2.2.2.2.2.2.2.2.2.2.2.2.1 R9.2.2.2.2.2.2.2.2.2.2.2.2.2.2.2.2.1 um R9.2.2.2.2.2.2.2.2.2.2.2.2.2.2.2.2.2.1 us)) (h9 : ws_X10_day_170 P bT aG bW m_x gR pW qR nG oO pJ qO qQ x1 x3 0 rm 0 rd le to at1 wr ia af as1 ah aa um pk now sW us asd ma) : ws_X10_day_170 Q bT aG bW m_x gR pW qR nG oO pJ qO qQ x1 x3 0 rm 0 rd le to at1 wr ia af as1 ah aa um pk now sW us asd ma := by
  unfold ws_X10_day_170 at h9 ⊢
  refine And.intro (fun e => ?_) (fun e => ?_)
  · have h9 := And.left h9 e
    unfold ws_X10_day_186 at h9 ⊢
    refine du_X10_tell h9 ?_
    intro h9
    refine du_X10_tell h9 ?_
    intro h9
    exact hq _ _ _ _ _ _ _ _ _ _ _ _ _ _ _ _ _ _ _ _ _ h9 hr
  · have h9 := And.right h9 e
    unfold ws_X10_day_186 at h9 ⊢
    refine du_X10_tell h9 ?_
    intro h9
    refine du_X10_tell h9 ?_
    intro h9
    exact hq _ _ _ _ _ _ _ _ _ _ _ _ _ _ _ _ _ _ _ _ _ h9 hr
end
