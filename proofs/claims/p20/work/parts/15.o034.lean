section
variable {P Q : Int32 → Int32 → Int32 → Int32 → Nat → Int32 → Int32 → Int32 → Int32 → Int32 → Int32 → Int32 → Int32 → Int32 → Int32 → Int32 → (Nat → Int32) → (Nat → Int32) → (Nat → Int32) → (Nat → Int32) → (Nat → Int32) → Prop} {bT aG jC bL bY m_length oF rP dQ bW bZ aR aE bI aW bU fJ ap ba gr br la he td cl rl und free ros l9 fr9 sd9 pl sp : Int32} {jD : Nat} {qG m_x gR pW qR nG oO pJ qO sW qQ uL vF wJ x h w r ft fk st rg rs rp sg cells ron xa : Nat → Int32} {R9 : Int32 × (Nat → Int32) × Int32 × Int32 × Int32 × Int32 × Int32 × Int32 × Int32 × Int32 × Int32 × Int32 × Int32 × (Nat → Int32) × (Nat → Int32) × Int32 × Int32 × (Nat → Int32) × Int32 × (Nat → Int32)} {R : Int32 × (Nat → Int32) × Int32}
theorem day_no {x1 at1 wr : Int32} {ma : Nat → Int32} (hm : MR bT aG ap ba gr br la he td qG) (hu : UR bT aG und free bU cells uL) (hq : ∀ (o0 o1 o2 o3 : Int32) (o4 : Nat) (o5 o6 o7 o8 o9 o10 o11 o12 o13 o14 o15 : Int32) (o16 o17 o18 o19 o20 : Nat → Int32), P o0 o1 o2 o3 o4 o5 o6 o7 o8 o9 o10 o11 o12 o13 o14 o15 o16 o17 o18 o19 o20 → (R9.1 = o0 ∧ MR bT aG R9.2.2.2.2.2.1 R9.2.2.2.2.2.2.1 R9.2.2.2.2.2.2.2.1 R9.2.2.2.2.2.2.2.2.1 R9.2.2.2.2.2.2.2.2.2.1 R9.2.2.2.2.2.2.2.2.2.2.1 R9.2.2.2.2.2.2.2.2.2.2.2.1 o16 ∧ UR bT aG R9.2.2.2.2.2.2.2.2.2.2.2.2.2.2.2.1 R9.2.2.2.2.2.2.2.2.2.2.2.2.2.2.2.2.1 o14 R9.2.2.2.2.2.2.2.2.2.2.2.2.2.2.2.2.2.1 o18) → Q o0 o1 o2 o3 o4 o5 o6 o7 o8 o9 o10 o11 o12 o13 o14 o15 o16 o17 o18 o19 o20) (hw : 0 ≤ wr.toInt) {xb : Nat → Int32} {p0 p1 p2 : Int32} (e9 : R9 = (-1 - wr, xb, p0, p1, p2, ap, ba, gr, br, la, he, td, cl, rg, rs, und, free, cells, ros, ron)) (h9 : ws_X10_day_89 P bT aG bW m_x gR pW qR nG oO pJ qO qQ x1 0 bL 0 1 jC 60 at1 wr bZ aR aE bI aW bU fJ qG sW uL vF ma) : ws_X10_day_89 Q bT aG bW m_x gR pW qR nG oO pJ qO qQ x1 0 bL 0 1 jC 60 at1 wr bZ aR aE bI aW bU fJ qG sW uL vF ma := by
  unfold ws_X10_day_89 at h9 ⊢
  refine du_X10_fine h9 ?_
  intro h9
  have k := fine_w (ne_m1 hw)
  refine And.intro (fun e => absurd k e) (fun e => ?_)
  have h9 := And.right h9 e
  subst e9
  exact hq _ _ _ _ _ _ _ _ _ _ _ _ _ _ _ _ _ _ _ _ _ h9 ⟨rfl, hm, hu⟩
end
