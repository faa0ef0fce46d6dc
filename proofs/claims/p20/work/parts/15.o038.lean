section
variable {P Q : Int32 → Int32 → Int32 → Int32 → Nat → Int32 → Int32 → Int32 → Int32 → Int32 → Int32 → Int32 → Int32 → Int32 → Int32 → Int32 → (Nat → Int32) → (Nat → Int32) → (Nat → Int32) → (Nat → Int32) → (Nat → Int32) → Prop} {bT aG jC bL bY m_length oF rP dQ bW bZ aR aE bI aW bU fJ ap ba gr br la he td cl rl und free ros l9 fr9 sd9 pl sp : Int32} {jD : Nat} {qG m_x gR pW qR nG oO pJ qO sW qQ uL vF wJ x h w r ft fk st rg rs rp sg cells ron xa : Nat → Int32} {R9 : Int32 × (Nat → Int32) × Int32 × Int32 × Int32 × Int32 × Int32 × Int32 × Int32 × Int32 × Int32 × Int32 × Int32 × (Nat → Int32) × (Nat → Int32) × Int32 × Int32 × (Nat → Int32) × Int32 × (Nat → Int32)} {R : Int32 × (Nat → Int32) × Int32}
theorem day_rel (T : TR bT aG x h w r ft fk m_x gR pW qR nG oO) (hst2 : ∀ k : Nat, k < 5 → st k = pJ k) (ht : ∀ k : Nat, k = 3 → 0 ≤ Int32.toInt (pJ k) ∧ Int32.toInt (pJ k) ≤ 9) (hm : MR bT aG ap ba gr br la he td qG) (hu : UR bT aG und free bU cells uL) (hs : ∀ k : Nat, sg k = qO k &&& 255) (hl : 0 ≤ jC.toInt ∧ jC.toInt ≤ 80) (e9 : R9 = (aM7 xa jC pl sp sg bT aG x h w r ft fk st ap ba gr br la he td cl rl rg rs rp und free cells ros ron)) (hq : ∀ (o0 o1 o2 o3 : Int32) (o4 : Nat) (o5 o6 o7 o8 o9 o10 o11 o12 o13 o14 o15 : Int32) (o16 o17 o18 o19 o20 : Nat → Int32), P o0 o1 o2 o3 o4 o5 o6 o7 o8 o9 o10 o11 o12 o13 o14 o15 o16 o17 o18 o19 o20 → (R9.1 = o0 ∧ MR bT aG R9.2.2.2.2.2.1 R9.2.2.2.2.2.2.1 R9.2.2.2.2.2.2.2.1 R9.2.2.2.2.2.2.2.2.1 R9.2.2.2.2.2.2.2.2.2.1 R9.2.2.2.2.2.2.2.2.2.2.1 R9.2.2.2.2.2.2.2.2.2.2.2.1 o16 ∧ UR bT aG R9.2.2.2.2.2.2.2.2.2.2.2.2.2.2.2.1 R9.2.2.2.2.2.2.2.2.2.2.2.2.2.2.2.2.1 o14 R9.2.2.2.2.2.2.2.2.2.2.2.2.2.2.2.2.2.1 o18) → Q o0 o1 o2 o3 o4 o5 o6 o7 o8 o9 o10 o11 o12 o13 o14 o15 o16 o17 o18 o19 o20) (h9 : wp_X10_day P bT aG jC bL bY jD m_length oF rP dQ bW bZ aR aE bI aW bU fJ qG m_x gR pW qR nG oO pJ qO sW qQ uL vF wJ) : wp_X10_day Q bT aG jC bL bY jD m_length oF rP dQ bW bZ aR aE bI aW bU fJ qG m_x gR pW qR nG oO pJ qO sW qQ uL vF wJ := by
  have l0 : Int32.toInt (0 : Int32) = 0 := by decide
  have hst := stp_r jC 60
  have l60 : Int32.toInt (60 : Int32) = 60 := by decide
  unfold wp_X10_day at h9 ⊢
  refine du_X10_begin h9 ?_
  intro h9
  rw [aM7, show aJ0 60 jC pl sp = (0, stp jC 60) from rfl] at e9
  refine And.intro (fun c1 => ?_) (fun c1 => ?_)
  · have h9 := And.left h9 c1
    have c1 : jC ≤ 0 := c1
    have d := (aAO _ _).mp c1
    have e0 : jC = 0 := i32 (by omega)
    rw [if_pos e0] at e9
    unfold ws_X10_day_38 at h9 ⊢
    obtain ⟨n, h9⟩ := h9
    refine ⟨n, ?_⟩
    exact dayA (R := (0, xa, 0)) hs hl.2 (by decide) (day_f T hst2 ht hm hu hl e9 hq) n 0 0 0 (-1) wJ (Or.inr ⟨rfl, Or.inl ⟨rfl, by decide, rfl, rfl, ⟨by decide, by omega⟩, ar0⟩⟩) h9
  · have h9 := And.right h9 c1
    have c1 : ¬ jC ≤ 0 := c1
    have e0 : ¬ jC = 0 := fun e => c1 (by rw [e]; decide)
    rw [if_neg e0] at e9
    unfold ws_X10_day_38 at h9 ⊢
    obtain ⟨n, h9⟩ := h9
    refine ⟨n, ?_⟩
    exact dayA (R := F_X9_readActs xa 0 (stp jC 60) sg) hs hl.2 (by decide) (day_f T hst2 ht hm hu hl e9 hq) n 0 1 0 (-1) wJ (Or.inl ⟨n10, rfl, 31, xa, rfl, by decide, by decide, by decide, by decide, by omega, ar0⟩) h9
end
