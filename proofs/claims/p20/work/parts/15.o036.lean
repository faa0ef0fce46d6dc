section
variable {P Q : Int32 → Int32 → Int32 → Int32 → Nat → Int32 → Int32 → Int32 → Int32 → Int32 → Int32 → Int32 → Int32 → Int32 → Int32 → Int32 → (Nat → Int32) → (Nat → Int32) → (Nat → Int32) → (Nat → Int32) → (Nat → Int32) → Prop} {bT aG jC bL bY m_length oF rP dQ bW bZ aR aE bI aW bU fJ ap ba gr br la he td cl rl und free ros l9 fr9 sd9 pl sp : Int32} {jD : Nat} {qG m_x gR pW qR nG oO pJ qO sW qQ uL vF wJ x h w r ft fk st rg rs rp sg cells ron xa : Nat → Int32} {R9 : Int32 × (Nat → Int32) × Int32 × Int32 × Int32 × Int32 × Int32 × Int32 × Int32 × Int32 × Int32 × Int32 × Int32 × (Nat → Int32) × (Nat → Int32) × Int32 × Int32 × (Nat → Int32) × Int32 × (Nat → Int32)} {R : Int32 × (Nat → Int32) × Int32}
theorem day_yes {x1 at1 : Int32} {ma : Nat → Int32} (T : TR bT aG x h w r ft fk m_x gR pW qR nG oO) (hst2 : ∀ k : Nat, k < 5 → st k = pJ k) (ht : ∀ k : Nat, k = 3 → 0 ≤ Int32.toInt (pJ k) ∧ Int32.toInt (pJ k) ≤ 9) (hm : MR bT aG ap ba gr br la he td qG) (hu : UR bT aG und free bU cells uL) (hq : ∀ (o0 o1 o2 o3 : Int32) (o4 : Nat) (o5 o6 o7 o8 o9 o10 o11 o12 o13 o14 o15 : Int32) (o16 o17 o18 o19 o20 : Nat → Int32), P o0 o1 o2 o3 o4 o5 o6 o7 o8 o9 o10 o11 o12 o13 o14 o15 o16 o17 o18 o19 o20 → (R9.1 = o0 ∧ MR bT aG R9.2.2.2.2.2.1 R9.2.2.2.2.2.2.1 R9.2.2.2.2.2.2.2.1 R9.2.2.2.2.2.2.2.2.1 R9.2.2.2.2.2.2.2.2.2.1 R9.2.2.2.2.2.2.2.2.2.2.1 R9.2.2.2.2.2.2.2.2.2.2.2.1 o16 ∧ UR bT aG R9.2.2.2.2.2.2.2.2.2.2.2.2.2.2.2.1 R9.2.2.2.2.2.2.2.2.2.2.2.2.2.2.2.2.1 o14 R9.2.2.2.2.2.2.2.2.2.2.2.2.2.2.2.2.2.1 o18) → Q o0 o1 o2 o3 o4 o5 o6 o7 o8 o9 o10 o11 o12 o13 o14 o15 o16 o17 o18 o19 o20) (hx : 0 ≤ x1.toInt ∧ x1.toInt ≤ 30) {xb : Nat → Int32} (hA : AR x1.toInt.toNat xb ma) {R2 : Int32 × Int32 × Int32 × Int32 × Int32 × Int32 × Int32 × Int32 × Int32 × (Nat → Int32) × (Nat → Int32) × Int32 × Int32 × (Nat → Int32) × Int32 × (Nat → Int32)} (e2 : R2 = aHg x1 xb bT aG x h w r ft fk st ap ba gr br la he td cl rl rg rs rp und free cells ros ron) {p0 p1 p2 : Int32} (e9 : R9 = (R2.1, xb, p0, p1, p2, R2.2.1, R2.2.2.1, R2.2.2.2.1, R2.2.2.2.2.1, R2.2.2.2.2.2.1, R2.2.2.2.2.2.2.1, R2.2.2.2.2.2.2.2.1, R2.2.2.2.2.2.2.2.2.1, R2.2.2.2.2.2.2.2.2.2.1, R2.2.2.2.2.2.2.2.2.2.2.1, R2.2.2.2.2.2.2.2.2.2.2.2.1, R2.2.2.2.2.2.2.2.2.2.2.2.2.1, R2.2.2.2.2.2.2.2.2.2.2.2.2.2.1, R2.2.2.2.2.2.2.2.2.2.2.2.2.2.2.1, R2.2.2.2.2.2.2.2.2.2.2.2.2.2.2.2)) (h9 : ws_X10_day_89 P bT aG bW m_x gR pW qR nG oO pJ qO qQ x1 0 bL 0 1 jC 60 at1 (-1) bZ aR aE bI aW bU fJ qG sW uL vF ma) : ws_X10_day_89 Q bT aG bW m_x gR pW qR nG oO pJ qO qQ x1 0 bL 0 1 jC 60 at1 (-1) bZ aR aE bI aW bU fJ qG sW uL vF ma := by
  have l0 : Int32.toInt (0 : Int32) = 0 := by decide
  have bf := T.2.2.1
  unfold ws_X10_day_89 at h9 ⊢
  refine du_X10_fine h9 ?_
  intro h9
  refine And.intro (fun e => ?_) (fun e => absurd e fine_m)
  have h9 := And.left h9 e
  refine du_X10_lay_b2 h9 ?_
  intro h9
  obtain ⟨n, h9⟩ := h9
  refine ⟨n, ?_⟩
  rw [aHg] at e2
  have la9 := (lay2_v (p := 0) (now := qG) (u := vF) (by decide)).1
  have hma : MR bT aG ap ba gr br la he td (F_X10_lay_b2 0 qG vF) := MR_c hm bf.2 (fun j hj => by have := la9 j hj; rw [show (Int32.toInt (0 : Int32)).toNat + j = j by rw [l0]; omega] at this; exact this)
  refine dayB (R := R2) (x1 := x1) T hst2 ht hx hA ?_ n 31 0 0 ap ba gr br la he td cl rg rs _ _ _ _ _ _ _ _ _ _ _ _ e2 (by decide) (by decide) hm h9
  intro x3 rd le to at2 wr ia af as1 ah aa pk now hF h0 h9
  obtain ⟨f1, f2, f3, f4⟩ := hF
  unfold ws_X10_day_158 at h9 ⊢
  refine And.intro (fun c => ?_) (fun c => ?_)
  · have d := (aAO _ _).mp c
    refine day_e hq ?_ (And.left h9 c)
    rcases f4 with ⟨_, g1, g2⟩ | ⟨g0, _, _⟩
    · rw [e9]
      refine ⟨f1, f2, ?_⟩
      show UR bT aG R2.2.2.2.2.2.2.2.2.2.2.2.1 R2.2.2.2.2.2.2.2.2.2.2.2.2.1 bU R2.2.2.2.2.2.2.2.2.2.2.2.2.2.1 uL
      rw [g1, g2, f3]
      exact UR_note hu bf.2
    · exfalso; omega
  · have d := mt (aAO _ _).mpr c
    have h9 := And.right h9 c
    refine du_X10_remember_b2 h9 ?_
    intro h9
    refine day_e hq ?_ h9
    rcases f4 with ⟨g0, _, _⟩ | ⟨_, g1, g2⟩
    · exfalso; omega
    · rw [e9]
      refine ⟨f1, f2, ?_⟩
      show UR bT aG R2.2.2.2.2.2.2.2.2.2.2.2.1 R2.2.2.2.2.2.2.2.2.2.2.2.2.1 _ R2.2.2.2.2.2.2.2.2.2.2.2.2.2.1 _
      rw [g1, g2, f3, rem2_eq]
      exact UR_hold hu bf.2 hma
end
