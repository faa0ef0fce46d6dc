section
variable {P Q : Int32 → Int32 → Int32 → Int32 → Nat → Int32 → Int32 → Int32 → Int32 → Int32 → Int32 → Int32 → Int32 → Int32 → Int32 → Int32 → (Nat → Int32) → (Nat → Int32) → (Nat → Int32) → (Nat → Int32) → (Nat → Int32) → Prop} {bT aG jC bL bY m_length oF rP dQ bW bZ aR aE bI aW bU fJ ap ba gr br la he td cl rl und free ros l9 fr9 sd9 pl sp : Int32} {jD : Nat} {qG m_x gR pW qR nG oO pJ qO sW qQ uL vF wJ x h w r ft fk st rg rs rp sg cells ron xa : Nat → Int32} {R9 : Int32 × (Nat → Int32) × Int32 × Int32 × Int32 × Int32 × Int32 × Int32 × Int32 × Int32 × Int32 × Int32 × Int32 × (Nat → Int32) × (Nat → Int32) × Int32 × Int32 × (Nat → Int32) × Int32 × (Nat → Int32)} {R : Int32 × (Nat → Int32) × Int32}
theorem day_f (T : TR bT aG x h w r ft fk m_x gR pW qR nG oO) (hst2 : ∀ k : Nat, k < 5 → st k = pJ k) (ht : ∀ k : Nat, k = 3 → 0 ≤ Int32.toInt (pJ k) ∧ Int32.toInt (pJ k) ≤ 9) (hm : MR bT aG ap ba gr br la he td qG) (hu : UR bT aG und free bU cells uL) (hl : 0 ≤ jC.toInt ∧ jC.toInt ≤ 80) (e9 : R9 = j_X9_day_27 (fun o0 o1 o2 o3 o4 o5 o6 o7 o8 o9 o10 o11 o12 o13 o14 o15 o16 o17 o18 o19 => (o0, o1, o2, o3, o4, o5, o6, o7, o8, o9, o10, o11, o12, o13, o14, o15, o16, o17, o18, o19)) sg bT aG x h w r ft fk st rl rp R.1 R.2.1 jC R.2.2 (stp jC 60) ap ba gr br la he td cl rg rs und free cells ros ron) (hq : ∀ (o0 o1 o2 o3 : Int32) (o4 : Nat) (o5 o6 o7 o8 o9 o10 o11 o12 o13 o14 o15 : Int32) (o16 o17 o18 o19 o20 : Nat → Int32), P o0 o1 o2 o3 o4 o5 o6 o7 o8 o9 o10 o11 o12 o13 o14 o15 o16 o17 o18 o19 o20 → (R9.1 = o0 ∧ MR bT aG R9.2.2.2.2.2.1 R9.2.2.2.2.2.2.1 R9.2.2.2.2.2.2.2.1 R9.2.2.2.2.2.2.2.2.1 R9.2.2.2.2.2.2.2.2.2.1 R9.2.2.2.2.2.2.2.2.2.2.1 R9.2.2.2.2.2.2.2.2.2.2.2.1 o16 ∧ UR bT aG R9.2.2.2.2.2.2.2.2.2.2.2.2.2.2.2.1 R9.2.2.2.2.2.2.2.2.2.2.2.2.2.2.2.2.1 o14 R9.2.2.2.2.2.2.2.2.2.2.2.2.2.2.2.2.2.1 o18) → Q o0 o1 o2 o3 o4 o5 o6 o7 o8 o9 o10 o11 o12 o13 o14 o15 o16 o17 o18 o19 o20) (x1 at1 wr : Int32) (ma : Nat → Int32) (hF : FinR R (stp jC 60) x1 at1 wr ma) (h9 : ws_X10_day_70 P bT aG bW m_x gR pW qR nG oO pJ qO qQ x1 0 bL 0 1 jC 60 at1 wr bZ aR aE bI aW bU fJ qG sW uL vF ma) : ws_X10_day_70 Q bT aG bW m_x gR pW qR nG oO pJ qO qQ x1 0 bL 0 1 jC 60 at1 wr bZ aR aE bI aW bU fJ qG sW uL vF ma := by
  have hst := stp_r jC 60
  unfold ws_X10_day_70 at h9 ⊢
  rw [j_X9_day_27] at e9
  rcases hF with ⟨f1, f2, f3, rfl, f5, f6⟩ | ⟨f1, f2, f3⟩
  · have k : ¬ R.1 = -1 := ne_m1 (by rw [f1]; omega)
    rw [if_neg k, F_X8_isThrough] at e9
    refine And.intro (fun c => ?_) (fun c => ?_)
    · have d := (aAO _ _).mp c
      have k2 : R.2.2 = jC := i32 (by rw [f3]; omega)
      rw [if_pos k2, if_neg n10, j_X9_day_48, if_neg n10, j_X9_day_68, f1] at e9
      exact day_yes T hst2 ht hm hu hq f2 f6 rfl e9 (And.left h9 c)
    · have d := mt (aAO _ _).mpr c
      have k2 : ¬ R.2.2 = jC := fun e => by rw [f3] at e; have := congrArg Int32.toInt e; omega
      rw [if_neg k2, if_pos rfl, j_X9_day_47, j_X9_day_48, if_pos rfl, j_X9_day_68, F_X8_wrong, f3] at e9
      have h9 := And.right h9 c
      refine du_X10_fault h9 ?_
      intro h9
      rw [fault_m] at h9 ⊢
      exact day_no hm hu hq f5.1 e9 h9
  · rw [if_pos f1, j_X9_day_47, j_X9_day_48, if_pos rfl, j_X9_day_68, F_X8_wrong, ← f2] at e9
    refine And.intro (fun c => ?_) (fun c => ?_)
    · exact day_no hm hu hq f3 e9 (And.left h9 c)
    · have h9 := And.right h9 c
      refine du_X10_fault h9 ?_
      intro h9
      rw [fault_w (ne_m1 f3)] at h9 ⊢
      exact day_no hm hu hq f3 e9 h9
end
