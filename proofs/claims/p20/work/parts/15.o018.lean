section
variable {P Q : Int32 → Nat → Int32 → Int32 → Int32 → Int32 → Int32 → Int32 → Int32 → Int32 → Int32 → Int32 → (Nat → Int32) → Prop} {bT aG m_length oF rP dQ bW bZ aR aE bI aW fJ ap ba gr br la he td cl rl : Int32} {jD : Nat} {qG m_x gR pW qR nG oO pJ qO qQ x h w r ft fk st rg rs rp : Nat → Int32}
theorem act_111 {mv : Int32} (T : TR bT aG x h w r ft fk m_x gR pW qR nG oO) (hst2 : ∀ k : Nat, k < 5 → st k = pJ k) (ht : ∀ k : Nat, k = 3 → 0 ≤ Int32.toInt (pJ k) ∧ Int32.toInt (pJ k) ≤ 9) (hm : MR bT aG ap ba gr br la he td qG) (h9 : aVD P 111 mv bT aG jD m_length oF rP dQ bW bZ aR aE bI aW fJ qG m_x gR pW qR nG oO pJ qO qQ) (hq : ∀ (o0 : Int32) (o1 : Nat) (o2 o3 o4 o5 o6 o7 o8 o9 o10 o11 : Int32) (o12 : Nat → Int32), P o0 o1 o2 o3 o4 o5 o6 o7 o8 o9 o10 o11 o12 → (((o0 = 0 ∧ Int32.toInt (aCI 111 0 bT aG x h w r ft fk st ap ba gr br la he td cl rl rg rs rp).1 < 0) ∨ (¬ o0 = 0 ∧ 0 ≤ Int32.toInt (aCI 111 0 bT aG x h w r ft fk st ap ba gr br la he td cl rl rg rs rp).1)) ∧ MR bT aG (aCI 111 0 bT aG x h w r ft fk st ap ba gr br la he td cl rl rg rs rp).2.1 (aCI 111 0 bT aG x h w r ft fk st ap ba gr br la he td cl rl rg rs rp).2.2.1 (aCI 111 0 bT aG x h w r ft fk st ap ba gr br la he td cl rl rg rs rp).2.2.2.1 (aCI 111 0 bT aG x h w r ft fk st ap ba gr br la he td cl rl rg rs rp).2.2.2.2.1 (aCI 111 0 bT aG x h w r ft fk st ap ba gr br la he td cl rl rg rs rp).2.2.2.2.2.1 (aCI 111 0 bT aG x h w r ft fk st ap ba gr br la he td cl rl rg rs rp).2.2.2.2.2.2.1 (aCI 111 0 bT aG x h w r ft fk st ap ba gr br la he td cl rl rg rs rp).2.2.2.2.2.2.2.1 o12) → Q o0 o1 o2 o3 o4 o5 o6 o7 o8 o9 o10 o11 o12) : aVD Q 111 mv bT aG jD m_length oF rP dQ bW bZ aR aE bI aW fJ qG m_x gR pW qR nG oO pJ qO qQ := by
  have l0 : Int32.toInt (0 : Int32) = 0 := by decide
  have bf := T.2.2.1
  obtain ⟨D, eD⟩ : ∃ d, d = (aCI 111 0 bT aG x h w r ft fk st ap ba gr br la he td cl rl rg rs rp) := ⟨_, rfl⟩
  rw [← eD] at hq
  rw [aCI, if_neg (by decide : ¬ (111 : Int32) = 97), if_neg (by decide : ¬ (111 : Int32) = 100), if_neg (by decide : ¬ (111 : Int32) = 104), if_neg (by decide : ¬ (111 : Int32) = 107), if_neg (by decide : ¬ (111 : Int32) = 109), if_pos (rfl : (111 : Int32) = 111)] at eD
  unfold aVD at h9 ⊢
  refine ⟨fun e => absurd e (by decide : ¬ (111 : Int32) = 97), fun e => absurd e (by decide : ¬ (111 : Int32) = 100), fun e => absurd e (by decide : ¬ (111 : Int32) = 104), fun e => absurd e (by decide : ¬ (111 : Int32) = 107), fun e => absurd e (by decide : ¬ (111 : Int32) = 109), fun _ => ?_, fun e => absurd e (by decide : ¬ (111 : Int32) = 112), fun _ =>  fun _ =>  fun _ =>  fun _ =>  fun _ =>  fun e5 =>  fun _ => absurd rfl e5⟩
  have h9 := h9.2.2.2.2.2.1 rfl
  unfold ws_X10_act_176 at h9 ⊢
  refine And.intro (fun _ => ?_) (fun e => absurd e (by decide : ¬ (111 : Int32) = 97))
  have h9 := And.left h9 (by decide : ¬ (111 : Int32) = 97)
  unfold ws_X10_act_193 at h9 ⊢
  refine And.intro (And.left h9) ?_
  have h9 := And.right h9
  have hy : ¬ F_X9_isYesOrNo 0 = 0 := by rw [yn_eq]; decide
  rw [bBa, if_neg hy] at eD
  subst eD
  have h0 : 0 ≤ he.toInt := by rcases hm.2.2.2 with e | e <;> rw [e] <;> decide
  exact hq _ _ _ _ _ _ _ _ _ _ _ _ _ h9 ⟨Or.inr ⟨n10, h0⟩, MQm_18 hm.1 bf.2 0, hm.2.1, hm.2.2.1, Or.inl rfl⟩
end
