section
variable {P Q : Int32 → Nat → Int32 → Int32 → Int32 → Int32 → Int32 → Int32 → Int32 → Int32 → Int32 → Int32 → (Nat → Int32) → Prop} {bT aG m_length oF rP dQ bW bZ aR aE bI aW fJ ap ba gr br la he td cl rl : Int32} {jD : Nat} {qG m_x gR pW qR nG oO pJ qO qQ x h w r ft fk st rg rs rp : Nat → Int32}
theorem act_w {c v mv : Int32} (hac : DAC c v mv) (T : TR bT aG x h w r ft fk m_x gR pW qR nG oO) (hst2 : ∀ k : Nat, k < 5 → st k = pJ k) (ht : ∀ k : Nat, k = 3 → 0 ≤ Int32.toInt (pJ k) ∧ Int32.toInt (pJ k) ≤ 9) (hm : MR bT aG ap ba gr br la he td qG) (h9 : aVD P c mv bT aG jD m_length oF rP dQ bW bZ aR aE bI aW fJ qG m_x gR pW qR nG oO pJ qO qQ) (hq : ∀ (o0 : Int32) (o1 : Nat) (o2 o3 o4 o5 o6 o7 o8 o9 o10 o11 : Int32) (o12 : Nat → Int32), P o0 o1 o2 o3 o4 o5 o6 o7 o8 o9 o10 o11 o12 → (((o0 = 0 ∧ Int32.toInt (aCI c v bT aG x h w r ft fk st ap ba gr br la he td cl rl rg rs rp).1 < 0) ∨ (¬ o0 = 0 ∧ 0 ≤ Int32.toInt (aCI c v bT aG x h w r ft fk st ap ba gr br la he td cl rl rg rs rp).1)) ∧ MR bT aG (aCI c v bT aG x h w r ft fk st ap ba gr br la he td cl rl rg rs rp).2.1 (aCI c v bT aG x h w r ft fk st ap ba gr br la he td cl rl rg rs rp).2.2.1 (aCI c v bT aG x h w r ft fk st ap ba gr br la he td cl rl rg rs rp).2.2.2.1 (aCI c v bT aG x h w r ft fk st ap ba gr br la he td cl rl rg rs rp).2.2.2.2.1 (aCI c v bT aG x h w r ft fk st ap ba gr br la he td cl rl rg rs rp).2.2.2.2.2.1 (aCI c v bT aG x h w r ft fk st ap ba gr br la he td cl rl rg rs rp).2.2.2.2.2.2.1 (aCI c v bT aG x h w r ft fk st ap ba gr br la he td cl rl rg rs rp).2.2.2.2.2.2.2.1 o12) → Q o0 o1 o2 o3 o4 o5 o6 o7 o8 o9 o10 o11 o12) : aVD Q c mv bT aG jD m_length oF rP dQ bW bZ aR aE bI aW fJ qG m_x gR pW qR nG oO pJ qO qQ := by
  rcases hac with ⟨rfl, _, rfl⟩ | ⟨rfl | rfl, _, rfl⟩ | ⟨rfl | rfl | rfl | rfl | rfl, rfl⟩
  · exact act_109 T hst2 ht hm h9 hq
  · exact act_112 T hst2 ht hm h9 hq
  · exact act_104 T hst2 ht hm h9 hq
  · exact act_97 T hst2 ht hm h9 hq
  · exact act_100 T hst2 ht hm h9 hq
  · exact act_107 T hst2 ht hm h9 hq
  · exact act_111 T hst2 ht hm h9 hq
  · exact act_122 T hst2 ht hm h9 hq
end
