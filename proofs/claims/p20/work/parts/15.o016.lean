section
variable {P Q : Int32 → Int32 → Int32 → Int32 → Nat → Int32 → Int32 → Int32 → Int32 → Int32 → Int32 → Int32 → Int32 → Int32 → Int32 → Int32 → (Nat → Int32) → (Nat → Int32) → (Nat → Int32) → (Nat → Int32) → (Nat → Int32) → Prop} {bT aG bW l t ty rm th bZ aR aE bI aW bU fJ : Int32} {m_x gR pW qR nG oO pJ qO qQ qG sW uL vF sg : Nat → Int32} {R : Int32 × (Nat → Int32) × Int32}
theorem dayA (hs : ∀ k : Nat, sg k = qO k &&& 255) (hl : l.toInt ≤ 80) (ht : t.toInt ≤ 60) (hq : ∀ (x1 at1 wr : Int32) (ma : Nat → Int32), FinR R (stp l t) x1 at1 wr ma → ws_X10_day_70 P bT aG bW m_x gR pW qR nG oO pJ qO qQ x1 ty rm th 1 l t at1 wr bZ aR aE bI aW bU fJ qG sW uL vF ma → ws_X10_day_70 Q bT aG bW m_x gR pW qR nG oO pJ qO qQ x1 ty rm th 1 l t at1 wr bZ aR aE bI aW bU fJ qG sW uL vF ma) :
    ∀ (n : Nat) (x1 x2 at1 wr : Int32) (ma : Nat → Int32), DI R l t x1 x2 at1 wr sg ma → wb_X10_day_39 P bT aG bW m_x gR pW qR nG oO pJ qO qQ n x1 x2 ty rm th 1 l t at1 wr bZ aR aE bI aW bU fJ qG sW uL vF ma → wb_X10_day_39 Q bT aG bW m_x gR pW qR nG oO pJ qO qQ n x1 x2 ty rm th 1 l t at1 wr bZ aR aE bI aW bU fJ qG sW uL vF ma := by
  intro n
  induction n with
  | zero => intro x1 x2 at1 wr ma _ h; exact False.elim h
  | succ n ih =>
    intro x1 x2 at1 wr ma hI h
    have h : ws_X10_day_39 P (wb_X10_day_39 P bT aG bW m_x gR pW qR nG oO pJ qO qQ n) bT aG bW m_x gR pW qR nG oO pJ qO qQ x1 x2 ty rm th 1 l t at1 wr bZ aR aE bI aW bU fJ qG sW uL vF ma := h
    show ws_X10_day_39 Q (wb_X10_day_39 Q bT aG bW m_x gR pW qR nG oO pJ qO qQ n) bT aG bW m_x gR pW qR nG oO pJ qO qQ x1 x2 ty rm th 1 l t at1 wr bZ aR aE bI aW bU fJ qG sW uL vF ma
    unfold ws_X10_day_39 at h ⊢
    rcases hI with ⟨k2, kw, f, xa, eR, g1, g2, g3, g4, g5, g6⟩ | ⟨k2, hF⟩
    · subst kw
      refine And.intro (fun c => absurd c k2) (fun _ => ?_)
      have h := And.right h k2
      refine du_X10_fine h ?_
      intro h
      refine And.intro (fun c => absurd c fine_m) (fun c => ?_)
      have h := And.right h c
      refine ae ?_
      have h := h _ rfl
      refine du_X10_readAct h ?_
      intro h
      refine ae ?_
      have h := h _ rfl
      refine du_X10_passes h ?_
      intro h
      exact ih _ _ _ _ _ (di_step hs hl ht eR g1 g2 g3 g4 g5 g6) h
    · refine And.intro (fun _ => hq _ _ _ _ hF (And.left h k2)) (fun c => absurd k2 c)
end
