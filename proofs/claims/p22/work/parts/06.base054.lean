theorem mgk {D : va_G} {cl : List vw_C} {ws wc : va_W} {H : Heap} (hP : va_P D cl ws H) (ms : List Bool) (n : Nat) (h1 : ms.length = n) (h2 : ws.length = n) (e : mT ms ws = wc) : (yS ms).map (fun i => ws[i]?) = wc.map some ∧ (aAi ms).map (fun i => ws[i]?) = (gpk ws (aAi ms)).map some := by
  have hl := h1.trans h2.symm
  have hF := mix_F ms ws hl
  refine ⟨by rw [← e]; exact mix_T ms ws hl, ?_⟩
  rw [show gpk ws (aAi ms) = mF ms ws from g_sub hF]
  exact hF
