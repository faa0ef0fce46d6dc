theorem mix_F : ∀ (ms : List Bool) (ws : va_W), ms.length = ws.length → (aAi ms).map (fun i => ws[i]?) = (mF ms ws).map some
  | [], _, _ => rfl
  | _ :: _, [], h => by simp at h
  | true :: ms, w :: ws, h => by
    have ih := mix_F ms ws (by simpa using h)
    show ((aAi ms).map (fun i => i + 1)).map (fun i => (w :: ws)[i]?) = (mF ms ws).map some
    rw [mx_e, ih]
  | false :: ms, w :: ws, h => by
    have ih := mix_F ms ws (by simpa using h)
    show some w :: ((aAi ms).map (fun i => i + 1)).map (fun i => (w :: ws)[i]?) = some w :: (mF ms ws).map some
    rw [mx_e, ih]
