theorem mix_T : ∀ (ms : List Bool) (ws : va_W), ms.length = ws.length → (yS ms).map (fun i => ws[i]?) = (mT ms ws).map some
  | [], _, _ => rfl
  | _ :: _, [], h => by simp at h
  | true :: ms, w :: ws, h => by
    have ih := mix_T ms ws (by simpa using h)
    show some w :: ((yS ms).map (fun i => i + 1)).map (fun i => (w :: ws)[i]?) = some w :: (mT ms ws).map some
    rw [mx_e, ih]
  | false :: ms, w :: ws, h => by
    have ih := mix_T ms ws (by simpa using h)
    show ((yS ms).map (fun i => i + 1)).map (fun i => (w :: ws)[i]?) = (mT ms ws).map some
    rw [mx_e, ih]
