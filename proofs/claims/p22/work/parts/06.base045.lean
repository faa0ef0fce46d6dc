theorem mx_e (l : List Nat) (w : Nat × va_E) (ws : va_W) : (l.map (fun i => i + 1)).map (fun i => (w :: ws)[i]?) = l.map (fun i => ws[i]?) := by
  rw [List.map_map]
  rfl
