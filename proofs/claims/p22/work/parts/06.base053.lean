theorem zW (ms : List Bool) : g_dis (aAi ms) (yS ms) = true := by
  refine List.all_eq_true.mpr (fun i hi => ?_)
  have h : ¬ i ∈ yS ms := dis_FT ms i hi
  simp [h]
