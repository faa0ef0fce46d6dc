/-- an array class is known by its name -/
theorem aM6 {D : va_G} {cI cC cZ cB cJ cA : ClassId} {s : State} (h : va_K D classes (tyl cI cC cZ cB cJ ++ [(cA, .int)]) s) : cA = cI := Option.some.inj ((h.2 5 (cA, .int) rfl).2.symm.trans (h.2 0 (cI, .int) rfl).2)
