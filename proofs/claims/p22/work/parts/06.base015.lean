theorem gN.same {s U : State} (hv : s.vm = U.vm) (h : gN s) : gN U := by
  intro w hw
  have hk : WN_kind w = true := List.all_eq_true.mp WN_ok w hw
  have h1 := h w hw
  cases w <;> first | exact va_Nw.same rfl hv h1 | exact absurd hk (by simp [WN_kind])
