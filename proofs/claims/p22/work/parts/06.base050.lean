theorem aAl : ∀ ms : List Bool, va_nd (yS ms) = true
  | [] => rfl
  | true :: ms => nd_0 _ (aAl ms)
  | false :: ms => nd_s _ (aAl ms)
