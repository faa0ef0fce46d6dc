theorem aAk : ∀ ms : List Bool, va_nd (aAi ms) = true
  | [] => rfl
  | true :: ms => nd_s _ (aAk ms)
  | false :: ms => nd_0 _ (aAk ms)
