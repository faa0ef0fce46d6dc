abbrev gpk (ws : va_W) (is : List Nat) : va_W := is.filterMap (fun i => ws[i]?)
