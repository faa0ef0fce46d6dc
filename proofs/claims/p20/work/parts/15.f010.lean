section
variable {fr sd : Int32} {x h w r ft fk mx mh mw mr mf mk st told : Nat → Int32}
theorem rch_eq (hst : ∀ k : Nat, k < 5 → st k = told k) (a b : Int32) : F_X3_reach a b st = F_X10_reachBy a b told := by
  rw [F_X3_reach, F_X10_reachBy, hst _ (by decide), hst _ (by decide), hst _ (by decide)]
end
