section
variable {fr sd : Int32} {x h w r ft fk mx mh mw mr mf mk st told : Nat → Int32}
theorem wi_eq (T : TR fr sd x h w r ft fk mx mh mw mr mf mk) (hst : ∀ k : Nat, k < 5 → st k = told k) {s : Int32} (a b : Int32) (hs : 0 ≤ s.toInt ∧ s.toInt < sd.toInt) : F_X3_within s (F_X3_reach a b st) fr x h ft fk = aLM s a b fr mx mh mf mk told := by
  rw [F_X3_within, aLM, ex_X3_within_5, ex_X10_reachedFrom_6, rch_eq hst]
  have bf := T.2.2.1
  refine itr_cg _ (fun k s2 hk => ?_)
  have i := (nI_0c (k := k) (by omega)).2
  rw [bd_X3_within_5, bBb, iw_eq T _ (by omega) hs, j_X3_within_32, j_X3_within_32, j_X10_reachedFrom_41, j_X10_reachedFrom_41, or0]
end
