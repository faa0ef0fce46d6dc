section
variable {fr sd : Int32} {x h w r ft fk mx mh mw mr mf mk st told : Nat → Int32}
theorem iw_eq (T : TR fr sd x h w r ft fk mx mh mw mr mf mk) {f s : Int32} (q : Int32) (hf : 0 ≤ f.toInt ∧ f.toInt < fr.toInt) (hs : 0 ≤ s.toInt ∧ s.toInt < sd.toInt) : F_X3_isWithin f s q x h ft fk = bAx f s q mx mh mf mk := by
  obtain ⟨be, bs, bf, bd, bx, bh, bft, bfk⟩ := T
  have cf := cl_n f
  have cs := cl_n s
  obtain ⟨e1, e2, _, _⟩ := be f.toNatClampNeg (by omega)
  obtain ⟨e3, e4⟩ := bs s.toNatClampNeg (by omega)
  rw [F_X3_isWithin, bAx, asd_eq e1 e3 (by rw [e1]; exact bx _) (by rw [e3]; exact bft _), abv_eq e2 e4 (by rw [e2]; exact bh _) (by rw [e4]; exact bfk _)]
end
