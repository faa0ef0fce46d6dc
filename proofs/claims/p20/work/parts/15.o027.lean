section
variable {bT aG ap ba gr br la he td cl rl x1 x2 x3 x4 x5 und free ros : Int32} {x h w r ft fk st rg rs rp xa cells ron : Nat → Int32} {nx : Int32 → Int32 → Int32 → Int32 → Int32 → Int32 → Int32 → Int32 → Int32 → Int32 → Int32 → Int32 → Int32 → (Nat → Int32) → (Nat → Int32) → Int32 → Int32 → (Nat → Int32) → Int32 → (Nat → Int32) → (Int32 × Int32 × Int32 × Int32 × Int32 × Int32 × Int32 × Int32 × Int32 × (Nat → Int32) × (Nat → Int32) × Int32 × Int32 × (Nat → Int32) × Int32 × (Nat → Int32))}
theorem ds_go {c v d0 d1 d2 d3 d4 d5 d6 d7 d8 : Int32} {d9 d10 : Nat → Int32} (c1 : ¬ x1 ≤ x5) (c2 : ¬ (30 : Int32) ≤ x5) (ec : xa x5.toNatClampNeg / 100 = c) (ev : xa x5.toNatClampNeg - c * 100 = v) (ed : (aCI c v bT aG x h w r ft fk st ap ba gr br la he td cl rl rg rs rp) = (d0, d1, d2, d3, d4, d5, d6, d7, d8, d9, d10)) : (d0.toInt < 0 → fs_X9_doActs_21 (fun o0 o1 o2 o3 o4 o5 o6 o7 o8 o9 o10 o11 o12 o13 o14 o15 => (o0, o1, o2, o3, o4, o5, o6, o7, o8, o9, o10, o11, o12, o13, o14, o15)) xa bT aG x h w r ft fk st rl rp nx x1 x2 x3 0 x5 ap ba gr br la he td cl rg rs und free cells ros ron = nx x1 x2 x3 1 (x5 + 1) d1 d2 d3 d4 d5 d6 d7 d8 d9 d10 und free cells ros ron) ∧ (0 ≤ d0.toInt → ∃ k : Int32, fs_X9_doActs_21 (fun o0 o1 o2 o3 o4 o5 o6 o7 o8 o9 o10 o11 o12 o13 o14 o15 => (o0, o1, o2, o3, o4, o5, o6, o7, o8, o9, o10, o11, o12, o13, o14, o15)) xa bT aG x h w r ft fk st rl rp nx x1 x2 x3 0 x5 ap ba gr br la he td cl rg rs und free cells ros ron = nx x1 (x2 + 1) k 0 (x5 + 1) d1 d2 d3 d4 d5 d6 d7 d8 d9 d10 und free cells ros ron) := by
  have l0 : Int32.toInt (0 : Int32) = 0 := by decide
  rw [fs_X9_doActs_21, if_neg c1, if_neg c2, if_pos (rfl : (0 : Int32) = 0), ec, ev, ed]
  refine And.intro (fun h => ?_) (fun h => ?_)
  · have k : ¬ (0 : Int32) ≤ d0 := fun e => by have := (aAO _ _).mp e; omega
    rw [if_neg (k : ¬ (0 : Int32) ≤ (d0, d1, d2, d3, d4, d5, d6, d7, d8, d9, d10).1), j_X9_doActs_101]
  · have k : (0 : Int32) ≤ d0 := (aAO _ _).mpr (by omega)
    rw [if_pos (k : (0 : Int32) ≤ (d0, d1, d2, d3, d4, d5, d6, d7, d8, d9, d10).1)]
    by_cases e1 : c = 112
    · rw [if_pos e1, j_X9_doActs_94, j_X9_doActs_99, j_X9_doActs_101]; exact ⟨_, rfl⟩
    · rw [if_neg e1]
      by_cases e2 : c = 104
      · rw [if_pos e2, j_X9_doActs_94, j_X9_doActs_99, j_X9_doActs_101]; exact ⟨_, rfl⟩
      · rw [if_neg e2, j_X9_doActs_99, j_X9_doActs_101]; exact ⟨_, rfl⟩
end
