section
variable {bT aG ap ba gr br la he td cl rl x1 x2 x3 x4 x5 und free ros : Int32} {x h w r ft fk st rg rs rp xa cells ron : Nat → Int32} {nx : Int32 → Int32 → Int32 → Int32 → Int32 → Int32 → Int32 → Int32 → Int32 → Int32 → Int32 → Int32 → Int32 → (Nat → Int32) → (Nat → Int32) → Int32 → Int32 → (Nat → Int32) → Int32 → (Nat → Int32) → (Int32 × Int32 × Int32 × Int32 × Int32 × Int32 × Int32 × Int32 × Int32 × (Nat → Int32) × (Nat → Int32) × Int32 × Int32 × (Nat → Int32) × Int32 × (Nat → Int32))}
theorem ds_end (hc : x1 ≤ x5 ∨ (30 : Int32) ≤ x5 ∨ ¬ x4 = 0) : fs_X9_doActs_21 (fun o0 o1 o2 o3 o4 o5 o6 o7 o8 o9 o10 o11 o12 o13 o14 o15 => (o0, o1, o2, o3, o4, o5, o6, o7, o8, o9, o10, o11, o12, o13, o14, o15)) xa bT aG x h w r ft fk st rl rp nx x1 x2 x3 x4 x5 ap ba gr br la he td cl rg rs und free cells ros ron = j_X9_doActs_107 (fun o0 o1 o2 o3 o4 o5 o6 o7 o8 o9 o10 o11 o12 o13 o14 o15 => (o0, o1, o2, o3, o4, o5, o6, o7, o8, o9, o10, o11, o12, o13, o14, o15)) xa bT aG x h w r ft fk st rl rp x2 x3 x4 ap ba gr br la he td cl rg rs und free cells ros ron := by
  rw [fs_X9_doActs_21]
  by_cases c1 : x1 ≤ x5
  · rw [if_pos c1]
  · rw [if_neg c1]
    by_cases c2 : (30 : Int32) ≤ x5
    · rw [if_pos c2]
    · rw [if_neg c2]
      rcases hc with hc | hc | hc
      · exact absurd hc c1
      · exact absurd hc c2
      · rw [if_neg hc]
end
