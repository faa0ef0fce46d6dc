section
variable {P Q : Int32 → Int32 → Int32 → Int32 → Nat → Int32 → Int32 → Int32 → Int32 → Int32 → Int32 → Int32 → Int32 → Int32 → Int32 → Int32 → (Nat → Int32) → (Nat → Int32) → (Nat → Int32) → (Nat → Int32) → (Nat → Int32) → Prop} {bT aG ap ba gr br la he td cl rl x1 x2 x3 x4 x5 und free ros l t ty rm th bU bW : Int32} {x h w r ft fk st rg rs rp xa cells ron m_x gR pW qR nG oO pJ qO qQ sW uL vF ma : Nat → Int32} {R : Int32 × Int32 × Int32 × Int32 × Int32 × Int32 × Int32 × Int32 × Int32 × (Nat → Int32) × (Nat → Int32) × Int32 × Int32 × (Nat → Int32) × Int32 × (Nat → Int32)}
theorem fb_j {now : Nat → Int32} (eR : R = j_X9_doActs_107 (fun o0 o1 o2 o3 o4 o5 o6 o7 o8 o9 o10 o11 o12 o13 o14 o15 => (o0, o1, o2, o3, o4, o5, o6, o7, o8, o9, o10, o11, o12, o13, o14, o15)) xa bT aG x h w r ft fk st rl rp x2 x3 x4 ap ba gr br la he td cl rg rs und free cells ros ron) (hm : MR bT aG ap ba gr br la he td now) : FB R bT aG und free cells x2 now := by
  have l0 : Int32.toInt (0 : Int32) = 0 := by decide
  rw [j_X9_doActs_107] at eR
  by_cases c : x2 ≤ 0
  · have d := (aAO _ _).mp c
    rw [if_pos c, j_X9_doActs_118] at eR
    subst eR
    exact ⟨rfl, hm, rfl, Or.inl ⟨by omega, rfl, rfl⟩⟩
  · have d := mt (aAO _ _).mpr c
    rw [if_neg c, j_X9_doActs_118] at eR
    subst eR
    exact ⟨rfl, hm, rfl, Or.inr ⟨by omega, rfl, rfl⟩⟩
end
