section
variable {P Q : Int32 → Int32 → Int32 → Int32 → Nat → Int32 → Int32 → Int32 → Int32 → Int32 → Int32 → Int32 → Int32 → Int32 → Int32 → Int32 → (Nat → Int32) → (Nat → Int32) → (Nat → Int32) → (Nat → Int32) → (Nat → Int32) → Prop} {bT aG ap ba gr br la he td cl rl x1 x2 x3 x4 x5 und free ros l t ty rm th bU bW : Int32} {x h w r ft fk st rg rs rp xa cells ron m_x gR pW qR nG oO pJ qO qQ sW uL vF ma : Nat → Int32} {R : Int32 × Int32 × Int32 × Int32 × Int32 × Int32 × Int32 × Int32 × Int32 × (Nat → Int32) × (Nat → Int32) × Int32 × Int32 × (Nat → Int32) × Int32 × (Nat → Int32)}
theorem dayB (T : TR bT aG x h w r ft fk m_x gR pW qR nG oO) (hst2 : ∀ k : Nat, k < 5 → st k = pJ k) (ht : ∀ k : Nat, k = 3 → 0 ≤ Int32.toInt (pJ k) ∧ Int32.toInt (pJ k) ≤ 9) (hx : 0 ≤ x1.toInt ∧ x1.toInt ≤ 30) (hA : AR x1.toInt.toNat xa ma) (hq : ∀ (x3 : Int32) (rd : Nat) (le to at1 wr ia af as1 ah aa pk : Int32) (now : Nat → Int32), FB R bT aG und free cells x3 now → (0 ≤ x3.toInt) → ws_X10_day_158 P bT aG bW m_x gR pW qR nG oO pJ qO qQ x1 x3 ty rm th rd le to at1 wr ia af as1 ah aa bU pk now sW uL vF ma → ws_X10_day_158 Q bT aG bW m_x gR pW qR nG oO pJ qO qQ x1 x3 ty rm th rd le to at1 wr ia af as1 ah aa bU pk now sW uL vF ma) :
    ∀ (n f : Nat) (x3 x3c ap ba gr br la he td cl : Int32) (rg rs : Nat → Int32) (rd : Nat) (le to at1 wr ia af as1 ah aa pk : Int32) (now : Nat → Int32), R = flp (fs_X9_doActs_21 (fun o0 o1 o2 o3 o4 o5 o6 o7 o8 o9 o10 o11 o12 o13 o14 o15 => (o0, o1, o2, o3, o4, o5, o6, o7, o8, o9, o10, o11, o12, o13, o14, o15)) xa bT aG x h w r ft fk st rl rp) (fun _ _ _ _ _ _ _ _ _ _ _ _ _ _ _ _ _ _ _ _ => (0, 0, 0, 0, 0, 0, 0, 0, 0, (fun _ => 0), (fun _ => 0), 0, 0, (fun _ => 0), 0, (fun _ => 0))) f x1 x3 x3c 0 x3 ap ba gr br la he td cl rg rs und free cells ros ron → f + x3.toInt.toNat = 31 → 0 ≤ x3.toInt ∧ x3.toInt ≤ 30 → MR bT aG ap ba gr br la he td now → wb_X10_day_122 P bT aG bW m_x gR pW qR nG oO pJ qO qQ n x1 x3 ty rm th rd le to at1 wr ia af as1 ah aa bU pk now sW uL vF ma → wb_X10_day_122 Q bT aG bW m_x gR pW qR nG oO pJ qO qQ n x1 x3 ty rm th rd le to at1 wr ia af as1 ah aa bU pk now sW uL vF ma := by
  have l1 : Int32.toInt (1 : Int32) = 1 := by decide
  have l2 : Int32.toInt (2 : Int32) = 2 := by decide
  have l30 : Int32.toInt (30 : Int32) = 30 := by decide
  intro n
  induction n with
  | zero => intro f x3 x3c ap ba gr br la he td cl rg rs rd le to at1 wr ia af as1 ah aa pk now _ _ _ _ h; exact False.elim h
  | succ n ih =>
    intro f x3 x3c ap ba gr br la he td cl rg rs rd le to at1 wr ia af as1 ah aa pk now eR hf h3 hm h9
    have h9 : ws_X10_day_122 P (wb_X10_day_122 P bT aG bW m_x gR pW qR nG oO pJ qO qQ n) bT aG bW m_x gR pW qR nG oO pJ qO qQ x1 x3 ty rm th rd le to at1 wr ia af as1 ah aa bU pk now sW uL vF ma := h9
    show ws_X10_day_122 Q (wb_X10_day_122 Q bT aG bW m_x gR pW qR nG oO pJ qO qQ n) bT aG bW m_x gR pW qR nG oO pJ qO qQ x1 x3 ty rm th rd le to at1 wr ia af as1 ah aa bU pk now sW uL vF ma
    unfold ws_X10_day_122 at h9 ⊢
    obtain ⟨g, rfl⟩ : ∃ g, f = g + 1 := ⟨f - 1, by omega⟩
    rw [flp_s] at eR
    by_cases c : x1 ≤ x3
    · refine And.intro (fun _ => ?_) (fun e => absurd c e)
      rw [ds_end (Or.inl c)] at eR
      exact hq _ _ _ _ _ _ _ _ _ _ _ _ _ (fb_j eR hm) h3.1 (And.left h9 c)
    · have d := mt (aAO _ _).mpr c
      refine And.intro (fun e => absurd e c) (fun _ => ?_)
      have h9 := And.right h9 c
      have c2 : ¬ (30 : Int32) ≤ x3 := fun e => by have := (aAO _ _).mp e; omega
      have m2 := ta_cmul 2 x3 l2 (by omega)
      have a2 := aAD (2 * x3) 1 (by omega)
      have ax := aAD x3 1 (by omega)
      have i0 : (2 * x3).toNatClampNeg = 2 * x3.toInt.toNat := by rw [cl_n]; omega
      have i1 : (2 * x3 + 1).toNatClampNeg = 2 * x3.toInt.toNat + 1 := by rw [cl_n]; omega
      obtain ⟨c', v', hac, hw, hc'⟩ := hA x3.toInt.toNat (by omega)
      have r9 := DAC_r hac
      obtain ⟨e1, e2⟩ := dec_a hw r9.1 r9.2
      refine ae ?_
      have h9 := h9 _ rfl
      refine And.intro (And.left h9) ?_
      have h9 := And.right h9
      refine ae ?_
      have h9 := h9 _ rfl
      refine ae ?_
      have h9 := h9 _ rfl
      refine ae ?_
      have h9 := h9 _ rfl
      refine And.intro (And.left h9) ?_
      have h9 := And.right h9
      refine ae ?_
      have h9 := h9 _ rfl
      rw [i0, i1, hc'] at h9 ⊢
      obtain ⟨d0, d1, d2, d3, d4, d5, d6, d7, d8, d9, d10, ed⟩ : ∃ (d0 d1 d2 d3 d4 d5 d6 d7 d8 : Int32) (d9 d10 : Nat → Int32), (aCI c' v' bT aG x h w r ft fk st ap ba gr br la he td cl rl rg rs rp) = (d0, d1, d2, d3, d4, d5, d6, d7, d8, d9, d10) := ⟨_, _, _, _, _, _, _, _, _, _, _, rfl⟩
      refine act_w (rl := rl) (rg := rg) (rs := rs) (rp := rp) (cl := cl) hac T hst2 ht hm h9 ?_
      rw [ed]
      intro o0 o1 o2 o3 o4 o5 o6 o7 o8 o9 o10 o11 o12 hp hr
      obtain ⟨k1, k2⟩ := ds_go (nx := flp (fs_X9_doActs_21 (fun o0 o1 o2 o3 o4 o5 o6 o7 o8 o9 o10 o11 o12 o13 o14 o15 => (o0, o1, o2, o3, o4, o5, o6, o7, o8, o9, o10, o11, o12, o13, o14, o15)) xa bT aG x h w r ft fk st rl rp) (fun _ _ _ _ _ _ _ _ _ _ _ _ _ _ _ _ _ _ _ _ => (0, 0, 0, 0, 0, 0, 0, 0, 0, (fun _ => 0), (fun _ => 0), 0, 0, (fun _ => 0), 0, (fun _ => 0))) g) (x2 := x3) (x3 := x3c) (und := und) (free := free) (cells := cells) (ros := ros) (ron := ron) c c2 e1 e2 ed
      obtain ⟨hr, hm2⟩ := hr
      rcases hr with ⟨r0, s0⟩ | ⟨r0, s0⟩
      · refine And.intro (fun _ => ?_) (fun e => absurd r0 e)
        rw [k1 s0] at eR
        obtain ⟨g', rfl⟩ : ∃ g', g = g' + 1 := ⟨g - 1, by omega⟩
        rw [flp_s, ds_end (Or.inr (Or.inr n10))] at eR
        exact hq _ _ _ _ _ _ _ _ _ _ _ _ _ (fb_j eR hm2) h3.1 (And.left hp r0)
      · refine And.intro (fun e => absurd e r0) (fun _ => ?_)
        refine ae ?_
        have h9 := And.right hp r0 _ rfl
        obtain ⟨k, ek⟩ := k2 s0
        rw [ek] at eR
        exact ih _ _ _ _ _ _ _ _ _ _ _ _ _ _ _ _ _ _ _ _ _ _ _ _ _ eR (by omega) (by omega) hm2 h9
end
