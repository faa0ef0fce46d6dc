/-! the reference's grass(): where a row of standings goes on -/
def GD (rows : Nat → Int32) (n st k s : Int32) : Prop := ∀ a b : Nat, k.toInt ≤ (a : Int) → (a : Int) < n.toInt → (b : Int) < st.toInt → ((a : Int) = k.toInt → (b : Int) < s.toInt) → rows (8 * a + b) ≠ 0 → ((a : Int) = n.toInt - 1 ∨ ∃ o : Nat, (o : Int) < st.toInt ∧ o ≠ b ∧ rows (8 * (a + 1) + o) ≠ 0)
def GD1 (rows : Nat → Int32) (n st k s : Int32) : Prop := ∀ a b : Nat, k.toInt ≤ (a : Int) → (a : Int) < n.toInt → (b : Int) < st.toInt → ((a : Int) = k.toInt → (b : Int) ≤ s.toInt) → rows (8 * a + b) ≠ 0 → ((a : Int) = n.toInt - 1 ∨ ∃ o : Nat, (o : Int) < st.toInt ∧ o ≠ b ∧ rows (8 * (a + 1) + o) ≠ 0)
def SU (rows : Nat → Int32) (n k s o v : Int32) : Prop := v ≠ 0 → (k.toInt = n.toInt - 1 ∨ ∃ j : Nat, (j : Int) < o.toInt ∧ (j : Int) ≠ s.toInt ∧ rows (8 * (k.toInt.toNat + 1) + j) ≠ 0)
def SU1 (rows : Nat → Int32) (n k s o v : Int32) : Prop := v ≠ 0 → (k.toInt = n.toInt - 1 ∨ ∃ j : Nat, (j : Int) ≤ o.toInt ∧ (j : Int) ≠ s.toInt ∧ rows (8 * (k.toInt.toNat + 1) + j) ≠ 0)
def AL (rows : Nat → Int32) (v s : Int32) : Prop := v ≠ 0 → ∃ j : Nat, (j : Int) < s.toInt ∧ rows j ≠ 0
def AL1 (rows : Nat → Int32) (v s : Int32) : Prop := v ≠ 0 → ∃ j : Nat, (j : Int) ≤ s.toInt ∧ rows j ≠ 0
def NX (rows : Nat → Int32) (n st k last v : Int32) : Prop := v ≠ 0 → k.toInt < n.toInt → ∃ j : Nat, (j : Int) < st.toInt ∧ (j : Int) ≠ last.toInt ∧ rows (8 * k.toInt.toNat + j) ≠ 0
def EX (rows : Nat → Int32) (st k last x : Int32) : Prop := ∃ j : Nat, x.toInt ≤ (j : Int) ∧ (j : Int) < st.toInt ∧ (j : Int) ≠ last.toInt ∧ rows (8 * k.toInt.toNat + j) ≠ 0
def EX1 (rows : Nat → Int32) (st k last x : Int32) : Prop := ∃ j : Nat, x.toInt + 1 ≤ (j : Int) ∧ (j : Int) < st.toInt ∧ (j : Int) ≠ last.toInt ∧ rows (8 * k.toInt.toNat + j) ≠ 0
theorem z_i0 : Int32.toInt (0 : Int32) = 0 := by decide
theorem z_im : Int32.toInt (-1 : Int32) = -1 := by decide
theorem z_eq {v : Int32} (h : v.toInt = 0) : v = 0 := (fa_eq _ _).mpr (by rw [h]; decide)
section GRASS
variable {rows : Nat → Int32} {n st k k' s s' o o' v w y x last i : Int32}
theorem GD_init (h : k.toInt = n.toInt - 1) : GD rows n st k s := fun a b h1 h2 _ _ _ => Or.inl (by omega)
theorem GD_dn (h : GD rows n st k s) (hs : st.toInt ≤ s.toInt) (hv : v.toInt = k.toInt - 1) : GD rows n st v 0 := by
  intro a b h1 h2 h3 h4 h5
  have z := z_i0
  refine h a b ?_ h2 h3 (fun _ => by omega) h5
  by_cases e : (a : Int) = v.toInt
  · have := h4 e; omega
  · omega
theorem GD_s (h : GD1 rows n st k s) (hs : s'.toInt = s.toInt + 1) : GD rows n st k s' := fun a b h1 h2 h3 h4 h5 => h a b h1 h2 h3 (fun e => by have := h4 e; omega) h5
theorem GD_eq (h : GD rows n st k s) (hk : k.toInt = k'.toInt) : GD rows n st k' s := fun a b h1 h2 h3 h4 h5 => h a b (by omega) h2 h3 (fun e => h4 (by omega)) h5
theorem AL_z (h : v.toInt = 0) : AL rows v s := fun h9 => absurd (z_eq h) h9
theorem AL1_z (h : v.toInt = 0) : AL1 rows v s := fun h9 => absurd (z_eq h) h9
theorem AL_le (h : AL rows v s) (hs : s.toInt ≤ s'.toInt) : AL rows v s' := fun h9 => by
  obtain ⟨j, h1, h2⟩ := h h9
  exact ⟨j, by omega, h2⟩
theorem AL_s (h : AL1 rows v s) (hs : s'.toInt = s.toInt + 1) : AL rows v s' := fun h9 => by
  obtain ⟨j, h1, h2⟩ := h h9
  exact ⟨j, by omega, h2⟩
theorem AL_up (h : AL rows v s) (e : w = v + (upd rows i.toNatClampNeg y) s.toNatClampNeg) (hi : i.toInt = s.toInt) (hs : 0 ≤ s.toInt) : AL1 (upd rows i.toNatClampNeg y) w s := by
  intro h9
  have ei : i.toNatClampNeg = i.toInt.toNat := rfl
  have es : s.toNatClampNeg = s.toInt.toNat := rfl
  by_cases hz : (upd rows i.toNatClampNeg y) s.toNatClampNeg = 0
  · rw [hz] at e
    have e2 : w = v := by rw [e]; exact Int32.add_zero v
    obtain ⟨j, h1, h2⟩ := h (by rw [← e2]; exact h9)
    refine ⟨j, by omega, ?_⟩
    unfold upd
    rw [if_neg (by omega)]
    exact h2
  · exact ⟨s.toNatClampNeg, by omega, hz⟩
theorem SU_0 (h : v.toInt = 0 ∨ k.toInt = n.toInt - 1) : SU rows n k s o v := by
  intro h9
  rcases h with h | h
  · exact absurd (z_eq h) h9
  · exact Or.inl h
theorem SU_1 (h : SU rows n k s o v) : SU1 rows n k s o v := by
  intro h9
  rcases h h9 with h | ⟨j, h1, h2, h3⟩
  · exact Or.inl h
  · exact Or.inr ⟨j, by omega, h2, h3⟩
theorem SU_add (h : SU rows n k s o v) (e : w = v + rows i.toNatClampNeg) (hi : i.toInt = 8 * (k.toInt + 1) + o.toInt) (hos : o.toInt ≠ s.toInt) (ho : 0 ≤ o.toInt) (hk : 0 ≤ k.toInt) : SU1 rows n k s o w := by
  intro h9
  have ei : i.toNatClampNeg = i.toInt.toNat := rfl
  by_cases hz : rows i.toNatClampNeg = 0
  · rw [hz] at e
    have e2 : w = v := by rw [e]; exact Int32.add_zero v
    exact SU_1 h (by rw [← e2]; exact h9)
  · refine Or.inr ⟨o.toInt.toNat, by omega, by omega, ?_⟩
    rw [show 8 * (k.toInt.toNat + 1) + o.toInt.toNat = i.toNatClampNeg by omega]
    exact hz
theorem SU_s (h : SU1 rows n k s o v) (ho : o'.toInt = o.toInt + 1) : SU rows n k s o' v := by
  intro h9
  rcases h h9 with h | ⟨j, h1, h2, h3⟩
  · exact Or.inl h
  · exact Or.inr ⟨j, by omega, h2, h3⟩
theorem SU_le (h : SU rows n k s o v) (ho : o.toInt ≤ o'.toInt) : SU rows n k s o' v := by
  intro h9
  rcases h h9 with h | ⟨j, h1, h2, h3⟩
  · exact Or.inl h
  · exact Or.inr ⟨j, by omega, h2, h3⟩
theorem GD_up (h : GD rows n st k s) (hs : SU rows n k s st v) (hi : i.toInt = 8 * k.toInt + s.toInt) (hk : 0 ≤ k.toInt) (hb : 0 ≤ s.toInt ∧ s.toInt < 8) (ht : st.toInt ≤ 8) : GD1 (upd rows i.toNatClampNeg v) n st k s := by
  have ei : i.toNatClampNeg = i.toInt.toNat := rfl
  have keep : ∀ a o : Nat, k.toInt < (a : Int) → (upd rows i.toNatClampNeg v) (8 * a + o) = rows (8 * a + o) := by
    intro a o ha
    unfold upd
    rw [if_neg (by omega)]
  intro a b h1 h2 h3 h4 h5
  by_cases e : (a : Int) = k.toInt ∧ (b : Int) = s.toInt
  · have e1 : 8 * a + b = i.toNatClampNeg := by omega
    rw [e1] at h5
    have e2 : (upd rows i.toNatClampNeg v) i.toNatClampNeg = v := by
      unfold upd
      rw [if_pos rfl]
    rw [e2] at h5
    rcases hs h5 with h6 | ⟨j, j1, j2, j3⟩
    · exact Or.inl (by omega)
    · refine Or.inr ⟨j, j1, by omega, ?_⟩
      rw [keep (a + 1) j (by omega)]
      rw [show a + 1 = k.toInt.toNat + 1 by omega]
      exact j3
  · have e1 : (upd rows i.toNatClampNeg v) (8 * a + b) = rows (8 * a + b) := by
      unfold upd
      rw [if_neg (by omega)]
    rw [e1] at h5
    rcases h a b h1 h2 h3 (fun e9 => by have := h4 e9; omega) h5 with h6 | ⟨j, j1, j2, j3⟩
    · exact Or.inl h6
    · refine Or.inr ⟨j, j1, j2, ?_⟩
      rw [keep (a + 1) j (by omega)]
      exact j3
theorem NX_0 (h : AL rows v st) : NX rows n st 0 (-1) v := by
  intro h9 _
  obtain ⟨j, h1, h2⟩ := h h9
  have z := z_im
  refine ⟨j, h1, by omega, ?_⟩
  rw [z_i0]
  rw [show 8 * (0 : Int).toNat + j = j by simp]
  exact h2
theorem EX_0 (h : NX rows n st k last v) (hv : 0 < v.toInt) (hk : k.toInt < n.toInt) : EX rows st k last 0 := by
  have z := z_i0
  obtain ⟨j, h1, h2, h3⟩ := h (fun e => by rw [e] at hv; omega) hk
  exact ⟨j, by omega, h1, h2, h3⟩
theorem EX_l (h : EX rows st k last x) (e : x.toInt = last.toInt) : EX1 rows st k last x := by
  obtain ⟨j, h0, h1, h2, h3⟩ := h
  exact ⟨j, by omega, h1, h2, h3⟩
theorem EX_r (h : EX rows st k last x) (e : Int32.toInt (rows i.toNatClampNeg) = Int32.toInt 0) (hi : i.toInt = 8 * k.toInt + x.toInt) (hk : 0 ≤ k.toInt) (hx : 0 ≤ x.toInt) : EX1 rows st k last x := by
  obtain ⟨j, h0, h1, h2, h3⟩ := h
  have ei : i.toNatClampNeg = i.toInt.toNat := rfl
  refine ⟨j, ?_, h1, h2, h3⟩
  by_cases hj : (j : Int) = x.toInt
  · exfalso
    apply h3
    rw [show 8 * k.toInt.toNat + j = i.toNatClampNeg by omega]
    exact (fa_eq _ _).mpr e
  · omega
theorem EX_s (h : EX1 rows st k last x) (e : w.toInt = x.toInt + 1) : EX rows st k last w := by
  obtain ⟨j, h0, h1, h2, h3⟩ := h
  exact ⟨j, by omega, h1, h2, h3⟩
theorem EX1_le (h : EX1 rows st k last x) (ht : st.toInt ≤ 8) : x.toInt + 1 ≤ 7 := by
  obtain ⟨j, h0, h1, h2, h3⟩ := h
  omega
theorem EX_le (h : EX rows st k last x) (ht : st.toInt ≤ 8) : x.toInt < st.toInt := by
  obtain ⟨j, h0, h1, h2, h3⟩ := h
  omega
theorem NX_s (h : GD rows n st (-1) 0) (hne : ¬ Int32.toInt (rows i.toNatClampNeg) = Int32.toInt 0) (hi : i.toInt = 8 * k.toInt + x.toInt) (hk : 0 ≤ k.toInt ∧ k.toInt < n.toInt) (hx : 0 ≤ x.toInt ∧ x.toInt < st.toInt) (hv : k'.toInt = k.toInt + 1) : NX rows n st k' x v := by
  intro _ h9
  have ei : i.toNatClampNeg = i.toInt.toNat := rfl
  have z := z_im
  rcases h k.toInt.toNat x.toInt.toNat (by omega) (by omega) (by omega) (fun e => by omega) (by
    rw [show 8 * k.toInt.toNat + x.toInt.toNat = i.toNatClampNeg by omega]
    exact fun e => hne (congrArg Int32.toInt e)) with h6 | ⟨j, j1, j2, j3⟩
  · omega
  · refine ⟨j, j1, by omega, ?_⟩
    rw [show k'.toInt.toNat = k.toInt.toNat + 1 by omega]
    exact j3
end GRASS
