theorem sheet_itr {fr p n st v0 : Int32} {w mw : Nat → Int32} (hf : 0 ≤ fr.toInt ∧ fr.toInt ≤ 16) (hp : ¬ p = 3) : (itr (aJo fr p n st) (0, v0, w) 0 (Int32.toInt fr - ((0 : Nat) : Int)).toNat).1 = (itr (aNZ fr p n st 0) (0, v0, mw) 0 (Int32.toInt fr - ((0 : Nat) : Int)).toNat).1 ∧ ∀ j : Nat, (j : Int) < fr.toInt → (itr (aJo fr p n st) (0, v0, w) 0 (Int32.toInt fr - ((0 : Nat) : Int)).toNat).2.2 j = (itr (aNZ fr p n st 0) (0, v0, mw) 0 (Int32.toInt fr - ((0 : Nat) : Int)).toNat).2.2 j := by
  have key := itr_rel (i := 0) (f := aJo fr p n st) (g := aNZ fr p n st 0) (a := ((0 : Int32), v0, w)) (b := ((0 : Int32), v0, mw)) (fun k s t => s.1 = t.1 ∧ s.2.1 = t.2.1 ∧ ∀ j : Nat, j < k → s.2.2 j = t.2.2 j) ⟨rfl, rfl, fun j hj => absurd hj (by omega)⟩ (Int32.toInt fr - ((0 : Nat) : Int)).toNat (fun k s t hk hR => by
    have i := nI_0c (k := k) (by omega)
    obtain ⟨r1, r2, r3⟩ := hR
    have u : ∀ v : Int32, ∀ j : Nat, j < k + 1 → upd s.2.2 k v j = upd t.2.2 k v j := by
      intro v j hj
      by_cases hk2 : j = k
      · rw [hk2, upd_i, upd_i]
      · rw [aGi _ _ hk2, aGi _ _ hk2]; exact r3 j (by omega)
    have m : ∀ z : Int32, (aRy (fun q0 q1 q2 q3 q4 q5 q6 => (q3, q4, q6)) fr p n st s.1 s.2.1 (nI (0 + k)) z s.2.2).1 = (bBi (fun q0 q1 q2 q3 q4 q5 q6 q7 => (q3, q4, q7)) fr p n st t.1 t.2.1 (nI (0 + k)) z 0 t.2.2).1 ∧ (aRy (fun q0 q1 q2 q3 q4 q5 q6 => (q3, q4, q6)) fr p n st s.1 s.2.1 (nI (0 + k)) z s.2.2).2.1 = (bBi (fun q0 q1 q2 q3 q4 q5 q6 q7 => (q3, q4, q7)) fr p n st t.1 t.2.1 (nI (0 + k)) z 0 t.2.2).2.1 ∧ ∀ j : Nat, j < k + 1 → (aRy (fun q0 q1 q2 q3 q4 q5 q6 => (q3, q4, q6)) fr p n st s.1 s.2.1 (nI (0 + k)) z s.2.2).2.2 j = (bBi (fun q0 q1 q2 q3 q4 q5 q6 q7 => (q3, q4, q7)) fr p n st t.1 t.2.1 (nI (0 + k)) z 0 t.2.2).2.2 j := by
      intro z
      rw [aRy, bBi, if_neg hp]
      by_cases c : n ≤ nI (0 + k)
      · have d := (aAO _ _).mp c
        rw [if_pos c, if_neg (fun c2 => by have := (aAd _ _).mp c2; omega), aRz, j_X10_sheet_94, aRj, i.1]
        dsimp only
        rw [upd_i, upd_i, r1, r2]
        exact ⟨rfl, rfl, u 0⟩
      · have d := mt (aAO _ _).mpr c
        have c9 : nI (0 + k) < n := (aAd _ _).mpr (by omega)
        rw [if_neg c, if_pos c9, aRz, aRj, i.1]
        dsimp only
        rw [upd_i, upd_i, r1, r2]
        exact ⟨rfl, rfl, u _⟩
    rw [aJo, aNZ, ← r2]
    by_cases c0 : p = 0
    · rw [if_pos c0, if_pos c0, r2]; have q := m t.2.1.toInt8.toInt32; rw [r2] at q; exact q
    · rw [if_neg c0, if_neg c0]
      by_cases c1 : p = 1
      · rw [if_pos c1, if_pos c1, r2]; have q := m t.2.1.toInt16.toInt32; rw [r2] at q; exact q
      · rw [if_neg c1, if_neg c1, r2]; have q := m t.2.1; rw [r2] at q; exact q)
  exact ⟨key.1, fun j hj => key.2.2 j (by omega)⟩
