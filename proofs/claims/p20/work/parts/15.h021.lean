theorem lay_v {p : Int32} {now u : Nat → Int32} (hp : 0 ≤ p.toInt ∧ p.toInt ≤ 1000) : (∀ k : Nat, k < 21 → F_X10_lay p now u (p.toInt.toNat + k) = now k) ∧ (∀ i : Nat, (i < p.toInt.toNat ∨ p.toInt.toNat + 21 ≤ i) → F_X10_lay p now u i = u i) := by
  rw [F_X10_lay, ex_X10_lay_2, z21]
  have q := itr_lay (f := bd_X10_lay_2 now p) (g := fun k => p.toInt.toNat + k) (v := now) 21 u (fun k s hk => by
    have i := nI_0c (k := k) (by omega)
    rw [bd_X10_lay_2, i.1, pc_n hp (by omega)]
    have e : (Int32.toInt (nI (0 + k))).toNat = k := by omega
    rw [e]) (fun a b _ _ h => by omega)
  exact ⟨q.1, fun i hi => q.2 i (fun k hk => by omega)⟩
