/-! sheet, marks, standing, leaned, nearest, reached: class against reference -/
theorem itr_cg {α : Type} {f g : Int32 → α → α} {a : α} {i : Nat} (n : Nat) (h : ∀ (k : Nat) (s : α), k < n → f (nI (i + k)) s = g (nI (i + k)) s) : itr f a i n = itr g a i n :=
  itr_rel (fun _ s t => s = t) rfl n (fun k s t hk e => by rw [e]; exact h k t hk)
