section
variable {fr sd : Int32} {x h w r ft fk mx mh mw mr mf mk st told : Nat → Int32}
theorem ln_eq (T : TR fr sd x h w r ft fk mx mh mw mr mf mk) (hst : ∀ k : Nat, k < 5 → st k = told k) {f s : Int32} (hf : 0 ≤ f.toInt ∧ f.toInt < fr.toInt) (hs : 0 ≤ s.toInt ∧ s.toInt < sd.toInt) : 0 ≤ Int32.toInt (aM3 f s mx mh mf mk told) ∧ ((Int32.toInt (aM3 f s mx mh mf mk told) ≤ 30 ∧ bB5 f s x h ft fk st = aM3 f s mx mh mf mk told) ∨ (30 < Int32.toInt (aM3 f s mx mh mf mk told) ∧ bB5 f s x h ft fk st = -2)) := by
  have l1 : Int32.toInt (1 : Int32) = 1 := by decide
  have l30 : Int32.toInt (30 : Int32) = 30 := by decide
  have key : ∀ (m : Nat) (v : Int32), 0 ≤ v.toInt → v.toInt ≤ 31 → 31 - v.toInt < (m : Int) → 0 ≤ Int32.toInt (flp (fs_X10_leanOf_2 (fun o0 => o0) mx mh mf mk told) (fun _ _ _ => 0) m f s v) ∧ ((Int32.toInt (flp (fs_X10_leanOf_2 (fun o0 => o0) mx mh mf mk told) (fun _ _ _ => 0) m f s v) ≤ 30 ∧ flp (fs_X3_leanNeeded_2 (fun o0 => o0) x h ft fk st) (fun _ _ _ => 0) m f s v = flp (fs_X10_leanOf_2 (fun o0 => o0) mx mh mf mk told) (fun _ _ _ => 0) m f s v) ∨ (30 < Int32.toInt (flp (fs_X10_leanOf_2 (fun o0 => o0) mx mh mf mk told) (fun _ _ _ => 0) m f s v) ∧ flp (fs_X3_leanNeeded_2 (fun o0 => o0) x h ft fk st) (fun _ _ _ => 0) m f s v = -2)) := by
    intro m
    induction m with
    | zero => intro v h1 h2 h3; exfalso; omega
    | succ m ih =>
      intro v h1 h2 h3
      rw [flp_s, flp_s, fs_X10_leanOf_2, fs_X3_leanNeeded_2, hst _ (by decide), iw_eq T _ hf hs]
      by_cases c : 30 < v
      · have d := (aAd _ _).mp c
        rw [if_pos c, if_pos c]
        exact ⟨h1, Or.inr ⟨by omega, rfl⟩⟩
      · have d := mt (aAd _ _).mpr c
        rw [if_neg c, if_neg c]
        by_cases c2 : bAx f s (told (0 : Int32).toNatClampNeg + v) mx mh mf mk = 0
        · rw [if_pos c2, if_pos c2]
          have e := aAD v 1 (by omega)
          exact ih (v + 1) (by omega) (by omega) (by omega)
        · rw [if_neg c2, if_neg c2]
          exact ⟨h1, Or.inl ⟨by omega, rfl⟩⟩
  exact key 32 0 (by decide) (by decide) (by decide)
end
