/-! orchard(): the moment, what can be undone, what is kept, behind it -/
theorem MO_ext {fr fr' ap ba gr : Int32} {now now' : Nat → Int32} (hm : MO fr ap ba gr now) (h0 : 0 ≤ fr.toInt) (h1 : fr.toInt ≤ fr'.toInt) (hs : ∀ j : Nat, ((j : Int) < fr.toInt ∨ fr'.toInt ≤ (j : Int)) → now' j = now j) (hn : ∀ j : Nat, fr.toInt ≤ (j : Int) → (j : Int) < fr'.toInt → now' j = 0) : MO fr' ap ba gr now' := by
  refine ⟨fun j hj => ?_, fun j hj => hm.2 j (by omega)⟩
  by_cases c : (j : Int) < fr.toInt
  · rw [hs j (Or.inl c)]; exact hm.1 j c
  · obtain ⟨a, b, d⟩ := hm.2 j (by omega)
    rw [hn j (by omega) hj, a, b, d]
    exact Or.inl ⟨rfl, rfl, rfl, rfl⟩
theorem LQ_m {sd sd' la he td : Int32} (h : LQ sd la he td) (hs : sd.toInt ≤ sd'.toInt) : LQ sd' la he td := ⟨⟨h.1.1, by have := h.1.2; omega⟩, h.2⟩
theorem orch_muk {fr sd fr' sd' ap ba gr br la he td und free mund came und1 mund1 came1 : Int32} {now now1 cells u kc isK isK1 mk9 isM kcm : Nat → Int32} (bf : 0 ≤ fr.toInt ∧ fr.toInt ≤ 16) (hsd : sd.toInt ≤ sd'.toInt) (hc : 0 ≤ came.toInt ∧ came.toInt ≤ 600)
    (h7 : (und1 = und ∧ isK1 = isK ∧ mund1 = mund ∧ came1 = came ∧ now1 = now ∧ fr' = fr ∧ sd' = sd) ∨ (und1 = 0 ∧ isK1 0 = 0 ∧ isK1 1 = 0 ∧ mund1 = 0 ∧ came1 = came + 1 ∧ fr.toInt ≤ fr'.toInt ∧ fr'.toInt ≤ 16 ∧ (∀ j : Nat, ((j : Int) < fr.toInt ∨ fr'.toInt ≤ (j : Int)) → now1 j = now j) ∧ (∀ j : Nat, fr.toInt ≤ (j : Int) → (j : Int) < fr'.toInt → now1 j = 0)))
    (hm : MR fr sd ap ba gr br la he td now) (hu : UR fr sd und free mund cells u) (hk : KR fr sd came kc isK mk9 isM kcm) : MR fr' sd' ap ba gr br la he td now1 ∧ UR fr' sd' und1 free mund1 cells u ∧ KR fr' sd' came1 kc isK1 mk9 isM kcm ∧ 0 ≤ came1.toInt ∧ came1.toInt ≤ came.toInt + 1 := by
  have l1 : Int32.toInt (1 : Int32) = 1 := by decide
  rcases h7 with ⟨rfl, rfl, rfl, rfl, rfl, rfl, rfl⟩ | ⟨e1, e2, e3, e4, e5, g1, g2, g3, g4⟩
  · exact ⟨hm, hu, hk, by omega, by omega⟩
  · have a := aAD came 1 (by omega)
    rw [← e5] at a
    obtain ⟨⟨mo, q1, q2, q3, q4⟩, lq⟩ := hm
    refine ⟨⟨⟨MO_ext mo bf.1 g1 g3 g4, ?_, ?_, ?_, ?_⟩, LQ_m lq hsd⟩, UR_0 hu.2.2.1 e1 e4, fun i hi => Or.inr ⟨?_, ?_⟩, by omega, by omega⟩
    · rw [g3 16 (Or.inr (by omega))]; exact q1
    · rw [g3 17 (Or.inr (by omega))]; exact q2
    · rw [g3 18 (Or.inr (by omega))]; exact q3
    · rw [g3 19 (Or.inr (by omega))]; exact q4
    · rcases (show i = 0 ∨ i = 1 by omega) with rfl | rfl
      · exact e2
      · exact e3
    · rcases hk i hi with ⟨_, _, k3, _⟩ | ⟨_, k | k⟩
      · right; rw [k3]; omega
      · exact Or.inl k
      · right; omega
theorem fresh_M : MR 0 0 0 0 0 0 (-1) 0 0 (upd (fun _ => 0) (17 : Int32).toNatClampNeg (-1)) := by
  have z : Int32.toInt (0 : Int32) = 0 := by decide
  refine ⟨⟨⟨fun j hj => by exfalso; omega, fun j _ => ?_⟩, by decide, by decide, by decide, by decide⟩, ⟨by decide, by decide⟩, by decide, Or.inl rfl⟩
  rw [bt_zero]
  exact ⟨rfl, rfl, rfl⟩
theorem fresh_U : UR 0 0 0 0 0 (fun _ => 0) (fun _ => 0) := UR_0 (by decide) rfl rfl
theorem fresh_K : KR 0 0 0 (fun _ => 0) (fun _ => 0) (fun _ => 0) (fun _ => 0) (fun _ => 0) := fun i _ => Or.inr ⟨rfl, Or.inl rfl⟩
