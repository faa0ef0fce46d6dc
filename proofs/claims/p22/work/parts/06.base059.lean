theorem PDm {D : va_G} {cl : List vw_C} {ws ws' new : va_W} {H : Heap} {A : Nat → Prop} {ms : List Bool} (hP : va_P D cl (gpk ws (aAi ms) ++ new) H) (hD : va_D A (gpk ws (aAi ms) ++ new)) (n : Nat) (h1 : ms.length = n) (h2 : ws.length = n) (e : mpu ms new ws = ws') : va_P D cl ws' H ∧ va_D A ws' := by
  rw [show gpk ws (aAi ms) = mF ms ws from g_sub (mix_F ms ws (h1.trans h2.symm))] at hP hD
  subst e
  obtain ⟨l, hs, hp⟩ := mpu_p ms new ws
  have hm : ∀ q, q ∈ mpu ms new ws → q ∈ mF ms ws ++ new := fun q h => hp.mem_iff.mp (hs.subset h)
  refine ⟨vaP_m hP hm, vaD_mk ?_ (fun q h => ?_)⟩
  · exact (List.Perm.pairwise hp.symm (vaD_pw hD) (fun h e => h e.symm)).sublist hs
  · obtain ⟨j, hj⟩ := List.mem_iff_getElem?.mp (hm q h)
    exact hD.2 j q hj

