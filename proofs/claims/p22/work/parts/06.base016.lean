theorem gPre.blind {D : va_G} {tys : List (ClassId × FieldType)} {w : va_W} {sz : Nat} {av : List Value} : FrameBlind (va_Pc av (gPre D tys w sz)) := by
  intro a U g mk h
  obtain ⟨h0, h1, ⟨hP, hK, hD⟩, hN, hZ⟩ := h
  exact ⟨h0, h1, ⟨hP, va_K.moved (u := U) (U := U.calling g mk a) (Vm.Alike.refl U.vm) hK, hD⟩, gN.same (s := U) (U := U.calling g mk a) rfl hN, hZ.to (u := U) (U := U.calling g mk a) (Vm.Alike.refl U.vm) (fun _ h9 => vk_R.same (u := U) (U := U.calling g mk a) rfl h9) (fun _ _ _ => rfl) (fun _ h => h)⟩
