theorem PDw {D : va_G} {cl : List vw_C} {ws ws' : va_W} {H : Heap} {A : Nat → Prop} (hP : va_P D cl ws H) (hD : va_D A ws) (e : ws = ws') : va_P D cl ws' H ∧ va_D A ws' := e ▸ ⟨hP, hD⟩
