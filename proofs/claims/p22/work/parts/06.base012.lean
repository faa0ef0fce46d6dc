def gPre (D : va_G) (tys : List (ClassId × FieldType)) (w : va_W) (sz : Nat) (U : State) : Prop := U.heap.size = sz ∧ gB D tys (fun _ => True) w U ∧ gN U ∧ gZ (va_A w sz) U U.heap
