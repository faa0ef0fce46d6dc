/-- the one String constant, its bytes; two statics of Throwable -/
def gZX (A : Nat → Prop) (U : State) (H : Heap) : Prop := vx_Zq Bundle.tN "UNASSIGNED_STACK" Bundle.steD A U H ∧ vx_Zq Bundle.tN "SUPPRESSED_SENTINEL" Bundle.listD A U H ∧ va_Z "java/lang/String" "COMPACT_STRINGS" "Z" (.int 1) A U H ∧
  ∃ tS tV : Nat, vk_R RX7 11 "duywsko" tS U ∧ va_O "java/lang/String" tS A U H ∧ va_OF "java/lang/String" "coder" "B" (.int 0) tS A U H ∧ va_OF "java/lang/String" "value" "[B" (.ref tV) tS A U H ∧ va_T .byte tV 7 (fun j => .int (lets j)) A U H
