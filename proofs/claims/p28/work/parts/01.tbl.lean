-- ===== PART A: goes FIRST, ahead of the names: the tables' words, and 'selects' of the private methods out of them =====
/-- a private method of a class that the tables say can be made, by its rows of tables_1 -/
def aHU (q : MethodName × Nat) : Prop := (q.1.cls ≠ "java/lang/invoke/MethodHandle" /\ q.1.cls ≠ "java/lang/invoke/VarHandle") /\ Cond.instantiable q.1.cls q.2 ∈ tables_1 /\ Cond.privateMethod q.1 ∈ tables_1 /\ Cond.instanceMethod q.1 ∈ tables_1
theorem lx_t1 {w : Cond} (h : w ∈ tables_1_1) : w ∈ tables_1 := List.mem_append_left _ h
theorem lx_t2 {w : Cond} (h : w ∈ tables_1_2) : w ∈ tables_1 := List.mem_append_right _ (List.mem_append_left _ h)
theorem lx_t3 {w : Cond} (h : w ∈ tables_1_3) : w ∈ tables_1 := List.mem_append_right _ (List.mem_append_right _ (List.mem_append_left _ h))
theorem lx_t4 {w : Cond} (h : w ∈ tables_1_4) : w ∈ tables_1 := List.mem_append_right _ (List.mem_append_right _ (List.mem_append_right _ (List.mem_append_left _ h)))
theorem lx_t5 {w : Cond} (h : w ∈ tables_1_5) : w ∈ tables_1 := List.mem_append_right _ (List.mem_append_right _ (List.mem_append_right _ (List.mem_append_right _ (List.mem_append_left _ h))))
theorem lx_t6 {w : Cond} (h : w ∈ tables_1_6) : w ∈ tables_1 := List.mem_append_right _ (List.mem_append_right _ (List.mem_append_right _ (List.mem_append_right _ (List.mem_append_right _ (List.mem_append_left _ h)))))
theorem aLq {w : Cond} (h : w ∈ tables_1_7) : w ∈ tables_1 := List.mem_append_right _ (List.mem_append_right _ (List.mem_append_right _ (List.mem_append_right _ (List.mem_append_right _ (List.mem_append_right _ (List.mem_append_left _ h))))))
theorem lx_t8 {w : Cond} (h : w ∈ tables_1_8) : w ∈ tables_1 := List.mem_append_right _ (List.mem_append_right _ (List.mem_append_right _ (List.mem_append_right _ (List.mem_append_right _ (List.mem_append_right _ (List.mem_append_right _ (h)))))))
theorem lx_n0 : "WhereTheLadder" ≠ "java/lang/invoke/MethodHandle" /\ "WhereTheLadder" ≠ "java/lang/invoke/VarHandle" := ⟨by decide +kernel, by decide +kernel⟩
set_option maxRecDepth 100000 in
theorem lx_i0 : Cond.instantiable "WhereTheLadder" 9 ∈ tables_1 := lx_t1 (List.mem_of_getElem? (i := 24) (by first | rfl | decide +kernel))
set_option maxRecDepth 100000 in
theorem lw_p0 : aHU (⟨"WhereTheLadder", "holdIfDone", "(I)I"⟩, 9) := ⟨lx_n0, lx_i0, lx_t3 (List.mem_of_getElem? (i := 148) (by first | rfl | decide +kernel)), lx_t3 (List.mem_of_getElem? (i := 149) (by first | rfl | decide +kernel))⟩
set_option maxRecDepth 100000 in
theorem lw_p1 : aHU (⟨"WhereTheLadder", "readActs", "()I"⟩, 9) := ⟨lx_n0, lx_i0, lx_t4 (List.mem_of_getElem? (i := 42) (by first | rfl | decide +kernel)), lx_t4 (List.mem_of_getElem? (i := 43) (by first | rfl | decide +kernel))⟩
set_option maxRecDepth 100000 in
theorem lw_p2 : aHU (⟨"WhereTheLadder", "readAct", "()I"⟩, 9) := ⟨lx_n0, lx_i0, lx_t4 (List.mem_of_getElem? (i := 46) (by first | rfl | decide +kernel)), lx_t4 (List.mem_of_getElem? (i := 47) (by first | rfl | decide +kernel))⟩
set_option maxRecDepth 100000 in
theorem lw_p3 : aHU (⟨"WhereTheLadder", "doActs", "(I)I"⟩, 9) := ⟨lx_n0, lx_i0, lx_t4 (List.mem_of_getElem? (i := 54) (by first | rfl | decide +kernel)), lx_t4 (List.mem_of_getElem? (i := 55) (by first | rfl | decide +kernel))⟩
set_option maxRecDepth 100000 in
theorem lw_p4 : aHU (⟨"WhereTheLadder", "doAct", "(II)I"⟩, 9) := ⟨lx_n0, lx_i0, lx_t4 (List.mem_of_getElem? (i := 58) (by first | rfl | decide +kernel)), lx_t4 (List.mem_of_getElem? (i := 59) (by first | rfl | decide +kernel))⟩
set_option maxRecDepth 100000 in
theorem lw_p5 : aHU (⟨"WhereTheLadder", "tell", "(II)V"⟩, 9) := ⟨lx_n0, lx_i0, lx_t4 (List.mem_of_getElem? (i := 62) (by first | rfl | decide +kernel)), lx_t4 (List.mem_of_getElem? (i := 63) (by first | rfl | decide +kernel))⟩
set_option maxRecDepth 100000 in
theorem lw_p6 : aHU (⟨"WhereTheLadder", "tell", "(I)V"⟩, 9) := ⟨lx_n0, lx_i0, lx_t4 (List.mem_of_getElem? (i := 66) (by first | rfl | decide +kernel)), lx_t4 (List.mem_of_getElem? (i := 67) (by first | rfl | decide +kernel))⟩
set_option maxRecDepth 100000 in
theorem lw_p7 : aHU (⟨"WhereTheLadder", "tellMembers", "(I)I"⟩, 9) := ⟨lx_n0, lx_i0, lx_t4 (List.mem_of_getElem? (i := 164) (by first | rfl | decide +kernel)), lx_t4 (List.mem_of_getElem? (i := 165) (by first | rfl | decide +kernel))⟩
set_option maxRecDepth 100000 in
theorem lw_p8 : aHU (⟨"WhereTheLadder", "tell", "(III)V"⟩, 9) := ⟨lx_n0, lx_i0, lx_t5 (List.mem_of_getElem? (i := 0) (by first | rfl | decide +kernel)), lx_t5 (List.mem_of_getElem? (i := 1) (by first | rfl | decide +kernel))⟩
set_option maxRecDepth 100000 in
theorem lw_p9 : aHU (⟨"WhereTheLadder", "tellLeastMarks", "(I)V"⟩, 9) := ⟨lx_n0, lx_i0, lx_t5 (List.mem_of_getElem? (i := 129) (by first | rfl | decide +kernel)), lx_t5 (List.mem_of_getElem? (i := 130) (by first | rfl | decide +kernel))⟩
theorem lx_n1 : "java/lang/Throwable" ≠ "java/lang/invoke/MethodHandle" /\ "java/lang/Throwable" ≠ "java/lang/invoke/VarHandle" := ⟨by decide +kernel, by decide +kernel⟩
set_option maxRecDepth 100000 in
theorem lx_i1 : Cond.instantiable "java/lang/Throwable" 6 ∈ tables_1 := lx_t5 (List.mem_of_getElem? (i := 220) (by first | rfl | decide +kernel))
set_option maxRecDepth 100000 in
theorem lw_p10 : aHU (⟨"java/lang/Throwable", "fillInStackTrace", "(I)Ljava/lang/Throwable;"⟩, 6) := ⟨lx_n1, lx_i1, lx_t5 (List.mem_of_getElem? (i := 218) (by first | rfl | decide +kernel)), lx_t5 (List.mem_of_getElem? (i := 219) (by first | rfl | decide +kernel))⟩
theorem aRm : "WhereTheLadderModel" ≠ "java/lang/invoke/MethodHandle" /\ "WhereTheLadderModel" ≠ "java/lang/invoke/VarHandle" := ⟨by decide +kernel, by decide +kernel⟩
set_option maxRecDepth 100000 in
theorem aRl : Cond.instantiable "WhereTheLadderModel" 51 ∈ tables_1 := lx_t6 (List.mem_of_getElem? (i := 24) (by first | rfl | decide +kernel))
set_option maxRecDepth 100000 in
theorem lw_p11 : aHU (⟨"WhereTheLadderModel", "begin", "([BII)V"⟩, 51) := ⟨aRm, aRl, lx_t6 (List.mem_of_getElem? (i := 199) (by first | rfl | decide +kernel)), lx_t6 (List.mem_of_getElem? (i := 200) (by first | rfl | decide +kernel))⟩
set_option maxRecDepth 100000 in
theorem lw_p12 : aHU (⟨"WhereTheLadderModel", "fine", "()Z"⟩, 51) := ⟨aRm, aRl, lx_t6 (List.mem_of_getElem? (i := 203) (by first | rfl | decide +kernel)), lx_t6 (List.mem_of_getElem? (i := 204) (by first | rfl | decide +kernel))⟩
set_option maxRecDepth 100000 in
theorem lw_p13 : aHU (⟨"WhereTheLadderModel", "readLine", "()V"⟩, 51) := ⟨aRm, aRl, lx_t6 (List.mem_of_getElem? (i := 207) (by first | rfl | decide +kernel)), lx_t6 (List.mem_of_getElem? (i := 208) (by first | rfl | decide +kernel))⟩
set_option maxRecDepth 100000 in
theorem lw_p14 : aHU (⟨"WhereTheLadderModel", "here", "()I"⟩, 51) := ⟨aRm, aRl, lx_t6 (List.mem_of_getElem? (i := 211) (by first | rfl | decide +kernel)), lx_t6 (List.mem_of_getElem? (i := 212) (by first | rfl | decide +kernel))⟩
set_option maxRecDepth 100000 in
theorem lw_p15 : aHU (⟨"WhereTheLadderModel", "number", "(I)I"⟩, 51) := ⟨aRm, aRl, lx_t6 (List.mem_of_getElem? (i := 215) (by first | rfl | decide +kernel)), lx_t6 (List.mem_of_getElem? (i := 216) (by first | rfl | decide +kernel))⟩
def lw_privs_1 : List (MethodName × Nat) := [(⟨"WhereTheLadder", "holdIfDone", "(I)I"⟩, 9), (⟨"WhereTheLadder", "readActs", "()I"⟩, 9), (⟨"WhereTheLadder", "readAct", "()I"⟩, 9), (⟨"WhereTheLadder", "doActs", "(I)I"⟩, 9), (⟨"WhereTheLadder", "doAct", "(II)I"⟩, 9), (⟨"WhereTheLadder", "tell", "(II)V"⟩, 9), (⟨"WhereTheLadder", "tell", "(I)V"⟩, 9), (⟨"WhereTheLadder", "tellMembers", "(I)I"⟩, 9), (⟨"WhereTheLadder", "tell", "(III)V"⟩, 9), (⟨"WhereTheLadder", "tellLeastMarks", "(I)V"⟩, 9), (⟨"java/lang/Throwable", "fillInStackTrace", "(I)Ljava/lang/Throwable;"⟩, 6), (⟨"WhereTheLadderModel", "begin", "([BII)V"⟩, 51), (⟨"WhereTheLadderModel", "fine", "()Z"⟩, 51), (⟨"WhereTheLadderModel", "readLine", "()V"⟩, 51), (⟨"WhereTheLadderModel", "here", "()I"⟩, 51), (⟨"WhereTheLadderModel", "number", "(I)I"⟩, 51)]
theorem lw_r1 : ∀ q ∈ lw_privs_1, aHU q := List.forall_mem_cons.mpr ⟨lw_p0, List.forall_mem_cons.mpr ⟨lw_p1, List.forall_mem_cons.mpr ⟨lw_p2, List.forall_mem_cons.mpr ⟨lw_p3, List.forall_mem_cons.mpr ⟨lw_p4, List.forall_mem_cons.mpr ⟨lw_p5, List.forall_mem_cons.mpr ⟨lw_p6, List.forall_mem_cons.mpr ⟨lw_p7, List.forall_mem_cons.mpr ⟨lw_p8, List.forall_mem_cons.mpr ⟨lw_p9, List.forall_mem_cons.mpr ⟨lw_p10, List.forall_mem_cons.mpr ⟨lw_p11, List.forall_mem_cons.mpr ⟨lw_p12, List.forall_mem_cons.mpr ⟨lw_p13, List.forall_mem_cons.mpr ⟨lw_p14, List.forall_mem_cons.mpr ⟨lw_p15, fun _ h => absurd h List.not_mem_nil⟩⟩⟩⟩⟩⟩⟩⟩⟩⟩⟩⟩⟩⟩⟩⟩
set_option maxRecDepth 100000 in
theorem lw_p16 : aHU (⟨"WhereTheLadderModel", "fault", "(I)V"⟩, 51) := ⟨aRm, aRl, lx_t6 (List.mem_of_getElem? (i := 219) (by first | rfl | decide +kernel)), lx_t6 (List.mem_of_getElem? (i := 220) (by first | rfl | decide +kernel))⟩
set_option maxRecDepth 100000 in
theorem lw_p17 : aHU (⟨"WhereTheLadderModel", "need", "(C)V"⟩, 51) := ⟨aRm, aRl, lx_t6 (List.mem_of_getElem? (i := 223) (by first | rfl | decide +kernel)), lx_t6 (List.mem_of_getElem? (i := 224) (by first | rfl | decide +kernel))⟩
set_option maxRecDepth 100000 in
theorem lw_p18 : aHU (⟨"WhereTheLadderModel", "passes", "(C)Z"⟩, 51) := ⟨aRm, aRl, lx_t6 (List.mem_of_getElem? (i := 227) (by first | rfl | decide +kernel)), lx_t6 (List.mem_of_getElem? (i := 228) (by first | rfl | decide +kernel))⟩
set_option maxRecDepth 100000 in
theorem lw_p19 : aHU (⟨"WhereTheLadderModel", "held", "(I)I"⟩, 51) := ⟨aRm, aRl, lx_t6 (List.mem_of_getElem? (i := 235) (by first | rfl | decide +kernel)), lx_t6 (List.mem_of_getElem? (i := 236) (by first | rfl | decide +kernel))⟩
set_option maxRecDepth 100000 in
theorem lw_p20 : aHU (⟨"WhereTheLadderModel", "sum", "(I)I"⟩, 51) := ⟨aRm, aRl, lx_t6 (List.mem_of_getElem? (i := 239) (by first | rfl | decide +kernel)), aLq (List.mem_of_getElem? (i := 0) (by first | rfl | decide +kernel))⟩
set_option maxRecDepth 100000 in
theorem lw_p21 : aHU (⟨"WhereTheLadderModel", "product", "(I)I"⟩, 51) := ⟨aRm, aRl, aLq (List.mem_of_getElem? (i := 3) (by first | rfl | decide +kernel)), aLq (List.mem_of_getElem? (i := 4) (by first | rfl | decide +kernel))⟩
set_option maxRecDepth 100000 in
theorem lw_p22 : aHU (⟨"WhereTheLadderModel", "thing", "(I)I"⟩, 51) := ⟨aRm, aRl, aLq (List.mem_of_getElem? (i := 7) (by first | rfl | decide +kernel)), aLq (List.mem_of_getElem? (i := 8) (by first | rfl | decide +kernel))⟩
set_option maxRecDepth 100000 in
theorem lw_p23 : aHU (⟨"WhereTheLadderModel", "valueOf", "(I)I"⟩, 51) := ⟨aRm, aRl, aLq (List.mem_of_getElem? (i := 11) (by first | rfl | decide +kernel)), aLq (List.mem_of_getElem? (i := 12) (by first | rfl | decide +kernel))⟩
set_option maxRecDepth 100000 in
theorem lw_p24 : aHU (⟨"WhereTheLadderModel", "far", "(II)I"⟩, 51) := ⟨aRm, aRl, aLq (List.mem_of_getElem? (i := 15) (by first | rfl | decide +kernel)), aLq (List.mem_of_getElem? (i := 16) (by first | rfl | decide +kernel))⟩
set_option maxRecDepth 100000 in
theorem lw_p25 : aHU (⟨"WhereTheLadderModel", "above", "(II)I"⟩, 51) := ⟨aRm, aRl, aLq (List.mem_of_getElem? (i := 20) (by first | rfl | decide +kernel)), aLq (List.mem_of_getElem? (i := 21) (by first | rfl | decide +kernel))⟩
set_option maxRecDepth 100000 in
theorem lw_p26 : aHU (⟨"WhereTheLadderModel", "isFruit", "(I)Z"⟩, 51) := ⟨aRm, aRl, aLq (List.mem_of_getElem? (i := 29) (by first | rfl | decide +kernel)), aLq (List.mem_of_getElem? (i := 30) (by first | rfl | decide +kernel))⟩
set_option maxRecDepth 100000 in
theorem lw_p27 : aHU (⟨"WhereTheLadderModel", "lost", "()I"⟩, 51) := ⟨aRm, aRl, aLq (List.mem_of_getElem? (i := 33) (by first | rfl | decide +kernel)), aLq (List.mem_of_getElem? (i := 34) (by first | rfl | decide +kernel))⟩
set_option maxRecDepth 100000 in
theorem lw_p28 : aHU (⟨"WhereTheLadderModel", "which", "([II)I"⟩, 51) := ⟨aRm, aRl, aLq (List.mem_of_getElem? (i := 37) (by first | rfl | decide +kernel)), aLq (List.mem_of_getElem? (i := 38) (by first | rfl | decide +kernel))⟩
set_option maxRecDepth 100000 in
theorem lw_p29 : aHU (⟨"WhereTheLadderModel", "below", "(II)I"⟩, 51) := ⟨aRm, aRl, aLq (List.mem_of_getElem? (i := 41) (by first | rfl | decide +kernel)), aLq (List.mem_of_getElem? (i := 42) (by first | rfl | decide +kernel))⟩
set_option maxRecDepth 100000 in
theorem lw_p30 : aHU (⟨"WhereTheLadderModel", "isBelow", "(II)Z"⟩, 51) := ⟨aRm, aRl, aLq (List.mem_of_getElem? (i := 48) (by first | rfl | decide +kernel)), aLq (List.mem_of_getElem? (i := 49) (by first | rfl | decide +kernel))⟩
set_option maxRecDepth 100000 in
theorem lw_p31 : aHU (⟨"WhereTheLadderModel", "isStanding", "(I)Z"⟩, 51) := ⟨aRm, aRl, aLq (List.mem_of_getElem? (i := 56) (by first | rfl | decide +kernel)), aLq (List.mem_of_getElem? (i := 57) (by first | rfl | decide +kernel))⟩
def lw_privs_2 : List (MethodName × Nat) := [(⟨"WhereTheLadderModel", "fault", "(I)V"⟩, 51), (⟨"WhereTheLadderModel", "need", "(C)V"⟩, 51), (⟨"WhereTheLadderModel", "passes", "(C)Z"⟩, 51), (⟨"WhereTheLadderModel", "held", "(I)I"⟩, 51), (⟨"WhereTheLadderModel", "sum", "(I)I"⟩, 51), (⟨"WhereTheLadderModel", "product", "(I)I"⟩, 51), (⟨"WhereTheLadderModel", "thing", "(I)I"⟩, 51), (⟨"WhereTheLadderModel", "valueOf", "(I)I"⟩, 51), (⟨"WhereTheLadderModel", "far", "(II)I"⟩, 51), (⟨"WhereTheLadderModel", "above", "(II)I"⟩, 51), (⟨"WhereTheLadderModel", "isFruit", "(I)Z"⟩, 51), (⟨"WhereTheLadderModel", "lost", "()I"⟩, 51), (⟨"WhereTheLadderModel", "which", "([II)I"⟩, 51), (⟨"WhereTheLadderModel", "below", "(II)I"⟩, 51), (⟨"WhereTheLadderModel", "isBelow", "(II)Z"⟩, 51), (⟨"WhereTheLadderModel", "isStanding", "(I)Z"⟩, 51)]
theorem lw_r2 : ∀ q ∈ lw_privs_2, aHU q := List.forall_mem_cons.mpr ⟨lw_p16, List.forall_mem_cons.mpr ⟨lw_p17, List.forall_mem_cons.mpr ⟨lw_p18, List.forall_mem_cons.mpr ⟨lw_p19, List.forall_mem_cons.mpr ⟨lw_p20, List.forall_mem_cons.mpr ⟨lw_p21, List.forall_mem_cons.mpr ⟨lw_p22, List.forall_mem_cons.mpr ⟨lw_p23, List.forall_mem_cons.mpr ⟨lw_p24, List.forall_mem_cons.mpr ⟨lw_p25, List.forall_mem_cons.mpr ⟨lw_p26, List.forall_mem_cons.mpr ⟨lw_p27, List.forall_mem_cons.mpr ⟨lw_p28, List.forall_mem_cons.mpr ⟨lw_p29, List.forall_mem_cons.mpr ⟨lw_p30, List.forall_mem_cons.mpr ⟨lw_p31, fun _ h => absurd h List.not_mem_nil⟩⟩⟩⟩⟩⟩⟩⟩⟩⟩⟩⟩⟩⟩⟩⟩
set_option maxRecDepth 100000 in
theorem lw_p32 : aHU (⟨"WhereTheLadderModel", "downOf", "(I)I"⟩, 51) := ⟨aRm, aRl, aLq (List.mem_of_getElem? (i := 60) (by first | rfl | decide +kernel)), aLq (List.mem_of_getElem? (i := 61) (by first | rfl | decide +kernel))⟩
set_option maxRecDepth 100000 in
theorem lw_p33 : aHU (⟨"WhereTheLadderModel", "refusesMove", "(I)I"⟩, 51) := ⟨aRm, aRl, aLq (List.mem_of_getElem? (i := 77) (by first | rfl | decide +kernel)), aLq (List.mem_of_getElem? (i := 78) (by first | rfl | decide +kernel))⟩
set_option maxRecDepth 100000 in
theorem lw_p34 : aHU (⟨"WhereTheLadderModel", "remember", "([I)V"⟩, 51) := ⟨aRm, aRl, aLq (List.mem_of_getElem? (i := 81) (by first | rfl | decide +kernel)), aLq (List.mem_of_getElem? (i := 82) (by first | rfl | decide +kernel))⟩
set_option maxRecDepth 100000 in
theorem lw_p35 : aHU (⟨"WhereTheLadderModel", "goMove", "(I)I"⟩, 51) := ⟨aRm, aRl, aLq (List.mem_of_getElem? (i := 88) (by first | rfl | decide +kernel)), aLq (List.mem_of_getElem? (i := 89) (by first | rfl | decide +kernel))⟩
set_option maxRecDepth 100000 in
theorem lw_p36 : aHU (⟨"WhereTheLadderModel", "moveOf", "(II)I"⟩, 51) := ⟨aRm, aRl, aLq (List.mem_of_getElem? (i := 92) (by first | rfl | decide +kernel)), aLq (List.mem_of_getElem? (i := 93) (by first | rfl | decide +kernel))⟩
set_option maxRecDepth 100000 in
theorem lw_p37 : aHU (⟨"WhereTheLadderModel", "empty", "()I"⟩, 51) := ⟨aRm, aRl, aLq (List.mem_of_getElem? (i := 96) (by first | rfl | decide +kernel)), aLq (List.mem_of_getElem? (i := 97) (by first | rfl | decide +kernel))⟩
set_option maxRecDepth 100000 in
theorem lw_p38 : aHU (⟨"WhereTheLadderModel", "passBy", "(I)V"⟩, 51) := ⟨aRm, aRl, aLq (List.mem_of_getElem? (i := 100) (by first | rfl | decide +kernel)), aLq (List.mem_of_getElem? (i := 101) (by first | rfl | decide +kernel))⟩
set_option maxRecDepth 100000 in
theorem lw_p39 : aHU (⟨"WhereTheLadderModel", "refusesPick", "(II)I"⟩, 51) := ⟨aRm, aRl, aLq (List.mem_of_getElem? (i := 112) (by first | rfl | decide +kernel)), aLq (List.mem_of_getElem? (i := 113) (by first | rfl | decide +kernel))⟩
set_option maxRecDepth 100000 in
theorem lw_p40 : aHU (⟨"WhereTheLadderModel", "reachBy", "(II)I"⟩, 51) := ⟨aRm, aRl, aLq (List.mem_of_getElem? (i := 116) (by first | rfl | decide +kernel)), aLq (List.mem_of_getElem? (i := 117) (by first | rfl | decide +kernel))⟩
set_option maxRecDepth 100000 in
theorem lw_p41 : aHU (⟨"WhereTheLadderModel", "isWithin", "(III)Z"⟩, 51) := ⟨aRm, aRl, aLq (List.mem_of_getElem? (i := 120) (by first | rfl | decide +kernel)), aLq (List.mem_of_getElem? (i := 121) (by first | rfl | decide +kernel))⟩
set_option maxRecDepth 100000 in
theorem lw_p42 : aHU (⟨"WhereTheLadderModel", "goPick", "(II)I"⟩, 51) := ⟨aRm, aRl, aLq (List.mem_of_getElem? (i := 125) (by first | rfl | decide +kernel)), aLq (List.mem_of_getElem? (i := 126) (by first | rfl | decide +kernel))⟩
set_option maxRecDepth 100000 in
theorem lw_p43 : aHU (⟨"WhereTheLadderModel", "secondsOf", "(IIII)I"⟩, 51) := ⟨aRm, aRl, aLq (List.mem_of_getElem? (i := 129) (by first | rfl | decide +kernel)), aLq (List.mem_of_getElem? (i := 130) (by first | rfl | decide +kernel))⟩
set_option maxRecDepth 100000 in
theorem lw_p44 : aHU (⟨"WhereTheLadderModel", "canDown", "()Z"⟩, 51) := ⟨aRm, aRl, aLq (List.mem_of_getElem? (i := 137) (by first | rfl | decide +kernel)), aLq (List.mem_of_getElem? (i := 138) (by first | rfl | decide +kernel))⟩
set_option maxRecDepth 100000 in
theorem lw_p45 : aHU (⟨"WhereTheLadderModel", "goDown", "()I"⟩, 51) := ⟨aRm, aRl, aLq (List.mem_of_getElem? (i := 141) (by first | rfl | decide +kernel)), aLq (List.mem_of_getElem? (i := 142) (by first | rfl | decide +kernel))⟩
set_option maxRecDepth 100000 in
theorem lw_p46 : aHU (⟨"WhereTheLadderModel", "goShake", "()I"⟩, 51) := ⟨aRm, aRl, aLq (List.mem_of_getElem? (i := 149) (by first | rfl | decide +kernel)), aLq (List.mem_of_getElem? (i := 150) (by first | rfl | decide +kernel))⟩
set_option maxRecDepth 100000 in
theorem lw_p47 : aHU (⟨"WhereTheLadderModel", "ripeOnes", "(I)I"⟩, 51) := ⟨aRm, aRl, aLq (List.mem_of_getElem? (i := 153) (by first | rfl | decide +kernel)), aLq (List.mem_of_getElem? (i := 154) (by first | rfl | decide +kernel))⟩
def lw_privs_3 : List (MethodName × Nat) := [(⟨"WhereTheLadderModel", "downOf", "(I)I"⟩, 51), (⟨"WhereTheLadderModel", "refusesMove", "(I)I"⟩, 51), (⟨"WhereTheLadderModel", "remember", "([I)V"⟩, 51), (⟨"WhereTheLadderModel", "goMove", "(I)I"⟩, 51), (⟨"WhereTheLadderModel", "moveOf", "(II)I"⟩, 51), (⟨"WhereTheLadderModel", "empty", "()I"⟩, 51), (⟨"WhereTheLadderModel", "passBy", "(I)V"⟩, 51), (⟨"WhereTheLadderModel", "refusesPick", "(II)I"⟩, 51), (⟨"WhereTheLadderModel", "reachBy", "(II)I"⟩, 51), (⟨"WhereTheLadderModel", "isWithin", "(III)Z"⟩, 51), (⟨"WhereTheLadderModel", "goPick", "(II)I"⟩, 51), (⟨"WhereTheLadderModel", "secondsOf", "(IIII)I"⟩, 51), (⟨"WhereTheLadderModel", "canDown", "()Z"⟩, 51), (⟨"WhereTheLadderModel", "goDown", "()I"⟩, 51), (⟨"WhereTheLadderModel", "goShake", "()I"⟩, 51), (⟨"WhereTheLadderModel", "ripeOnes", "(I)I"⟩, 51)]
theorem lw_r3 : ∀ q ∈ lw_privs_3, aHU q := List.forall_mem_cons.mpr ⟨lw_p32, List.forall_mem_cons.mpr ⟨lw_p33, List.forall_mem_cons.mpr ⟨lw_p34, List.forall_mem_cons.mpr ⟨lw_p35, List.forall_mem_cons.mpr ⟨lw_p36, List.forall_mem_cons.mpr ⟨lw_p37, List.forall_mem_cons.mpr ⟨lw_p38, List.forall_mem_cons.mpr ⟨lw_p39, List.forall_mem_cons.mpr ⟨lw_p40, List.forall_mem_cons.mpr ⟨lw_p41, List.forall_mem_cons.mpr ⟨lw_p42, List.forall_mem_cons.mpr ⟨lw_p43, List.forall_mem_cons.mpr ⟨lw_p44, List.forall_mem_cons.mpr ⟨lw_p45, List.forall_mem_cons.mpr ⟨lw_p46, List.forall_mem_cons.mpr ⟨lw_p47, fun _ h => absurd h List.not_mem_nil⟩⟩⟩⟩⟩⟩⟩⟩⟩⟩⟩⟩⟩⟩⟩⟩
set_option maxRecDepth 100000 in
theorem lw_p48 : aHU (⟨"WhereTheLadderModel", "byHand", "(I)I"⟩, 51) := ⟨aRm, aRl, aLq (List.mem_of_getElem? (i := 157) (by first | rfl | decide +kernel)), aLq (List.mem_of_getElem? (i := 158) (by first | rfl | decide +kernel))⟩
set_option maxRecDepth 100000 in
theorem lw_p49 : aHU (⟨"WhereTheLadderModel", "reachedFrom", "(III)I"⟩, 51) := ⟨aRm, aRl, aLq (List.mem_of_getElem? (i := 161) (by first | rfl | decide +kernel)), aLq (List.mem_of_getElem? (i := 162) (by first | rfl | decide +kernel))⟩
set_option maxRecDepth 100000 in
theorem lw_p50 : aHU (⟨"WhereTheLadderModel", "goSleep", "()I"⟩, 51) := ⟨aRm, aRl, aLq (List.mem_of_getElem? (i := 169) (by first | rfl | decide +kernel)), aLq (List.mem_of_getElem? (i := 170) (by first | rfl | decide +kernel))⟩
set_option maxRecDepth 100000 in
theorem lw_p51 : aHU (⟨"WhereTheLadderModel", "readAct", "(I)V"⟩, 51) := ⟨aRm, aRl, aLq (List.mem_of_getElem? (i := 177) (by first | rfl | decide +kernel)), aLq (List.mem_of_getElem? (i := 178) (by first | rfl | decide +kernel))⟩
set_option maxRecDepth 100000 in
theorem lw_p52 : aHU (⟨"WhereTheLadderModel", "act", "(II)Z"⟩, 51) := ⟨aRm, aRl, aLq (List.mem_of_getElem? (i := 181) (by first | rfl | decide +kernel)), aLq (List.mem_of_getElem? (i := 182) (by first | rfl | decide +kernel))⟩
set_option maxRecDepth 100000 in
theorem lw_p53 : aHU (⟨"WhereTheLadderModel", "tell", "(I)V"⟩, 51) := ⟨aRm, aRl, aLq (List.mem_of_getElem? (i := 185) (by first | rfl | decide +kernel)), aLq (List.mem_of_getElem? (i := 186) (by first | rfl | decide +kernel))⟩
set_option maxRecDepth 100000 in
theorem lw_p54 : aHU (⟨"WhereTheLadderModel", "worthOfAll", "(II)I"⟩, 51) := ⟨aRm, aRl, aLq (List.mem_of_getElem? (i := 205) (by first | rfl | decide +kernel)), aLq (List.mem_of_getElem? (i := 206) (by first | rfl | decide +kernel))⟩
set_option maxRecDepth 100000 in
theorem lw_p55 : aHU (⟨"WhereTheLadderModel", "worthOf", "(II)I"⟩, 51) := ⟨aRm, aRl, aLq (List.mem_of_getElem? (i := 209) (by first | rfl | decide +kernel)), aLq (List.mem_of_getElem? (i := 210) (by first | rfl | decide +kernel))⟩
set_option maxRecDepth 100000 in
theorem lw_p56 : aHU (⟨"WhereTheLadderModel", "layHands", "()V"⟩, 51) := ⟨aRm, aRl, aLq (List.mem_of_getElem? (i := 221) (by first | rfl | decide +kernel)), aLq (List.mem_of_getElem? (i := 222) (by first | rfl | decide +kernel))⟩
set_option maxRecDepth 100000 in
theorem lw_p57 : aHU (⟨"WhereTheLadderModel", "layHands", "(I)V"⟩, 51) := ⟨aRm, aRl, aLq (List.mem_of_getElem? (i := 225) (by first | rfl | decide +kernel)), aLq (List.mem_of_getElem? (i := 226) (by first | rfl | decide +kernel))⟩
set_option maxRecDepth 100000 in
theorem lw_p58 : aHU (⟨"WhereTheLadderModel", "allStandings", "()I"⟩, 51) := ⟨aRm, aRl, aLq (List.mem_of_getElem? (i := 229) (by first | rfl | decide +kernel)), aLq (List.mem_of_getElem? (i := 230) (by first | rfl | decide +kernel))⟩
set_option maxRecDepth 100000 in
theorem lw_p59 : aHU (⟨"WhereTheLadderModel", "handOf", "(I)I"⟩, 51) := ⟨aRm, aRl, aLq (List.mem_of_getElem? (i := 233) (by first | rfl | decide +kernel)), aLq (List.mem_of_getElem? (i := 234) (by first | rfl | decide +kernel))⟩
set_option maxRecDepth 100000 in
theorem lw_p60 : aHU (⟨"WhereTheLadderModel", "leanOf", "(II)I"⟩, 51) := ⟨aRm, aRl, lx_t8 (List.mem_of_getElem? (i := 1) (by first | rfl | decide +kernel)), lx_t8 (List.mem_of_getElem? (i := 2) (by first | rfl | decide +kernel))⟩
set_option maxRecDepth 100000 in
theorem lw_p61 : aHU (⟨"WhereTheLadderModel", "tellCover", "(I)I"⟩, 51) := ⟨aRm, aRl, lx_t8 (List.mem_of_getElem? (i := 9) (by first | rfl | decide +kernel)), lx_t8 (List.mem_of_getElem? (i := 10) (by first | rfl | decide +kernel))⟩
set_option maxRecDepth 100000 in
theorem lw_p62 : aHU (⟨"WhereTheLadderModel", "cover", "(I)I"⟩, 51) := ⟨aRm, aRl, lx_t8 (List.mem_of_getElem? (i := 13) (by first | rfl | decide +kernel)), lx_t8 (List.mem_of_getElem? (i := 14) (by first | rfl | decide +kernel))⟩
set_option maxRecDepth 100000 in
theorem lw_p63 : aHU (⟨"WhereTheLadderModel", "leftBy", "(I)I"⟩, 51) := ⟨aRm, aRl, lx_t8 (List.mem_of_getElem? (i := 32) (by first | rfl | decide +kernel)), lx_t8 (List.mem_of_getElem? (i := 33) (by first | rfl | decide +kernel))⟩
def lw_privs_4 : List (MethodName × Nat) := [(⟨"WhereTheLadderModel", "byHand", "(I)I"⟩, 51), (⟨"WhereTheLadderModel", "reachedFrom", "(III)I"⟩, 51), (⟨"WhereTheLadderModel", "goSleep", "()I"⟩, 51), (⟨"WhereTheLadderModel", "readAct", "(I)V"⟩, 51), (⟨"WhereTheLadderModel", "act", "(II)Z"⟩, 51), (⟨"WhereTheLadderModel", "tell", "(I)V"⟩, 51), (⟨"WhereTheLadderModel", "worthOfAll", "(II)I"⟩, 51), (⟨"WhereTheLadderModel", "worthOf", "(II)I"⟩, 51), (⟨"WhereTheLadderModel", "layHands", "()V"⟩, 51), (⟨"WhereTheLadderModel", "layHands", "(I)V"⟩, 51), (⟨"WhereTheLadderModel", "allStandings", "()I"⟩, 51), (⟨"WhereTheLadderModel", "handOf", "(I)I"⟩, 51), (⟨"WhereTheLadderModel", "leanOf", "(II)I"⟩, 51), (⟨"WhereTheLadderModel", "tellCover", "(I)I"⟩, 51), (⟨"WhereTheLadderModel", "cover", "(I)I"⟩, 51), (⟨"WhereTheLadderModel", "leftBy", "(I)I"⟩, 51)]
theorem lw_r4 : ∀ q ∈ lw_privs_4, aHU q := List.forall_mem_cons.mpr ⟨lw_p48, List.forall_mem_cons.mpr ⟨lw_p49, List.forall_mem_cons.mpr ⟨lw_p50, List.forall_mem_cons.mpr ⟨lw_p51, List.forall_mem_cons.mpr ⟨lw_p52, List.forall_mem_cons.mpr ⟨lw_p53, List.forall_mem_cons.mpr ⟨lw_p54, List.forall_mem_cons.mpr ⟨lw_p55, List.forall_mem_cons.mpr ⟨lw_p56, List.forall_mem_cons.mpr ⟨lw_p57, List.forall_mem_cons.mpr ⟨lw_p58, List.forall_mem_cons.mpr ⟨lw_p59, List.forall_mem_cons.mpr ⟨lw_p60, List.forall_mem_cons.mpr ⟨lw_p61, List.forall_mem_cons.mpr ⟨lw_p62, List.forall_mem_cons.mpr ⟨lw_p63, fun _ h => absurd h List.not_mem_nil⟩⟩⟩⟩⟩⟩⟩⟩⟩⟩⟩⟩⟩⟩⟩⟩
set_option maxRecDepth 100000 in
theorem lw_p64 : aHU (⟨"WhereTheLadderModel", "layMoves", "()V"⟩, 51) := ⟨aRm, aRl, lx_t8 (List.mem_of_getElem? (i := 44) (by first | rfl | decide +kernel)), lx_t8 (List.mem_of_getElem? (i := 45) (by first | rfl | decide +kernel))⟩
set_option maxRecDepth 100000 in
theorem lw_p65 : aHU (⟨"WhereTheLadderModel", "leastMoves", "(II)I"⟩, 51) := ⟨aRm, aRl, lx_t8 (List.mem_of_getElem? (i := 49) (by first | rfl | decide +kernel)), lx_t8 (List.mem_of_getElem? (i := 50) (by first | rfl | decide +kernel))⟩
set_option maxRecDepth 100000 in
theorem lw_p66 : aHU (⟨"WhereTheLadderModel", "besides", "(I)I"⟩, 51) := ⟨aRm, aRl, lx_t8 (List.mem_of_getElem? (i := 53) (by first | rfl | decide +kernel)), lx_t8 (List.mem_of_getElem? (i := 54) (by first | rfl | decide +kernel))⟩
set_option maxRecDepth 100000 in
theorem lw_p67 : aHU (⟨"WhereTheLadderModel", "placeOf", "(I)I"⟩, 51) := ⟨aRm, aRl, lx_t8 (List.mem_of_getElem? (i := 57) (by first | rfl | decide +kernel)), lx_t8 (List.mem_of_getElem? (i := 58) (by first | rfl | decide +kernel))⟩
set_option maxRecDepth 100000 in
theorem lw_p68 : aHU (⟨"WhereTheLadderModel", "laySeconds", "()V"⟩, 51) := ⟨aRm, aRl, lx_t8 (List.mem_of_getElem? (i := 65) (by first | rfl | decide +kernel)), lx_t8 (List.mem_of_getElem? (i := 66) (by first | rfl | decide +kernel))⟩
set_option maxRecDepth 100000 in
theorem lw_p69 : aHU (⟨"WhereTheLadderModel", "workOf", "(I)I"⟩, 51) := ⟨aRm, aRl, lx_t8 (List.mem_of_getElem? (i := 69) (by first | rfl | decide +kernel)), lx_t8 (List.mem_of_getElem? (i := 70) (by first | rfl | decide +kernel))⟩
set_option maxRecDepth 100000 in
theorem lw_p70 : aHU (⟨"WhereTheLadderModel", "hereWanted", "()I"⟩, 51) := ⟨aRm, aRl, lx_t8 (List.mem_of_getElem? (i := 105) (by first | rfl | decide +kernel)), lx_t8 (List.mem_of_getElem? (i := 106) (by first | rfl | decide +kernel))⟩
set_option maxRecDepth 100000 in
theorem lw_p71 : aHU (⟨"WhereTheLadderModel", "loadOf", "(I)I"⟩, 51) := ⟨aRm, aRl, lx_t8 (List.mem_of_getElem? (i := 121) (by first | rfl | decide +kernel)), lx_t8 (List.mem_of_getElem? (i := 122) (by first | rfl | decide +kernel))⟩
set_option maxRecDepth 100000 in
theorem lw_p72 : aHU (⟨"WhereTheLadderModel", "firstRipe", "(I)I"⟩, 51) := ⟨aRm, aRl, lx_t8 (List.mem_of_getElem? (i := 129) (by first | rfl | decide +kernel)), lx_t8 (List.mem_of_getElem? (i := 130) (by first | rfl | decide +kernel))⟩
set_option maxRecDepth 100000 in
theorem lw_p73 : aHU (⟨"WhereTheLadderModel", "allFruits", "()I"⟩, 51) := ⟨aRm, aRl, lx_t8 (List.mem_of_getElem? (i := 153) (by first | rfl | decide +kernel)), lx_t8 (List.mem_of_getElem? (i := 154) (by first | rfl | decide +kernel))⟩
set_option maxRecDepth 100000 in
theorem lw_p74 : aHU (⟨"WhereTheLadderModel", "draw", "(I)I"⟩, 51) := ⟨aRm, aRl, lx_t8 (List.mem_of_getElem? (i := 165) (by first | rfl | decide +kernel)), lx_t8 (List.mem_of_getElem? (i := 166) (by first | rfl | decide +kernel))⟩
def lw_privs_5 : List (MethodName × Nat) := [(⟨"WhereTheLadderModel", "layMoves", "()V"⟩, 51), (⟨"WhereTheLadderModel", "leastMoves", "(II)I"⟩, 51), (⟨"WhereTheLadderModel", "besides", "(I)I"⟩, 51), (⟨"WhereTheLadderModel", "placeOf", "(I)I"⟩, 51), (⟨"WhereTheLadderModel", "laySeconds", "()V"⟩, 51), (⟨"WhereTheLadderModel", "workOf", "(I)I"⟩, 51), (⟨"WhereTheLadderModel", "hereWanted", "()I"⟩, 51), (⟨"WhereTheLadderModel", "loadOf", "(I)I"⟩, 51), (⟨"WhereTheLadderModel", "firstRipe", "(I)I"⟩, 51), (⟨"WhereTheLadderModel", "allFruits", "()I"⟩, 51), (⟨"WhereTheLadderModel", "draw", "(I)I"⟩, 51)]
theorem lw_r5 : ∀ q ∈ lw_privs_5, aHU q := List.forall_mem_cons.mpr ⟨lw_p64, List.forall_mem_cons.mpr ⟨lw_p65, List.forall_mem_cons.mpr ⟨lw_p66, List.forall_mem_cons.mpr ⟨lw_p67, List.forall_mem_cons.mpr ⟨lw_p68, List.forall_mem_cons.mpr ⟨lw_p69, List.forall_mem_cons.mpr ⟨lw_p70, List.forall_mem_cons.mpr ⟨lw_p71, List.forall_mem_cons.mpr ⟨lw_p72, List.forall_mem_cons.mpr ⟨lw_p73, List.forall_mem_cons.mpr ⟨lw_p74, fun _ h => absurd h List.not_mem_nil⟩⟩⟩⟩⟩⟩⟩⟩⟩⟩⟩
def lw_privs : List (MethodName × Nat) := lw_privs_1 ++ (lw_privs_2 ++ (lw_privs_3 ++ (lw_privs_4 ++ (lw_privs_5))))
def lw_tbl : List Cond := k2_sels lw_privs ++ tables_1
theorem lw_privs_ok : ∀ q ∈ lw_privs, aHU q := by
  show ∀ q ∈ lw_privs_1 ++ (lw_privs_2 ++ (lw_privs_3 ++ (lw_privs_4 ++ (lw_privs_5)))), aHU q
  exact List.forall_mem_append.mpr ⟨lw_r1, List.forall_mem_append.mpr ⟨lw_r2, List.forall_mem_append.mpr ⟨lw_r3, List.forall_mem_append.mpr ⟨lw_r4, lw_r5⟩⟩⟩⟩
