/-! decode rows by a few bytes: an instruction that is no switch shows the same at any place of any code -/
def rAg (c : ByteArray) (p : Nat) (d : ByteArray) (q : Nat) : Prop := ∀ (k : Nat) (b : UInt8), d.data.toList[q + k]? = some b → c.data.toList[p + k]? = some b
def rSim {α : Type} (r : Decoder α) : Prop := ∀ (c d : ByteArray) (p q : Nat), rAg c p d q → ∀ (a : α) (s : Nat), Reader.runAt r d q = .ok (a, s) → ∃ k : Nat, s = q + k ∧ Reader.runAt r c p = .ok (a, p + k)
theorem rAg_s {c d : ByteArray} {p q : Nat} (h : rAg c p d q) (k : Nat) : rAg c (p + k) d (q + k) := by
  intro j b hb
  have h1 := h (k + j) b (by rw [← Nat.add_assoc]; exact hb)
  rw [← Nat.add_assoc] at h1
  exact h1
theorem r_bo {α β : Type} (x : Decoder α) (f : α → Decoder β) (c : ByteArray) (p : Nat) {a : α} {s : Nat} (h : Reader.runAt x c p = .ok (a, s)) : Reader.runAt (x >>= f) c p = Reader.runAt (f a) c s := by
  have e : Reader.runAt (x >>= f) c p = (Reader.runAt x c p >>= fun r => Reader.runAt (f r.1) c r.2) := by
    first
      | rfl
      | (unfold Reader.runAt; rw [ReaderT.run_bind, StateT.run_bind])
  rw [e, h]
  rfl
theorem r_be {α β : Type} (x : Decoder α) (f : α → Decoder β) (c : ByteArray) (p : Nat) {z : DecodeError} (h : Reader.runAt x c p = .error z) : Reader.runAt (x >>= f) c p = .error z := by
  have e : Reader.runAt (x >>= f) c p = (Reader.runAt x c p >>= fun r => Reader.runAt (f r.1) c r.2) := by
    first
      | rfl
      | (unfold Reader.runAt; rw [ReaderT.run_bind, StateT.run_bind])
  rw [e, h]
  rfl
theorem r_u0 (c : ByteArray) (p : Nat) : Reader.runAt (Reader.u1 : Decoder Nat) c p = Reader.runAt (if h : p < c.size then (do set (p + 1); pure (c[p]'h).toNat) else throw (HasTruncated.truncated p) : Decoder Nat) c p := rfl
theorem r_u (c : ByteArray) (p : Nat) {b : UInt8} (h : c.data.toList[p]? = some b) : Reader.runAt (Reader.u1 : Decoder Nat) c p = .ok (b.toNat, p + 1) := by
  obtain ⟨hp, e⟩ := List.getElem?_eq_some_iff.mp h
  have hs : p < c.size := hp
  rw [r_u0, dif_pos hs]
  have e2 : c[p]'hs = b := e
  rw [e2]
  rfl
theorem r_ui {d : ByteArray} {q v s : Nat} (h : Reader.runAt (Reader.u1 : Decoder Nat) d q = .ok (v, s)) : ∃ b : UInt8, d.data.toList[q]? = some b ∧ v = b.toNat ∧ s = q + 1 := by
  cases hb : d.data.toList[q]? with
  | some b =>
    rw [r_u d q hb] at h
    injection h with h
    injection h with h1 h2
    exact ⟨b, rfl, h1.symm, h2.symm⟩
  | none =>
    have hs : ¬ q < d.size := by
      intro hq
      rw [List.getElem?_eq_getElem (show q < d.data.toList.length from hq)] at hb
      exact nomatch hb
    rw [r_u0, dif_neg hs] at h
    have h2 : ∀ z : DecodeError, (Except.error z : Except DecodeError (Nat × Nat)) = .ok (v, s) → False := fun z h => nomatch h
    exact (h2 _ h).elim
theorem sim_u1 : rSim (Reader.u1 : Decoder Nat) := by
  intro c d p q hA a s h
  obtain ⟨b, hb, e1, e2⟩ := r_ui h
  subst e1 e2
  exact ⟨1, rfl, r_u c p (hA 0 b hb)⟩
theorem sim_pure {α : Type} (a : α) : rSim (pure a : Decoder α) := by
  intro c d p q hA a' s h
  have h2 : (Except.ok (a, q) : Except DecodeError (α × Nat)) = .ok (a', s) := h
  injection h2 with h3
  injection h3 with h4 h5
  subst h4 h5
  exact ⟨0, rfl, rfl⟩
theorem sim_bind {α β : Type} {x : Decoder α} {f : α → Decoder β} (hx : rSim x) (hf : ∀ a, rSim (f a)) : rSim (x >>= f) := by
  intro c d p q hA b s h
  cases hd : Reader.runAt x d q with
  | error z =>
    rw [r_be _ _ _ _ hd] at h
    exact nomatch h
  | ok r =>
    obtain ⟨a1, s1⟩ := r
    rw [r_bo _ _ _ _ hd] at h
    obtain ⟨k1, e1, g1⟩ := hx c d p q hA a1 s1 hd
    subst e1
    obtain ⟨k2, e2, g2⟩ := hf a1 c d (p + k1) (q + k1) (rAg_s hA k1) b s h
    refine ⟨k1 + k2, by omega, ?_⟩
    rw [r_bo _ _ _ _ g1, g2, Nat.add_assoc]
theorem sim_map {α β : Type} {x : Decoder α} (g : α → β) (hx : rSim x) : rSim (g <$> x) := by
  have e : (g <$> x) = (x >>= fun v => pure (g v)) := by
    first
      | rfl
      | exact map_eq_pure_bind g x
  rw [e]
  exact sim_bind hx (fun v => sim_pure (g v))
theorem sim_u2 : rSim (Reader.u2 : Decoder Nat) := sim_bind sim_u1 (fun _ => sim_bind sim_u1 (fun _ => sim_pure _))
theorem sim_s1 : rSim (Reader.s1 : Decoder Int) := sim_map _ sim_u1
theorem sim_s2 : rSim (Reader.s2 : Decoder Int) := sim_map _ sim_u2
def rOp (k : Nat) : Prop := ∃ r : Decoder Instr, rSim r ∧ ∀ (pc : Nat) (c : ByteArray) (p : Nat), Reader.runAt (Reader.u1 : Decoder Nat) c p = .ok (k, p + 1) → Reader.runAt (Decoder.instr pc) c p = Reader.runAt r c (p + 1)
set_option maxRecDepth 20000 in
theorem op_2 : rOp 2 := ⟨pure (.iconst (-1)), sim_pure _, fun _ c p h => r_bo Reader.u1 _ c p h⟩
set_option maxRecDepth 20000 in
theorem op_3 : rOp 3 := ⟨pure (.iconst 0), sim_pure _, fun _ c p h => r_bo Reader.u1 _ c p h⟩
set_option maxRecDepth 20000 in
theorem op_4 : rOp 4 := ⟨pure (.iconst 1), sim_pure _, fun _ c p h => r_bo Reader.u1 _ c p h⟩
set_option maxRecDepth 20000 in
theorem op_5 : rOp 5 := ⟨pure (.iconst 2), sim_pure _, fun _ c p h => r_bo Reader.u1 _ c p h⟩
set_option maxRecDepth 20000 in
theorem op_6 : rOp 6 := ⟨pure (.iconst 3), sim_pure _, fun _ c p h => r_bo Reader.u1 _ c p h⟩
set_option maxRecDepth 20000 in
theorem op_7 : rOp 7 := ⟨pure (.iconst 4), sim_pure _, fun _ c p h => r_bo Reader.u1 _ c p h⟩
set_option maxRecDepth 20000 in
theorem op_8 : rOp 8 := ⟨pure (.iconst 5), sim_pure _, fun _ c p h => r_bo Reader.u1 _ c p h⟩
set_option maxRecDepth 20000 in
theorem op_16 : rOp 16 := ⟨Reader.s1 >>= fun v => pure (.bipush v), sim_bind sim_s1 (fun _ => sim_pure _), fun _ c p h => r_bo Reader.u1 _ c p h⟩
set_option maxRecDepth 20000 in
theorem op_17 : rOp 17 := ⟨Reader.s2 >>= fun v => pure (.sipush v), sim_bind sim_s2 (fun _ => sim_pure _), fun _ c p h => r_bo Reader.u1 _ c p h⟩
set_option maxRecDepth 20000 in
theorem op_18 : rOp 18 := ⟨Reader.u1 >>= fun v => pure (.ldc v), sim_bind sim_u1 (fun _ => sim_pure _), fun _ c p h => r_bo Reader.u1 _ c p h⟩
set_option maxRecDepth 20000 in
theorem op_19 : rOp 19 := ⟨Reader.u2 >>= fun v => pure (.ldc_w v), sim_bind sim_u2 (fun _ => sim_pure _), fun _ c p h => r_bo Reader.u1 _ c p h⟩
set_option maxRecDepth 20000 in
theorem op_21 : rOp 21 := ⟨Reader.u1 >>= fun v => pure (.iload v), sim_bind sim_u1 (fun _ => sim_pure _), fun _ c p h => r_bo Reader.u1 _ c p h⟩
set_option maxRecDepth 20000 in
theorem op_25 : rOp 25 := ⟨Reader.u1 >>= fun v => pure (.aload v), sim_bind sim_u1 (fun _ => sim_pure _), fun _ c p h => r_bo Reader.u1 _ c p h⟩
set_option maxRecDepth 20000 in
theorem op_26 : rOp 26 := ⟨pure (.iload_n 0), sim_pure _, fun _ c p h => r_bo Reader.u1 _ c p h⟩
set_option maxRecDepth 20000 in
theorem op_27 : rOp 27 := ⟨pure (.iload_n 1), sim_pure _, fun _ c p h => r_bo Reader.u1 _ c p h⟩
set_option maxRecDepth 20000 in
theorem op_28 : rOp 28 := ⟨pure (.iload_n 2), sim_pure _, fun _ c p h => r_bo Reader.u1 _ c p h⟩
set_option maxRecDepth 20000 in
theorem op_29 : rOp 29 := ⟨pure (.iload_n 3), sim_pure _, fun _ c p h => r_bo Reader.u1 _ c p h⟩
set_option maxRecDepth 20000 in
theorem op_42 : rOp 42 := ⟨pure (.aload_n 0), sim_pure _, fun _ c p h => r_bo Reader.u1 _ c p h⟩
set_option maxRecDepth 20000 in
theorem op_43 : rOp 43 := ⟨pure (.aload_n 1), sim_pure _, fun _ c p h => r_bo Reader.u1 _ c p h⟩
set_option maxRecDepth 20000 in
theorem op_44 : rOp 44 := ⟨pure (.aload_n 2), sim_pure _, fun _ c p h => r_bo Reader.u1 _ c p h⟩
set_option maxRecDepth 20000 in
theorem op_45 : rOp 45 := ⟨pure (.aload_n 3), sim_pure _, fun _ c p h => r_bo Reader.u1 _ c p h⟩
set_option maxRecDepth 20000 in
theorem op_46 : rOp 46 := ⟨pure (.iaload), sim_pure _, fun _ c p h => r_bo Reader.u1 _ c p h⟩
set_option maxRecDepth 20000 in
theorem op_51 : rOp 51 := ⟨pure (.baload), sim_pure _, fun _ c p h => r_bo Reader.u1 _ c p h⟩
set_option maxRecDepth 20000 in
theorem op_52 : rOp 52 := ⟨pure (.caload), sim_pure _, fun _ c p h => r_bo Reader.u1 _ c p h⟩
set_option maxRecDepth 20000 in
theorem op_54 : rOp 54 := ⟨Reader.u1 >>= fun v => pure (.istore v), sim_bind sim_u1 (fun _ => sim_pure _), fun _ c p h => r_bo Reader.u1 _ c p h⟩
set_option maxRecDepth 20000 in
theorem op_58 : rOp 58 := ⟨Reader.u1 >>= fun v => pure (.astore v), sim_bind sim_u1 (fun _ => sim_pure _), fun _ c p h => r_bo Reader.u1 _ c p h⟩
set_option maxRecDepth 20000 in
theorem op_59 : rOp 59 := ⟨pure (.istore_n 0), sim_pure _, fun _ c p h => r_bo Reader.u1 _ c p h⟩
set_option maxRecDepth 20000 in
theorem op_60 : rOp 60 := ⟨pure (.istore_n 1), sim_pure _, fun _ c p h => r_bo Reader.u1 _ c p h⟩
set_option maxRecDepth 20000 in
theorem op_61 : rOp 61 := ⟨pure (.istore_n 2), sim_pure _, fun _ c p h => r_bo Reader.u1 _ c p h⟩
set_option maxRecDepth 20000 in
theorem op_62 : rOp 62 := ⟨pure (.istore_n 3), sim_pure _, fun _ c p h => r_bo Reader.u1 _ c p h⟩
set_option maxRecDepth 20000 in
theorem op_75 : rOp 75 := ⟨pure (.astore_n 0), sim_pure _, fun _ c p h => r_bo Reader.u1 _ c p h⟩
set_option maxRecDepth 20000 in
theorem op_76 : rOp 76 := ⟨pure (.astore_n 1), sim_pure _, fun _ c p h => r_bo Reader.u1 _ c p h⟩
set_option maxRecDepth 20000 in
theorem op_77 : rOp 77 := ⟨pure (.astore_n 2), sim_pure _, fun _ c p h => r_bo Reader.u1 _ c p h⟩
set_option maxRecDepth 20000 in
theorem op_78 : rOp 78 := ⟨pure (.astore_n 3), sim_pure _, fun _ c p h => r_bo Reader.u1 _ c p h⟩
set_option maxRecDepth 20000 in
theorem op_79 : rOp 79 := ⟨pure (.iastore), sim_pure _, fun _ c p h => r_bo Reader.u1 _ c p h⟩
set_option maxRecDepth 20000 in
theorem op_80 : rOp 80 := ⟨pure (.lastore), sim_pure _, fun _ c p h => r_bo Reader.u1 _ c p h⟩
set_option maxRecDepth 20000 in
theorem op_84 : rOp 84 := ⟨pure (.bastore), sim_pure _, fun _ c p h => r_bo Reader.u1 _ c p h⟩
set_option maxRecDepth 20000 in
theorem op_85 : rOp 85 := ⟨pure (.castore), sim_pure _, fun _ c p h => r_bo Reader.u1 _ c p h⟩
set_option maxRecDepth 20000 in
theorem op_87 : rOp 87 := ⟨pure (.pop), sim_pure _, fun _ c p h => r_bo Reader.u1 _ c p h⟩
set_option maxRecDepth 20000 in
theorem op_89 : rOp 89 := ⟨pure (.dup), sim_pure _, fun _ c p h => r_bo Reader.u1 _ c p h⟩
set_option maxRecDepth 20000 in
theorem op_90 : rOp 90 := ⟨pure (.dup_x1), sim_pure _, fun _ c p h => r_bo Reader.u1 _ c p h⟩
set_option maxRecDepth 20000 in
theorem op_92 : rOp 92 := ⟨pure (.dup2), sim_pure _, fun _ c p h => r_bo Reader.u1 _ c p h⟩
set_option maxRecDepth 20000 in
theorem op_96 : rOp 96 := ⟨pure (.iadd), sim_pure _, fun _ c p h => r_bo Reader.u1 _ c p h⟩
set_option maxRecDepth 20000 in
theorem op_100 : rOp 100 := ⟨pure (.isub), sim_pure _, fun _ c p h => r_bo Reader.u1 _ c p h⟩
set_option maxRecDepth 20000 in
theorem op_104 : rOp 104 := ⟨pure (.imul), sim_pure _, fun _ c p h => r_bo Reader.u1 _ c p h⟩
set_option maxRecDepth 20000 in
theorem op_108 : rOp 108 := ⟨pure (.idiv), sim_pure _, fun _ c p h => r_bo Reader.u1 _ c p h⟩
set_option maxRecDepth 20000 in
theorem op_112 : rOp 112 := ⟨pure (.irem), sim_pure _, fun _ c p h => r_bo Reader.u1 _ c p h⟩
set_option maxRecDepth 20000 in
theorem op_116 : rOp 116 := ⟨pure (.ineg), sim_pure _, fun _ c p h => r_bo Reader.u1 _ c p h⟩
set_option maxRecDepth 20000 in
theorem op_120 : rOp 120 := ⟨pure (.ishl), sim_pure _, fun _ c p h => r_bo Reader.u1 _ c p h⟩
set_option maxRecDepth 20000 in
theorem op_122 : rOp 122 := ⟨pure (.ishr), sim_pure _, fun _ c p h => r_bo Reader.u1 _ c p h⟩
set_option maxRecDepth 20000 in
theorem op_124 : rOp 124 := ⟨pure (.iushr), sim_pure _, fun _ c p h => r_bo Reader.u1 _ c p h⟩
set_option maxRecDepth 20000 in
theorem op_126 : rOp 126 := ⟨pure (.iand), sim_pure _, fun _ c p h => r_bo Reader.u1 _ c p h⟩
set_option maxRecDepth 20000 in
theorem op_128 : rOp 128 := ⟨pure (.ior), sim_pure _, fun _ c p h => r_bo Reader.u1 _ c p h⟩
set_option maxRecDepth 20000 in
theorem op_130 : rOp 130 := ⟨pure (.ixor), sim_pure _, fun _ c p h => r_bo Reader.u1 _ c p h⟩
set_option maxRecDepth 20000 in
theorem op_132 : rOp 132 := ⟨Reader.u1 >>= fun v => Reader.s1 >>= fun w => pure (.iinc v w), sim_bind sim_u1 (fun _ => sim_bind sim_s1 (fun _ => sim_pure _)), fun _ c p h => r_bo Reader.u1 _ c p h⟩
set_option maxRecDepth 20000 in
theorem op_133 : rOp 133 := ⟨pure (.i2l), sim_pure _, fun _ c p h => r_bo Reader.u1 _ c p h⟩
set_option maxRecDepth 20000 in
theorem op_145 : rOp 145 := ⟨pure (.i2b), sim_pure _, fun _ c p h => r_bo Reader.u1 _ c p h⟩
set_option maxRecDepth 20000 in
theorem op_146 : rOp 146 := ⟨pure (.i2c), sim_pure _, fun _ c p h => r_bo Reader.u1 _ c p h⟩
set_option maxRecDepth 20000 in
theorem op_147 : rOp 147 := ⟨pure (.i2s), sim_pure _, fun _ c p h => r_bo Reader.u1 _ c p h⟩
set_option maxRecDepth 20000 in
theorem op_153 : rOp 153 := ⟨Reader.s2 >>= fun v => pure (.ifCond .eq v), sim_bind sim_s2 (fun _ => sim_pure _), fun _ c p h => r_bo Reader.u1 _ c p h⟩
set_option maxRecDepth 20000 in
theorem op_154 : rOp 154 := ⟨Reader.s2 >>= fun v => pure (.ifCond .ne v), sim_bind sim_s2 (fun _ => sim_pure _), fun _ c p h => r_bo Reader.u1 _ c p h⟩
set_option maxRecDepth 20000 in
theorem op_155 : rOp 155 := ⟨Reader.s2 >>= fun v => pure (.ifCond .lt v), sim_bind sim_s2 (fun _ => sim_pure _), fun _ c p h => r_bo Reader.u1 _ c p h⟩
set_option maxRecDepth 20000 in
theorem op_156 : rOp 156 := ⟨Reader.s2 >>= fun v => pure (.ifCond .ge v), sim_bind sim_s2 (fun _ => sim_pure _), fun _ c p h => r_bo Reader.u1 _ c p h⟩
set_option maxRecDepth 20000 in
theorem op_157 : rOp 157 := ⟨Reader.s2 >>= fun v => pure (.ifCond .gt v), sim_bind sim_s2 (fun _ => sim_pure _), fun _ c p h => r_bo Reader.u1 _ c p h⟩
set_option maxRecDepth 20000 in
theorem op_158 : rOp 158 := ⟨Reader.s2 >>= fun v => pure (.ifCond .le v), sim_bind sim_s2 (fun _ => sim_pure _), fun _ c p h => r_bo Reader.u1 _ c p h⟩
set_option maxRecDepth 20000 in
theorem op_159 : rOp 159 := ⟨Reader.s2 >>= fun v => pure (.if_icmp .eq v), sim_bind sim_s2 (fun _ => sim_pure _), fun _ c p h => r_bo Reader.u1 _ c p h⟩
set_option maxRecDepth 20000 in
theorem op_160 : rOp 160 := ⟨Reader.s2 >>= fun v => pure (.if_icmp .ne v), sim_bind sim_s2 (fun _ => sim_pure _), fun _ c p h => r_bo Reader.u1 _ c p h⟩
set_option maxRecDepth 20000 in
theorem op_161 : rOp 161 := ⟨Reader.s2 >>= fun v => pure (.if_icmp .lt v), sim_bind sim_s2 (fun _ => sim_pure _), fun _ c p h => r_bo Reader.u1 _ c p h⟩
set_option maxRecDepth 20000 in
theorem op_162 : rOp 162 := ⟨Reader.s2 >>= fun v => pure (.if_icmp .ge v), sim_bind sim_s2 (fun _ => sim_pure _), fun _ c p h => r_bo Reader.u1 _ c p h⟩
set_option maxRecDepth 20000 in
theorem op_163 : rOp 163 := ⟨Reader.s2 >>= fun v => pure (.if_icmp .gt v), sim_bind sim_s2 (fun _ => sim_pure _), fun _ c p h => r_bo Reader.u1 _ c p h⟩
set_option maxRecDepth 20000 in
theorem op_164 : rOp 164 := ⟨Reader.s2 >>= fun v => pure (.if_icmp .le v), sim_bind sim_s2 (fun _ => sim_pure _), fun _ c p h => r_bo Reader.u1 _ c p h⟩
set_option maxRecDepth 20000 in
theorem op_167 : rOp 167 := ⟨Reader.s2 >>= fun v => pure (.goto v), sim_bind sim_s2 (fun _ => sim_pure _), fun _ c p h => r_bo Reader.u1 _ c p h⟩
set_option maxRecDepth 20000 in
theorem op_172 : rOp 172 := ⟨pure (.ireturn), sim_pure _, fun _ c p h => r_bo Reader.u1 _ c p h⟩
set_option maxRecDepth 20000 in
theorem op_177 : rOp 177 := ⟨pure (.return_), sim_pure _, fun _ c p h => r_bo Reader.u1 _ c p h⟩
set_option maxRecDepth 20000 in
theorem op_178 : rOp 178 := ⟨Reader.u2 >>= fun v => pure (.getstatic v), sim_bind sim_u2 (fun _ => sim_pure _), fun _ c p h => r_bo Reader.u1 _ c p h⟩
set_option maxRecDepth 20000 in
theorem op_180 : rOp 180 := ⟨Reader.u2 >>= fun v => pure (.getfield v), sim_bind sim_u2 (fun _ => sim_pure _), fun _ c p h => r_bo Reader.u1 _ c p h⟩
set_option maxRecDepth 20000 in
theorem op_181 : rOp 181 := ⟨Reader.u2 >>= fun v => pure (.putfield v), sim_bind sim_u2 (fun _ => sim_pure _), fun _ c p h => r_bo Reader.u1 _ c p h⟩
set_option maxRecDepth 20000 in
theorem op_182 : rOp 182 := ⟨Reader.u2 >>= fun v => pure (.invokevirtual v), sim_bind sim_u2 (fun _ => sim_pure _), fun _ c p h => r_bo Reader.u1 _ c p h⟩
set_option maxRecDepth 20000 in
theorem op_183 : rOp 183 := ⟨Reader.u2 >>= fun v => pure (.invokespecial v), sim_bind sim_u2 (fun _ => sim_pure _), fun _ c p h => r_bo Reader.u1 _ c p h⟩
set_option maxRecDepth 20000 in
theorem op_184 : rOp 184 := ⟨Reader.u2 >>= fun v => pure (.invokestatic v), sim_bind sim_u2 (fun _ => sim_pure _), fun _ c p h => r_bo Reader.u1 _ c p h⟩
set_option maxRecDepth 20000 in
theorem op_187 : rOp 187 := ⟨Reader.u2 >>= fun v => pure (.new v), sim_bind sim_u2 (fun _ => sim_pure _), fun _ c p h => r_bo Reader.u1 _ c p h⟩
set_option maxRecDepth 20000 in
theorem op_190 : rOp 190 := ⟨pure (.arraylength), sim_pure _, fun _ c p h => r_bo Reader.u1 _ c p h⟩
set_option maxRecDepth 20000 in
theorem op_191 : rOp 191 := ⟨pure (.athrow), sim_pure _, fun _ c p h => r_bo Reader.u1 _ c p h⟩
def opsL : List Nat := [2, 3, 4, 5, 6, 7, 8, 16, 17, 18, 19, 21, 25, 26, 27, 28, 29, 42, 43, 44, 45, 46, 51, 52, 54, 58, 59, 60, 61, 62, 75, 76, 77, 78, 79, 80, 84, 85, 87, 89, 90, 92, 96, 100, 104, 108, 112, 116, 120, 122, 124, 126, 128, 130, 132, 133, 145, 146, 147, 153, 154, 155, 156, 157, 158, 159, 160, 161, 162, 163, 164, 167, 172, 177, 178, 180, 181, 182, 183, 184, 187, 190, 191]
set_option maxRecDepth 20000 in
theorem ops_ok : ∀ k ∈ opsL, rOp k := (List.forall_mem_cons.mpr ⟨op_2, (List.forall_mem_cons.mpr ⟨op_3, (List.forall_mem_cons.mpr ⟨op_4, (List.forall_mem_cons.mpr ⟨op_5, (List.forall_mem_cons.mpr ⟨op_6, (List.forall_mem_cons.mpr ⟨op_7, (List.forall_mem_cons.mpr ⟨op_8, (List.forall_mem_cons.mpr ⟨op_16, (List.forall_mem_cons.mpr ⟨op_17, (List.forall_mem_cons.mpr ⟨op_18, (List.forall_mem_cons.mpr ⟨op_19, (List.forall_mem_cons.mpr ⟨op_21, (List.forall_mem_cons.mpr ⟨op_25, (List.forall_mem_cons.mpr ⟨op_26, (List.forall_mem_cons.mpr ⟨op_27, (List.forall_mem_cons.mpr ⟨op_28, (List.forall_mem_cons.mpr ⟨op_29, (List.forall_mem_cons.mpr ⟨op_42, (List.forall_mem_cons.mpr ⟨op_43, (List.forall_mem_cons.mpr ⟨op_44, (List.forall_mem_cons.mpr ⟨op_45, (List.forall_mem_cons.mpr ⟨op_46, (List.forall_mem_cons.mpr ⟨op_51, (List.forall_mem_cons.mpr ⟨op_52, (List.forall_mem_cons.mpr ⟨op_54, (List.forall_mem_cons.mpr ⟨op_58, (List.forall_mem_cons.mpr ⟨op_59, (List.forall_mem_cons.mpr ⟨op_60, (List.forall_mem_cons.mpr ⟨op_61, (List.forall_mem_cons.mpr ⟨op_62, (List.forall_mem_cons.mpr ⟨op_75, (List.forall_mem_cons.mpr ⟨op_76, (List.forall_mem_cons.mpr ⟨op_77, (List.forall_mem_cons.mpr ⟨op_78, (List.forall_mem_cons.mpr ⟨op_79, (List.forall_mem_cons.mpr ⟨op_80, (List.forall_mem_cons.mpr ⟨op_84, (List.forall_mem_cons.mpr ⟨op_85, (List.forall_mem_cons.mpr ⟨op_87, (List.forall_mem_cons.mpr ⟨op_89, (List.forall_mem_cons.mpr ⟨op_90, (List.forall_mem_cons.mpr ⟨op_92, (List.forall_mem_cons.mpr ⟨op_96, (List.forall_mem_cons.mpr ⟨op_100, (List.forall_mem_cons.mpr ⟨op_104, (List.forall_mem_cons.mpr ⟨op_108, (List.forall_mem_cons.mpr ⟨op_112, (List.forall_mem_cons.mpr ⟨op_116, (List.forall_mem_cons.mpr ⟨op_120, (List.forall_mem_cons.mpr ⟨op_122, (List.forall_mem_cons.mpr ⟨op_124, (List.forall_mem_cons.mpr ⟨op_126, (List.forall_mem_cons.mpr ⟨op_128, (List.forall_mem_cons.mpr ⟨op_130, (List.forall_mem_cons.mpr ⟨op_132, (List.forall_mem_cons.mpr ⟨op_133, (List.forall_mem_cons.mpr ⟨op_145, (List.forall_mem_cons.mpr ⟨op_146, (List.forall_mem_cons.mpr ⟨op_147, (List.forall_mem_cons.mpr ⟨op_153, (List.forall_mem_cons.mpr ⟨op_154, (List.forall_mem_cons.mpr ⟨op_155, (List.forall_mem_cons.mpr ⟨op_156, (List.forall_mem_cons.mpr ⟨op_157, (List.forall_mem_cons.mpr ⟨op_158, (List.forall_mem_cons.mpr ⟨op_159, (List.forall_mem_cons.mpr ⟨op_160, (List.forall_mem_cons.mpr ⟨op_161, (List.forall_mem_cons.mpr ⟨op_162, (List.forall_mem_cons.mpr ⟨op_163, (List.forall_mem_cons.mpr ⟨op_164, (List.forall_mem_cons.mpr ⟨op_167, (List.forall_mem_cons.mpr ⟨op_172, (List.forall_mem_cons.mpr ⟨op_177, (List.forall_mem_cons.mpr ⟨op_178, (List.forall_mem_cons.mpr ⟨op_180, (List.forall_mem_cons.mpr ⟨op_181, (List.forall_mem_cons.mpr ⟨op_182, (List.forall_mem_cons.mpr ⟨op_183, (List.forall_mem_cons.mpr ⟨op_184, (List.forall_mem_cons.mpr ⟨op_187, (List.forall_mem_cons.mpr ⟨op_190, (List.forall_mem_cons.mpr ⟨op_191, (fun _ h => nomatch h)⟩)⟩)⟩)⟩)⟩)⟩)⟩)⟩)⟩)⟩)⟩)⟩)⟩)⟩)⟩)⟩)⟩)⟩)⟩)⟩)⟩)⟩)⟩)⟩)⟩)⟩)⟩)⟩)⟩)⟩)⟩)⟩)⟩)⟩)⟩)⟩)⟩)⟩)⟩)⟩)⟩)⟩)⟩)⟩)⟩)⟩)⟩)⟩)⟩)⟩)⟩)⟩)⟩)⟩)⟩)⟩)⟩)⟩)⟩)⟩)⟩)⟩)⟩)⟩)⟩)⟩)⟩)⟩)⟩)⟩)⟩)⟩)⟩)⟩)⟩)⟩)⟩)⟩)⟩)⟩)⟩)⟩)⟩)
def okop (k : Nat) : Bool := Nat.testBit 4952073998505374337039693691068910941904998841550642283004 k
theorem okop_in : ∀ k : Fin 256, okop k.1 = true → k.1 ∈ opsL := by decide +kernel
noncomputable def drp (l : List UInt8) : Nat → List UInt8 := List.rec (motive := fun _ => Nat → List UInt8) (fun _ => []) (fun a as ih n => Nat.rec (motive := fun _ => List UInt8) (a :: as) (fun m _ => ih m) n) l
theorem drp_eq : ∀ (l : List UInt8) (n : Nat), drp l n = l.drop n := by
  intro l
  induction l with
  | nil => intro n; cases n <;> rfl
  | cons a as ih =>
    intro n
    cases n with
    | zero => rfl
    | succ n => exact ih n
noncomputable def fchk (c : ByteArray) (pc : Nat) (r : Instr × Nat) : Bool := match drp c.data.toList pc with
  | [] => false
  | b :: l => okop b.toNat && decide (decode ⟨(b :: l.take 2).toArray⟩ 0 = .ok r)
theorem dc_o {c : ByteArray} {pc : Nat} {i : Instr} {s : Nat} (h : Reader.runAt (Decoder.instr pc) c pc = .ok (i, s)) : decode c pc = .ok (i, s - pc) := by
  unfold decode
  rw [h]
  rfl
theorem dc_e {c : ByteArray} {pc : Nat} {z : DecodeError} (h : Reader.runAt (Decoder.instr pc) c pc = .error z) : decode c pc = .error z := by
  unfold decode
  rw [h]
  rfl
theorem fchk_ok {c : ByteArray} {pc : Nat} {r : Instr × Nat} (h : fchk c pc r = true) : decode c pc = .ok r := by
  unfold fchk at h
  rw [drp_eq] at h
  cases hl : c.data.toList.drop pc with
  | nil =>
    rw [hl] at h
    exact nomatch h
  | cons b l =>
    rw [hl] at h
    have h : (okop b.toNat && decide (decode ⟨(b :: l.take 2).toArray⟩ 0 = .ok r)) = true := h
    rw [Bool.and_eq_true, decide_eq_true_eq] at h
    obtain ⟨h1, h2⟩ := h
    have hAg : rAg c pc ⟨(b :: l.take 2).toArray⟩ 0 := by
      intro k b' hb
      have hb : (b :: l.take 2)[0 + k]? = some b' := hb
      rw [Nat.zero_add] at hb
      rw [← List.getElem?_drop, hl]
      cases k with
      | zero => exact hb
      | succ k =>
        rw [List.getElem?_cons_succ] at hb ⊢
        rw [List.getElem?_take] at hb
        split at hb
        · exact hb
        · exact nomatch hb
    obtain ⟨rd, hs, H⟩ := ops_ok _ (okop_in ⟨b.toNat, UInt8.toNat_lt b⟩ h1)
    have ud : Reader.runAt (Reader.u1 : Decoder Nat) ⟨(b :: l.take 2).toArray⟩ 0 = .ok (b.toNat, 0 + 1) := r_u _ 0 rfl
    have uc : Reader.runAt (Reader.u1 : Decoder Nat) c pc = .ok (b.toNat, pc + 1) := r_u c pc (hAg 0 b rfl)
    cases hr : Reader.runAt (Decoder.instr 0) ⟨(b :: l.take 2).toArray⟩ 0 with
    | error z =>
      rw [dc_e hr] at h2
      exact nomatch h2
    | ok z =>
      obtain ⟨i, s⟩ := z
      rw [dc_o hr] at h2
      injection h2 with h3
      rw [H 0 _ 0 ud] at hr
      obtain ⟨k, e1, g1⟩ := hs c _ (pc + 1) (0 + 1) (rAg_s hAg 1) i s hr
      have g2 := H pc c pc uc
      rw [g1] at g2
      rw [dc_o g2, ← h3, e1]
      have e9 : pc + 1 + k - pc = 0 + 1 + k - 0 := by omega
      rw [e9]
noncomputable def fdk (c : ByteArray) (pc : Nat) (r : Instr × Nat) : Decidable (decode c pc = .ok r) := if h : fchk c pc r = true then .isTrue (fchk_ok h) else Classical.propDecidable _
def DA {p q : Prop} (x : Decidable p) (y : Decidable q) : Decidable (p ∧ q) := @instDecidableAnd p q x y
