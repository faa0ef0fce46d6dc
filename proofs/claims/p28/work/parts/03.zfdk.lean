/-! decode rows by a few bytes: a table of the instructions that the class has, each shown of its own bytes at any place of any code -/
theorem r_bo {α β : Type} (x : Decoder α) (f : α -> Decoder β) (c : ByteArray) (p : Nat) {a : α} {s : Nat} (h : Reader.runAt x c p = .ok (a, s)) : Reader.runAt (x >>= f) c p = Reader.runAt (f a) c s := by
  have e : Reader.runAt (x >>= f) c p = (Reader.runAt x c p >>= fun r => Reader.runAt (f r.1) c r.2) := by
    first
      | rfl
      | (unfold Reader.runAt; rw [ReaderT.run_bind, StateT.run_bind])
  rw [e, h]
  rfl
theorem r_mo {α β : Type} (x : Decoder α) (g : α -> β) (c : ByteArray) (p : Nat) {a : α} {s : Nat} (h : Reader.runAt x c p = .ok (a, s)) : Reader.runAt (g <$> x) c p = .ok (g a, s) := by
  have e : (g <$> x) = (x >>= fun v => pure (g v)) := by
    first
      | rfl
      | exact map_eq_pure_bind g x
  rw [e, r_bo x _ c p h]
  rfl
theorem r_u0 (c : ByteArray) (p : Nat) : Reader.runAt (Reader.u1 : Decoder Nat) c p = Reader.runAt (if h : p < c.size then (do set (p + 1); pure (c[p]'h).toNat) else throw (HasTruncated.truncated p) : Decoder Nat) c p := rfl
theorem r_u (c : ByteArray) (p : Nat) {b : UInt8} (h : c.data.toList[p]? = some b) : Reader.runAt (Reader.u1 : Decoder Nat) c p = .ok (b.toNat, p + 1) := by
  obtain ⟨hp, e⟩ := List.getElem?_eq_some_iff.mp h
  have hs : p < c.size := hp
  rw [r_u0, dif_pos hs]
  have e2 : c[p]'hs = b := e
  rw [e2]
  rfl
theorem r_u2 (c : ByteArray) (p : Nat) {a b : UInt8} (h : c.data.toList[p]? = some a) (h2 : c.data.toList[p + 1]? = some b) : Reader.runAt (Reader.u2 : Decoder Nat) c p = .ok (a.toNat * 256 + b.toNat, p + 1 + 1) := by
  unfold Reader.u2
  rw [r_bo _ _ c p (r_u c p h), r_bo _ _ c (p + 1) (r_u c (p + 1) h2)]
  rfl
theorem dc_o {c : ByteArray} {pc : Nat} {i : Instr} {s : Nat} (h : Reader.runAt (Decoder.instr pc) c pc = .ok (i, s)) : decode c pc = .ok (i, s - pc) := by
  unfold decode
  rw [h]
  rfl
noncomputable def drp (l : List UInt8) : Nat -> List UInt8 := List.rec (motive := fun _ => Nat -> List UInt8) (fun _ => []) (fun a as ih n => Nat.rec (motive := fun _ => List UInt8) (a :: as) (fun m _ => ih m) n) l
theorem drp_eq : ∀ (l : List UInt8) (n : Nat), drp l n = l.drop n := by
  intro l
  induction l with
  | nil => intro n; cases n <;> rfl
  | cons a as ih =>
    intro n
    cases n with
    | zero => rfl
    | succ n => exact ih n
noncomputable def dr (l : List UInt8) (n : Nat) : List UInt8 := drp (drp (drp l (n / 3)) (n / 3)) (n - n / 3 - n / 3)
theorem dr_eq (l : List UInt8) (n : Nat) : dr l n = l.drop n := by
  unfold dr
  rw [drp_eq, drp_eq, drp_eq, List.drop_drop, List.drop_drop]
  congr 1
  omega
theorem dr_g {l m : List UInt8} {p : Nat} (h : dr l p = m) (k : Nat) : l[p + k]? = m[k]? := by
  rw [dr_eq] at h
  rw [<- h, List.getElem?_drop]
def Hop (k : Nat) (r : Decoder Instr) : Prop := ∀ (pc : Nat) (c : ByteArray) (p : Nat), Reader.runAt (Reader.u1 : Decoder Nat) c p = .ok (k, p + 1) -> Reader.runAt (Decoder.instr pc) c p = Reader.runAt r c (p + 1)
noncomputable def kz (k : Nat) (c : ByteArray) (p : Nat) : Bool := match dr c.data.toList p with
  | b :: _ => Nat.beq b.toNat k
  | [] => false
noncomputable def ku (k v : Nat) (c : ByteArray) (p : Nat) : Bool := match dr c.data.toList p with
  | b :: a :: _ => Nat.beq b.toNat k && Nat.beq a.toNat v
  | _ => false
noncomputable def ks (k : Nat) (v : Int) (c : ByteArray) (p : Nat) : Bool := match dr c.data.toList p with
  | b :: a :: _ => Nat.beq b.toNat k && decide (Reader.signed 8 a.toNat = v)
  | _ => false
noncomputable def kU (k v : Nat) (c : ByteArray) (p : Nat) : Bool := match dr c.data.toList p with
  | b :: a :: d :: _ => Nat.beq b.toNat k && Nat.beq (a.toNat * 256 + d.toNat) v
  | _ => false
noncomputable def kS (k : Nat) (v : Int) (c : ByteArray) (p : Nat) : Bool := match dr c.data.toList p with
  | b :: a :: d :: _ => Nat.beq b.toNat k && decide (Reader.signed 16 (a.toNat * 256 + d.toNat) = v)
  | _ => false
noncomputable def ki (v : Nat) (w : Int) (c : ByteArray) (p : Nat) : Bool := match dr c.data.toList p with
  | b :: a :: d :: _ => Nat.beq b.toNat 132 && (Nat.beq a.toNat v && decide (Reader.signed 8 d.toNat = w))
  | _ => false
theorem b_1 {k : Nat} {c : ByteArray} {p : Nat} {b : UInt8} {l : List UInt8} (hl : dr c.data.toList p = b :: l) (h : Nat.beq b.toNat k = true) : Reader.runAt (Reader.u1 : Decoder Nat) c p = .ok (k, p + 1) := by
  have e := Nat.eq_of_beq_eq_true h
  have u := r_u c p (dr_g hl 0)
  rw [e] at u
  exact u
theorem kz_ok {k : Nat} {i : Instr} (H : Hop k (pure i)) {c : ByteArray} {p : Nat} (h : kz k c p = true) : decode c p = .ok (i, 1) := by
  unfold kz at h
  split at h
  · rename_i b l hl
    have g := H p c p (b_1 hl h)
    have g2 : Reader.runAt (pure i : Decoder Instr) c (p + 1) = .ok (i, p + 1) := rfl
    rw [g2] at g
    rw [dc_o g, Nat.add_sub_cancel_left]
  · exact nomatch h
theorem ku_b {k v : Nat} {c : ByteArray} {p : Nat} (h : ku k v c p = true) : Reader.runAt (Reader.u1 : Decoder Nat) c p = .ok (k, p + 1) /\ Reader.runAt (Reader.u1 : Decoder Nat) c (p + 1) = .ok (v, p + 1 + 1) := by
  unfold ku at h
  split at h
  · rename_i b a l hl
    rw [Bool.and_eq_true] at h
    have u := r_u c (p + 1) (dr_g hl 1)
    rw [Nat.eq_of_beq_eq_true h.2] at u
    exact ⟨b_1 hl h.1, u⟩
  · exact nomatch h
theorem ku_ok {k v : Nat} {f : Nat -> Instr} (H : Hop k (Reader.u1 >>= fun v => pure (f v))) {c : ByteArray} {p : Nat} (h : ku k v c p = true) : decode c p = .ok (f v, 2) := by
  obtain ⟨h1, h2⟩ := ku_b h
  have g := H p c p h1
  rw [r_bo _ _ c (p + 1) h2] at g
  have g2 : Reader.runAt (pure (f v) : Decoder Instr) c (p + 1 + 1) = .ok (f v, p + 1 + 1) := rfl
  rw [g2] at g
  rw [dc_o g, Nat.add_assoc, Nat.add_sub_cancel_left]
theorem ks_ok {k : Nat} {v : Int} {f : Int -> Instr} (H : Hop k (Reader.s1 >>= fun v => pure (f v))) {c : ByteArray} {p : Nat} (h : ks k v c p = true) : decode c p = .ok (f v, 2) := by
  unfold ks at h
  split at h
  · rename_i b a l hl
    rw [Bool.and_eq_true, decide_eq_true_eq] at h
    have g := H p c p (b_1 hl h.1)
    have u : Reader.runAt (Reader.s1 : Decoder Int) c (p + 1) = .ok (Reader.signed 8 a.toNat, p + 1 + 1) := r_mo Reader.u1 _ c (p + 1) (r_u c (p + 1) (dr_g hl 1))
    rw [h.2] at u
    rw [r_bo _ _ c (p + 1) u] at g
    have g2 : Reader.runAt (pure (f v) : Decoder Instr) c (p + 1 + 1) = .ok (f v, p + 1 + 1) := rfl
    rw [g2] at g
    rw [dc_o g, Nat.add_assoc, Nat.add_sub_cancel_left]
  · exact nomatch h
theorem kU_ok {k v : Nat} {f : Nat -> Instr} (H : Hop k (Reader.u2 >>= fun v => pure (f v))) {c : ByteArray} {p : Nat} (h : kU k v c p = true) : decode c p = .ok (f v, 3) := by
  unfold kU at h
  split at h
  · rename_i b a d l hl
    rw [Bool.and_eq_true] at h
    have g := H p c p (b_1 hl h.1)
    have u := r_u2 c (p + 1) (dr_g hl 1) (dr_g hl 2)
    rw [Nat.eq_of_beq_eq_true h.2] at u
    rw [r_bo _ _ c (p + 1) u] at g
    have g2 : Reader.runAt (pure (f v) : Decoder Instr) c (p + 1 + 1 + 1) = .ok (f v, p + 1 + 1 + 1) := rfl
    rw [g2] at g
    rw [dc_o g, Nat.add_assoc, Nat.add_assoc, Nat.add_sub_cancel_left]
  · exact nomatch h
theorem kS_ok {k : Nat} {v : Int} {f : Int -> Instr} (H : Hop k (Reader.s2 >>= fun v => pure (f v))) {c : ByteArray} {p : Nat} (h : kS k v c p = true) : decode c p = .ok (f v, 3) := by
  unfold kS at h
  split at h
  · rename_i b a d l hl
    rw [Bool.and_eq_true, decide_eq_true_eq] at h
    have g := H p c p (b_1 hl h.1)
    have u : Reader.runAt (Reader.s2 : Decoder Int) c (p + 1) = .ok (Reader.signed 16 (a.toNat * 256 + d.toNat), p + 1 + 1 + 1) := r_mo Reader.u2 _ c (p + 1) (r_u2 c (p + 1) (dr_g hl 1) (dr_g hl 2))
    rw [h.2] at u
    rw [r_bo _ _ c (p + 1) u] at g
    have g2 : Reader.runAt (pure (f v) : Decoder Instr) c (p + 1 + 1 + 1) = .ok (f v, p + 1 + 1 + 1) := rfl
    rw [g2] at g
    rw [dc_o g, Nat.add_assoc, Nat.add_assoc, Nat.add_sub_cancel_left]
  · exact nomatch h
theorem ki_ok {v : Nat} {w : Int} (H : Hop 132 (Reader.u1 >>= fun v => Reader.s1 >>= fun w => pure (.iinc v w))) {c : ByteArray} {p : Nat} (h : ki v w c p = true) : decode c p = .ok (.iinc v w, 3) := by
  unfold ki at h
  split at h
  · rename_i b a d l hl
    rw [Bool.and_eq_true, Bool.and_eq_true, decide_eq_true_eq] at h
    have g := H p c p (b_1 hl h.1)
    have u1 := r_u c (p + 1) (dr_g hl 1)
    rw [Nat.eq_of_beq_eq_true h.2.1] at u1
    have u : Reader.runAt (Reader.s1 : Decoder Int) c (p + 1 + 1) = .ok (Reader.signed 8 d.toNat, p + 1 + 1 + 1) := r_mo Reader.u1 _ c (p + 1 + 1) (r_u c (p + 1 + 1) (dr_g hl 2))
    rw [h.2.2] at u
    rw [r_bo _ _ c (p + 1) u1, r_bo _ _ c (p + 1 + 1) u] at g
    have g2 : Reader.runAt (pure (.iinc v w) : Decoder Instr) c (p + 1 + 1 + 1) = .ok (.iinc v w, p + 1 + 1 + 1) := rfl
    rw [g2] at g
    rw [dc_o g, Nat.add_assoc, Nat.add_assoc, Nat.add_sub_cancel_left]
  · exact nomatch h
noncomputable def dI {P : Prop} (b : Bool) (h : b = true -> P) : Decidable P := if e : b = true then .isTrue (h e) else Classical.propDecidable _
def DA {p q : Prop} (x : Decidable p) (y : Decidable q) : Decidable (p /\ q) := @instDecidableAnd p q x y
set_option maxRecDepth 20000 in
theorem op_2 : Hop 2 (pure (.iconst (-1))) := fun _ c p h => r_bo Reader.u1 _ c p h
set_option maxRecDepth 20000 in
theorem op_3 : Hop 3 (pure (.iconst 0)) := fun _ c p h => r_bo Reader.u1 _ c p h
set_option maxRecDepth 20000 in
theorem op_4 : Hop 4 (pure (.iconst 1)) := fun _ c p h => r_bo Reader.u1 _ c p h
set_option maxRecDepth 20000 in
theorem op_5 : Hop 5 (pure (.iconst 2)) := fun _ c p h => r_bo Reader.u1 _ c p h
set_option maxRecDepth 20000 in
theorem op_6 : Hop 6 (pure (.iconst 3)) := fun _ c p h => r_bo Reader.u1 _ c p h
set_option maxRecDepth 20000 in
theorem op_7 : Hop 7 (pure (.iconst 4)) := fun _ c p h => r_bo Reader.u1 _ c p h
set_option maxRecDepth 20000 in
theorem op_8 : Hop 8 (pure (.iconst 5)) := fun _ c p h => r_bo Reader.u1 _ c p h
set_option maxRecDepth 20000 in
theorem op_16 : Hop 16 (Reader.s1 >>= fun v => pure (.bipush v)) := fun _ c p h => r_bo Reader.u1 _ c p h
set_option maxRecDepth 20000 in
theorem op_17 : Hop 17 (Reader.s2 >>= fun v => pure (.sipush v)) := fun _ c p h => r_bo Reader.u1 _ c p h
set_option maxRecDepth 20000 in
theorem op_18 : Hop 18 (Reader.u1 >>= fun v => pure (.ldc v)) := fun _ c p h => r_bo Reader.u1 _ c p h
set_option maxRecDepth 20000 in
theorem op_19 : Hop 19 (Reader.u2 >>= fun v => pure (.ldc_w v)) := fun _ c p h => r_bo Reader.u1 _ c p h
set_option maxRecDepth 20000 in
theorem op_21 : Hop 21 (Reader.u1 >>= fun v => pure (.iload v)) := fun _ c p h => r_bo Reader.u1 _ c p h
set_option maxRecDepth 20000 in
theorem op_25 : Hop 25 (Reader.u1 >>= fun v => pure (.aload v)) := fun _ c p h => r_bo Reader.u1 _ c p h
set_option maxRecDepth 20000 in
theorem op_26 : Hop 26 (pure (.iload_n 0)) := fun _ c p h => r_bo Reader.u1 _ c p h
set_option maxRecDepth 20000 in
theorem op_27 : Hop 27 (pure (.iload_n 1)) := fun _ c p h => r_bo Reader.u1 _ c p h
set_option maxRecDepth 20000 in
theorem op_28 : Hop 28 (pure (.iload_n 2)) := fun _ c p h => r_bo Reader.u1 _ c p h
set_option maxRecDepth 20000 in
theorem op_29 : Hop 29 (pure (.iload_n 3)) := fun _ c p h => r_bo Reader.u1 _ c p h
set_option maxRecDepth 20000 in
theorem op_42 : Hop 42 (pure (.aload_n 0)) := fun _ c p h => r_bo Reader.u1 _ c p h
set_option maxRecDepth 20000 in
theorem op_43 : Hop 43 (pure (.aload_n 1)) := fun _ c p h => r_bo Reader.u1 _ c p h
set_option maxRecDepth 20000 in
theorem op_44 : Hop 44 (pure (.aload_n 2)) := fun _ c p h => r_bo Reader.u1 _ c p h
set_option maxRecDepth 20000 in
theorem op_45 : Hop 45 (pure (.aload_n 3)) := fun _ c p h => r_bo Reader.u1 _ c p h
set_option maxRecDepth 20000 in
theorem op_46 : Hop 46 (pure (.iaload)) := fun _ c p h => r_bo Reader.u1 _ c p h
set_option maxRecDepth 20000 in
theorem op_51 : Hop 51 (pure (.baload)) := fun _ c p h => r_bo Reader.u1 _ c p h
set_option maxRecDepth 20000 in
theorem op_52 : Hop 52 (pure (.caload)) := fun _ c p h => r_bo Reader.u1 _ c p h
set_option maxRecDepth 20000 in
theorem op_54 : Hop 54 (Reader.u1 >>= fun v => pure (.istore v)) := fun _ c p h => r_bo Reader.u1 _ c p h
set_option maxRecDepth 20000 in
theorem op_58 : Hop 58 (Reader.u1 >>= fun v => pure (.astore v)) := fun _ c p h => r_bo Reader.u1 _ c p h
set_option maxRecDepth 20000 in
theorem op_59 : Hop 59 (pure (.istore_n 0)) := fun _ c p h => r_bo Reader.u1 _ c p h
set_option maxRecDepth 20000 in
theorem op_60 : Hop 60 (pure (.istore_n 1)) := fun _ c p h => r_bo Reader.u1 _ c p h
set_option maxRecDepth 20000 in
theorem op_61 : Hop 61 (pure (.istore_n 2)) := fun _ c p h => r_bo Reader.u1 _ c p h
set_option maxRecDepth 20000 in
theorem op_62 : Hop 62 (pure (.istore_n 3)) := fun _ c p h => r_bo Reader.u1 _ c p h
set_option maxRecDepth 20000 in
theorem op_75 : Hop 75 (pure (.astore_n 0)) := fun _ c p h => r_bo Reader.u1 _ c p h
set_option maxRecDepth 20000 in
theorem op_76 : Hop 76 (pure (.astore_n 1)) := fun _ c p h => r_bo Reader.u1 _ c p h
set_option maxRecDepth 20000 in
theorem op_77 : Hop 77 (pure (.astore_n 2)) := fun _ c p h => r_bo Reader.u1 _ c p h
set_option maxRecDepth 20000 in
theorem op_78 : Hop 78 (pure (.astore_n 3)) := fun _ c p h => r_bo Reader.u1 _ c p h
set_option maxRecDepth 20000 in
theorem op_79 : Hop 79 (pure (.iastore)) := fun _ c p h => r_bo Reader.u1 _ c p h
set_option maxRecDepth 20000 in
theorem op_80 : Hop 80 (pure (.lastore)) := fun _ c p h => r_bo Reader.u1 _ c p h
set_option maxRecDepth 20000 in
theorem op_84 : Hop 84 (pure (.bastore)) := fun _ c p h => r_bo Reader.u1 _ c p h
set_option maxRecDepth 20000 in
theorem op_85 : Hop 85 (pure (.castore)) := fun _ c p h => r_bo Reader.u1 _ c p h
set_option maxRecDepth 20000 in
theorem op_87 : Hop 87 (pure (.pop)) := fun _ c p h => r_bo Reader.u1 _ c p h
set_option maxRecDepth 20000 in
theorem op_89 : Hop 89 (pure (.dup)) := fun _ c p h => r_bo Reader.u1 _ c p h
set_option maxRecDepth 20000 in
theorem op_90 : Hop 90 (pure (.dup_x1)) := fun _ c p h => r_bo Reader.u1 _ c p h
set_option maxRecDepth 20000 in
theorem op_92 : Hop 92 (pure (.dup2)) := fun _ c p h => r_bo Reader.u1 _ c p h
set_option maxRecDepth 20000 in
theorem op_96 : Hop 96 (pure (.iadd)) := fun _ c p h => r_bo Reader.u1 _ c p h
set_option maxRecDepth 20000 in
theorem op_100 : Hop 100 (pure (.isub)) := fun _ c p h => r_bo Reader.u1 _ c p h
set_option maxRecDepth 20000 in
theorem op_104 : Hop 104 (pure (.imul)) := fun _ c p h => r_bo Reader.u1 _ c p h
set_option maxRecDepth 20000 in
theorem op_108 : Hop 108 (pure (.idiv)) := fun _ c p h => r_bo Reader.u1 _ c p h
set_option maxRecDepth 20000 in
theorem op_112 : Hop 112 (pure (.irem)) := fun _ c p h => r_bo Reader.u1 _ c p h
set_option maxRecDepth 20000 in
theorem op_116 : Hop 116 (pure (.ineg)) := fun _ c p h => r_bo Reader.u1 _ c p h
set_option maxRecDepth 20000 in
theorem op_120 : Hop 120 (pure (.ishl)) := fun _ c p h => r_bo Reader.u1 _ c p h
set_option maxRecDepth 20000 in
theorem op_122 : Hop 122 (pure (.ishr)) := fun _ c p h => r_bo Reader.u1 _ c p h
set_option maxRecDepth 20000 in
theorem op_124 : Hop 124 (pure (.iushr)) := fun _ c p h => r_bo Reader.u1 _ c p h
set_option maxRecDepth 20000 in
theorem op_126 : Hop 126 (pure (.iand)) := fun _ c p h => r_bo Reader.u1 _ c p h
set_option maxRecDepth 20000 in
theorem op_128 : Hop 128 (pure (.ior)) := fun _ c p h => r_bo Reader.u1 _ c p h
set_option maxRecDepth 20000 in
theorem op_130 : Hop 130 (pure (.ixor)) := fun _ c p h => r_bo Reader.u1 _ c p h
set_option maxRecDepth 20000 in
theorem op_132 : Hop 132 (Reader.u1 >>= fun v => Reader.s1 >>= fun w => pure (.iinc v w)) := fun _ c p h => r_bo Reader.u1 _ c p h
set_option maxRecDepth 20000 in
theorem op_133 : Hop 133 (pure (.i2l)) := fun _ c p h => r_bo Reader.u1 _ c p h
set_option maxRecDepth 20000 in
theorem op_145 : Hop 145 (pure (.i2b)) := fun _ c p h => r_bo Reader.u1 _ c p h
set_option maxRecDepth 20000 in
theorem op_146 : Hop 146 (pure (.i2c)) := fun _ c p h => r_bo Reader.u1 _ c p h
set_option maxRecDepth 20000 in
theorem op_147 : Hop 147 (pure (.i2s)) := fun _ c p h => r_bo Reader.u1 _ c p h
set_option maxRecDepth 20000 in
theorem op_153 : Hop 153 (Reader.s2 >>= fun v => pure (.ifCond .eq v)) := fun _ c p h => r_bo Reader.u1 _ c p h
set_option maxRecDepth 20000 in
theorem op_154 : Hop 154 (Reader.s2 >>= fun v => pure (.ifCond .ne v)) := fun _ c p h => r_bo Reader.u1 _ c p h
set_option maxRecDepth 20000 in
theorem op_155 : Hop 155 (Reader.s2 >>= fun v => pure (.ifCond .lt v)) := fun _ c p h => r_bo Reader.u1 _ c p h
set_option maxRecDepth 20000 in
theorem op_156 : Hop 156 (Reader.s2 >>= fun v => pure (.ifCond .ge v)) := fun _ c p h => r_bo Reader.u1 _ c p h
set_option maxRecDepth 20000 in
theorem op_157 : Hop 157 (Reader.s2 >>= fun v => pure (.ifCond .gt v)) := fun _ c p h => r_bo Reader.u1 _ c p h
set_option maxRecDepth 20000 in
theorem op_158 : Hop 158 (Reader.s2 >>= fun v => pure (.ifCond .le v)) := fun _ c p h => r_bo Reader.u1 _ c p h
set_option maxRecDepth 20000 in
theorem op_159 : Hop 159 (Reader.s2 >>= fun v => pure (.if_icmp .eq v)) := fun _ c p h => r_bo Reader.u1 _ c p h
set_option maxRecDepth 20000 in
theorem op_160 : Hop 160 (Reader.s2 >>= fun v => pure (.if_icmp .ne v)) := fun _ c p h => r_bo Reader.u1 _ c p h
set_option maxRecDepth 20000 in
theorem op_161 : Hop 161 (Reader.s2 >>= fun v => pure (.if_icmp .lt v)) := fun _ c p h => r_bo Reader.u1 _ c p h
set_option maxRecDepth 20000 in
theorem op_162 : Hop 162 (Reader.s2 >>= fun v => pure (.if_icmp .ge v)) := fun _ c p h => r_bo Reader.u1 _ c p h
set_option maxRecDepth 20000 in
theorem op_163 : Hop 163 (Reader.s2 >>= fun v => pure (.if_icmp .gt v)) := fun _ c p h => r_bo Reader.u1 _ c p h
set_option maxRecDepth 20000 in
theorem op_164 : Hop 164 (Reader.s2 >>= fun v => pure (.if_icmp .le v)) := fun _ c p h => r_bo Reader.u1 _ c p h
set_option maxRecDepth 20000 in
theorem op_167 : Hop 167 (Reader.s2 >>= fun v => pure (.goto v)) := fun _ c p h => r_bo Reader.u1 _ c p h
set_option maxRecDepth 20000 in
theorem op_172 : Hop 172 (pure (.ireturn)) := fun _ c p h => r_bo Reader.u1 _ c p h
set_option maxRecDepth 20000 in
theorem op_177 : Hop 177 (pure (.return_)) := fun _ c p h => r_bo Reader.u1 _ c p h
set_option maxRecDepth 20000 in
theorem op_178 : Hop 178 (Reader.u2 >>= fun v => pure (.getstatic v)) := fun _ c p h => r_bo Reader.u1 _ c p h
set_option maxRecDepth 20000 in
theorem op_180 : Hop 180 (Reader.u2 >>= fun v => pure (.getfield v)) := fun _ c p h => r_bo Reader.u1 _ c p h
set_option maxRecDepth 20000 in
theorem op_181 : Hop 181 (Reader.u2 >>= fun v => pure (.putfield v)) := fun _ c p h => r_bo Reader.u1 _ c p h
set_option maxRecDepth 20000 in
theorem op_182 : Hop 182 (Reader.u2 >>= fun v => pure (.invokevirtual v)) := fun _ c p h => r_bo Reader.u1 _ c p h
set_option maxRecDepth 20000 in
theorem op_183 : Hop 183 (Reader.u2 >>= fun v => pure (.invokespecial v)) := fun _ c p h => r_bo Reader.u1 _ c p h
set_option maxRecDepth 20000 in
theorem op_184 : Hop 184 (Reader.u2 >>= fun v => pure (.invokestatic v)) := fun _ c p h => r_bo Reader.u1 _ c p h
set_option maxRecDepth 20000 in
theorem op_187 : Hop 187 (Reader.u2 >>= fun v => pure (.new v)) := fun _ c p h => r_bo Reader.u1 _ c p h
set_option maxRecDepth 20000 in
theorem op_190 : Hop 190 (pure (.arraylength)) := fun _ c p h => r_bo Reader.u1 _ c p h
set_option maxRecDepth 20000 in
theorem op_191 : Hop 191 (pure (.athrow)) := fun _ c p h => r_bo Reader.u1 _ c p h
noncomputable def i_2 (c : ByteArray) (p : Nat) : Decidable (decode c p = .ok (.iconst (-1), 1)) := dI (kz 2 c p) (fun h => kz_ok op_2 h)
noncomputable def i_3 (c : ByteArray) (p : Nat) : Decidable (decode c p = .ok (.iconst 0, 1)) := dI (kz 3 c p) (fun h => kz_ok op_3 h)
noncomputable def i_4 (c : ByteArray) (p : Nat) : Decidable (decode c p = .ok (.iconst 1, 1)) := dI (kz 4 c p) (fun h => kz_ok op_4 h)
noncomputable def i_5 (c : ByteArray) (p : Nat) : Decidable (decode c p = .ok (.iconst 2, 1)) := dI (kz 5 c p) (fun h => kz_ok op_5 h)
noncomputable def i_6 (c : ByteArray) (p : Nat) : Decidable (decode c p = .ok (.iconst 3, 1)) := dI (kz 6 c p) (fun h => kz_ok op_6 h)
noncomputable def i_7 (c : ByteArray) (p : Nat) : Decidable (decode c p = .ok (.iconst 4, 1)) := dI (kz 7 c p) (fun h => kz_ok op_7 h)
noncomputable def i_8 (c : ByteArray) (p : Nat) : Decidable (decode c p = .ok (.iconst 5, 1)) := dI (kz 8 c p) (fun h => kz_ok op_8 h)
noncomputable def aCz (c : ByteArray) (p : Nat) : Decidable (decode c p = .ok (.iaload, 1)) := dI (kz 46 c p) (fun h => kz_ok op_46 h)
noncomputable def i_51 (c : ByteArray) (p : Nat) : Decidable (decode c p = .ok (.baload, 1)) := dI (kz 51 c p) (fun h => kz_ok op_51 h)
noncomputable def i_52 (c : ByteArray) (p : Nat) : Decidable (decode c p = .ok (.caload, 1)) := dI (kz 52 c p) (fun h => kz_ok op_52 h)
noncomputable def i_79 (c : ByteArray) (p : Nat) : Decidable (decode c p = .ok (.iastore, 1)) := dI (kz 79 c p) (fun h => kz_ok op_79 h)
noncomputable def i_80 (c : ByteArray) (p : Nat) : Decidable (decode c p = .ok (.lastore, 1)) := dI (kz 80 c p) (fun h => kz_ok op_80 h)
noncomputable def i_84 (c : ByteArray) (p : Nat) : Decidable (decode c p = .ok (.bastore, 1)) := dI (kz 84 c p) (fun h => kz_ok op_84 h)
noncomputable def i_85 (c : ByteArray) (p : Nat) : Decidable (decode c p = .ok (.castore, 1)) := dI (kz 85 c p) (fun h => kz_ok op_85 h)
noncomputable def i_87 (c : ByteArray) (p : Nat) : Decidable (decode c p = .ok (.pop, 1)) := dI (kz 87 c p) (fun h => kz_ok op_87 h)
noncomputable def i_89 (c : ByteArray) (p : Nat) : Decidable (decode c p = .ok (.dup, 1)) := dI (kz 89 c p) (fun h => kz_ok op_89 h)
noncomputable def i_90 (c : ByteArray) (p : Nat) : Decidable (decode c p = .ok (.dup_x1, 1)) := dI (kz 90 c p) (fun h => kz_ok op_90 h)
noncomputable def i_92 (c : ByteArray) (p : Nat) : Decidable (decode c p = .ok (.dup2, 1)) := dI (kz 92 c p) (fun h => kz_ok op_92 h)
noncomputable def aDj (c : ByteArray) (p : Nat) : Decidable (decode c p = .ok (.iadd, 1)) := dI (kz 96 c p) (fun h => kz_ok op_96 h)
noncomputable def aMn (c : ByteArray) (p : Nat) : Decidable (decode c p = .ok (.isub, 1)) := dI (kz 100 c p) (fun h => kz_ok op_100 h)
noncomputable def i_104 (c : ByteArray) (p : Nat) : Decidable (decode c p = .ok (.imul, 1)) := dI (kz 104 c p) (fun h => kz_ok op_104 h)
noncomputable def i_108 (c : ByteArray) (p : Nat) : Decidable (decode c p = .ok (.idiv, 1)) := dI (kz 108 c p) (fun h => kz_ok op_108 h)
noncomputable def i_112 (c : ByteArray) (p : Nat) : Decidable (decode c p = .ok (.irem, 1)) := dI (kz 112 c p) (fun h => kz_ok op_112 h)
noncomputable def i_116 (c : ByteArray) (p : Nat) : Decidable (decode c p = .ok (.ineg, 1)) := dI (kz 116 c p) (fun h => kz_ok op_116 h)
noncomputable def i_120 (c : ByteArray) (p : Nat) : Decidable (decode c p = .ok (.ishl, 1)) := dI (kz 120 c p) (fun h => kz_ok op_120 h)
noncomputable def i_122 (c : ByteArray) (p : Nat) : Decidable (decode c p = .ok (.ishr, 1)) := dI (kz 122 c p) (fun h => kz_ok op_122 h)
noncomputable def i_124 (c : ByteArray) (p : Nat) : Decidable (decode c p = .ok (.iushr, 1)) := dI (kz 124 c p) (fun h => kz_ok op_124 h)
noncomputable def aFO (c : ByteArray) (p : Nat) : Decidable (decode c p = .ok (.iand, 1)) := dI (kz 126 c p) (fun h => kz_ok op_126 h)
noncomputable def i_128 (c : ByteArray) (p : Nat) : Decidable (decode c p = .ok (.ior, 1)) := dI (kz 128 c p) (fun h => kz_ok op_128 h)
noncomputable def i_130 (c : ByteArray) (p : Nat) : Decidable (decode c p = .ok (.ixor, 1)) := dI (kz 130 c p) (fun h => kz_ok op_130 h)
noncomputable def i_133 (c : ByteArray) (p : Nat) : Decidable (decode c p = .ok (.i2l, 1)) := dI (kz 133 c p) (fun h => kz_ok op_133 h)
noncomputable def i_145 (c : ByteArray) (p : Nat) : Decidable (decode c p = .ok (.i2b, 1)) := dI (kz 145 c p) (fun h => kz_ok op_145 h)
noncomputable def i_146 (c : ByteArray) (p : Nat) : Decidable (decode c p = .ok (.i2c, 1)) := dI (kz 146 c p) (fun h => kz_ok op_146 h)
noncomputable def i_147 (c : ByteArray) (p : Nat) : Decidable (decode c p = .ok (.i2s, 1)) := dI (kz 147 c p) (fun h => kz_ok op_147 h)
noncomputable def aBM (c : ByteArray) (p : Nat) : Decidable (decode c p = .ok (.ireturn, 1)) := dI (kz 172 c p) (fun h => kz_ok op_172 h)
noncomputable def i_177 (c : ByteArray) (p : Nat) : Decidable (decode c p = .ok (.return_, 1)) := dI (kz 177 c p) (fun h => kz_ok op_177 h)
noncomputable def i_190 (c : ByteArray) (p : Nat) : Decidable (decode c p = .ok (.arraylength, 1)) := dI (kz 190 c p) (fun h => kz_ok op_190 h)
noncomputable def i_191 (c : ByteArray) (p : Nat) : Decidable (decode c p = .ok (.athrow, 1)) := dI (kz 191 c p) (fun h => kz_ok op_191 h)
noncomputable def i_26 (c : ByteArray) (p : Nat) : Decidable (decode c p = .ok (.iload_n 0, 1)) := dI (kz 26 c p) (fun h => kz_ok op_26 h)
noncomputable def yX (c : ByteArray) (p : Nat) : Decidable (decode c p = .ok (.aload_n 0, 1)) := dI (kz 42 c p) (fun h => kz_ok op_42 h)
noncomputable def i_59 (c : ByteArray) (p : Nat) : Decidable (decode c p = .ok (.istore_n 0, 1)) := dI (kz 59 c p) (fun h => kz_ok op_59 h)
noncomputable def i_75 (c : ByteArray) (p : Nat) : Decidable (decode c p = .ok (.astore_n 0, 1)) := dI (kz 75 c p) (fun h => kz_ok op_75 h)
noncomputable def aBt (c : ByteArray) (p : Nat) : Decidable (decode c p = .ok (.iload_n 1, 1)) := dI (kz 27 c p) (fun h => kz_ok op_27 h)
noncomputable def i_43 (c : ByteArray) (p : Nat) : Decidable (decode c p = .ok (.aload_n 1, 1)) := dI (kz 43 c p) (fun h => kz_ok op_43 h)
noncomputable def i_60 (c : ByteArray) (p : Nat) : Decidable (decode c p = .ok (.istore_n 1, 1)) := dI (kz 60 c p) (fun h => kz_ok op_60 h)
noncomputable def i_76 (c : ByteArray) (p : Nat) : Decidable (decode c p = .ok (.astore_n 1, 1)) := dI (kz 76 c p) (fun h => kz_ok op_76 h)
noncomputable def aCB (c : ByteArray) (p : Nat) : Decidable (decode c p = .ok (.iload_n 2, 1)) := dI (kz 28 c p) (fun h => kz_ok op_28 h)
noncomputable def i_44 (c : ByteArray) (p : Nat) : Decidable (decode c p = .ok (.aload_n 2, 1)) := dI (kz 44 c p) (fun h => kz_ok op_44 h)
noncomputable def aHx (c : ByteArray) (p : Nat) : Decidable (decode c p = .ok (.istore_n 2, 1)) := dI (kz 61 c p) (fun h => kz_ok op_61 h)
noncomputable def i_77 (c : ByteArray) (p : Nat) : Decidable (decode c p = .ok (.astore_n 2, 1)) := dI (kz 77 c p) (fun h => kz_ok op_77 h)
noncomputable def aDG (c : ByteArray) (p : Nat) : Decidable (decode c p = .ok (.iload_n 3, 1)) := dI (kz 29 c p) (fun h => kz_ok op_29 h)
noncomputable def i_45 (c : ByteArray) (p : Nat) : Decidable (decode c p = .ok (.aload_n 3, 1)) := dI (kz 45 c p) (fun h => kz_ok op_45 h)
noncomputable def aIp (c : ByteArray) (p : Nat) : Decidable (decode c p = .ok (.istore_n 3, 1)) := dI (kz 62 c p) (fun h => kz_ok op_62 h)
noncomputable def i_78 (c : ByteArray) (p : Nat) : Decidable (decode c p = .ok (.astore_n 3, 1)) := dI (kz 78 c p) (fun h => kz_ok op_78 h)
noncomputable def i_18 (c : ByteArray) (p v : Nat) : Decidable (decode c p = .ok (.ldc v, 2)) := dI (ku 18 v c p) (fun h => ku_ok op_18 h)
noncomputable def aBj (c : ByteArray) (p v : Nat) : Decidable (decode c p = .ok (.iload v, 2)) := dI (ku 21 v c p) (fun h => ku_ok op_21 h)
noncomputable def i_25 (c : ByteArray) (p v : Nat) : Decidable (decode c p = .ok (.aload v, 2)) := dI (ku 25 v c p) (fun h => ku_ok op_25 h)
noncomputable def aFH (c : ByteArray) (p v : Nat) : Decidable (decode c p = .ok (.istore v, 2)) := dI (ku 54 v c p) (fun h => ku_ok op_54 h)
noncomputable def i_58 (c : ByteArray) (p v : Nat) : Decidable (decode c p = .ok (.astore v, 2)) := dI (ku 58 v c p) (fun h => ku_ok op_58 h)
noncomputable def aCn (c : ByteArray) (p : Nat) (v : Int) : Decidable (decode c p = .ok (.bipush v, 2)) := dI (ks 16 v c p) (fun h => ks_ok op_16 h)
noncomputable def i_19 (c : ByteArray) (p v : Nat) : Decidable (decode c p = .ok (.ldc_w v, 3)) := dI (kU 19 v c p) (fun h => kU_ok op_19 h)
noncomputable def i_178 (c : ByteArray) (p v : Nat) : Decidable (decode c p = .ok (.getstatic v, 3)) := dI (kU 178 v c p) (fun h => kU_ok op_178 h)
noncomputable def zD (c : ByteArray) (p v : Nat) : Decidable (decode c p = .ok (.getfield v, 3)) := dI (kU 180 v c p) (fun h => kU_ok op_180 h)
noncomputable def aCO (c : ByteArray) (p v : Nat) : Decidable (decode c p = .ok (.putfield v, 3)) := dI (kU 181 v c p) (fun h => kU_ok op_181 h)
noncomputable def aAF (c : ByteArray) (p v : Nat) : Decidable (decode c p = .ok (.invokevirtual v, 3)) := dI (kU 182 v c p) (fun h => kU_ok op_182 h)
noncomputable def i_183 (c : ByteArray) (p v : Nat) : Decidable (decode c p = .ok (.invokespecial v, 3)) := dI (kU 183 v c p) (fun h => kU_ok op_183 h)
noncomputable def aDe (c : ByteArray) (p v : Nat) : Decidable (decode c p = .ok (.invokestatic v, 3)) := dI (kU 184 v c p) (fun h => kU_ok op_184 h)
noncomputable def i_187 (c : ByteArray) (p v : Nat) : Decidable (decode c p = .ok (.new v, 3)) := dI (kU 187 v c p) (fun h => kU_ok op_187 h)
noncomputable def i_17 (c : ByteArray) (p : Nat) (v : Int) : Decidable (decode c p = .ok (.sipush v, 3)) := dI (kS 17 v c p) (fun h => kS_ok op_17 h)
noncomputable def aBs (c : ByteArray) (p : Nat) (v : Int) : Decidable (decode c p = .ok (.goto v, 3)) := dI (kS 167 v c p) (fun h => kS_ok op_167 h)
noncomputable def aFr (c : ByteArray) (p : Nat) (v : Int) : Decidable (decode c p = .ok (.ifCond .eq v, 3)) := dI (kS 153 v c p) (fun h => kS_ok op_153 h)
noncomputable def i_159 (c : ByteArray) (p : Nat) (v : Int) : Decidable (decode c p = .ok (.if_icmp .eq v, 3)) := dI (kS 159 v c p) (fun h => kS_ok op_159 h)
noncomputable def aGg (c : ByteArray) (p : Nat) (v : Int) : Decidable (decode c p = .ok (.ifCond .ne v, 3)) := dI (kS 154 v c p) (fun h => kS_ok op_154 h)
noncomputable def aJj (c : ByteArray) (p : Nat) (v : Int) : Decidable (decode c p = .ok (.if_icmp .ne v, 3)) := dI (kS 160 v c p) (fun h => kS_ok op_160 h)
noncomputable def i_155 (c : ByteArray) (p : Nat) (v : Int) : Decidable (decode c p = .ok (.ifCond .lt v, 3)) := dI (kS 155 v c p) (fun h => kS_ok op_155 h)
noncomputable def i_161 (c : ByteArray) (p : Nat) (v : Int) : Decidable (decode c p = .ok (.if_icmp .lt v, 3)) := dI (kS 161 v c p) (fun h => kS_ok op_161 h)
noncomputable def i_156 (c : ByteArray) (p : Nat) (v : Int) : Decidable (decode c p = .ok (.ifCond .ge v, 3)) := dI (kS 156 v c p) (fun h => kS_ok op_156 h)
noncomputable def aEw (c : ByteArray) (p : Nat) (v : Int) : Decidable (decode c p = .ok (.if_icmp .ge v, 3)) := dI (kS 162 v c p) (fun h => kS_ok op_162 h)
noncomputable def i_157 (c : ByteArray) (p : Nat) (v : Int) : Decidable (decode c p = .ok (.ifCond .gt v, 3)) := dI (kS 157 v c p) (fun h => kS_ok op_157 h)
noncomputable def i_163 (c : ByteArray) (p : Nat) (v : Int) : Decidable (decode c p = .ok (.if_icmp .gt v, 3)) := dI (kS 163 v c p) (fun h => kS_ok op_163 h)
noncomputable def i_158 (c : ByteArray) (p : Nat) (v : Int) : Decidable (decode c p = .ok (.ifCond .le v, 3)) := dI (kS 158 v c p) (fun h => kS_ok op_158 h)
noncomputable def i_164 (c : ByteArray) (p : Nat) (v : Int) : Decidable (decode c p = .ok (.if_icmp .le v, 3)) := dI (kS 164 v c p) (fun h => kS_ok op_164 h)
noncomputable def aE6 (c : ByteArray) (p v : Nat) (w : Int) : Decidable (decode c p = .ok (.iinc v w, 3)) := dI (ki v w c p) (fun h => ki_ok op_132 h)
set_option maxRecDepth 20000 in
theorem op_188 : ∀ (pc : Nat) (c : ByteArray) (p : Nat), Reader.runAt (Reader.u1 : Decoder Nat) c p = .ok (188, p + 1) -> Reader.runAt (Decoder.instr pc) c p = Reader.runAt (Decoder.newarray pc) c (p + 1) := fun _ c p h => r_bo Reader.u1 _ c p h
theorem na_4 {c : ByteArray} {p : Nat} (h : ku 188 4 c p = true) : decode c p = .ok (.newarray .boolean, 2) := by
  obtain ⟨h1, h2⟩ := ku_b h
  have g := op_188 p c p h1
  unfold Decoder.newarray at g
  rw [r_bo _ _ c (p + 1) h2] at g
  have g2 : Reader.runAt (Decoder.instr p) c p = .ok (.newarray .boolean, p + 1 + 1) := g
  rw [dc_o g2, Nat.add_assoc, Nat.add_sub_cancel_left]
noncomputable def i_188_4 (c : ByteArray) (p : Nat) : Decidable (decode c p = .ok (.newarray .boolean, 2)) := dI (ku 188 4 c p) (fun h => na_4 h)
theorem na_5 {c : ByteArray} {p : Nat} (h : ku 188 5 c p = true) : decode c p = .ok (.newarray .char, 2) := by
  obtain ⟨h1, h2⟩ := ku_b h
  have g := op_188 p c p h1
  unfold Decoder.newarray at g
  rw [r_bo _ _ c (p + 1) h2] at g
  have g2 : Reader.runAt (Decoder.instr p) c p = .ok (.newarray .char, p + 1 + 1) := g
  rw [dc_o g2, Nat.add_assoc, Nat.add_sub_cancel_left]
noncomputable def i_188_5 (c : ByteArray) (p : Nat) : Decidable (decode c p = .ok (.newarray .char, 2)) := dI (ku 188 5 c p) (fun h => na_5 h)
theorem na_8 {c : ByteArray} {p : Nat} (h : ku 188 8 c p = true) : decode c p = .ok (.newarray .byte, 2) := by
  obtain ⟨h1, h2⟩ := ku_b h
  have g := op_188 p c p h1
  unfold Decoder.newarray at g
  rw [r_bo _ _ c (p + 1) h2] at g
  have g2 : Reader.runAt (Decoder.instr p) c p = .ok (.newarray .byte, p + 1 + 1) := g
  rw [dc_o g2, Nat.add_assoc, Nat.add_sub_cancel_left]
noncomputable def i_188_8 (c : ByteArray) (p : Nat) : Decidable (decode c p = .ok (.newarray .byte, 2)) := dI (ku 188 8 c p) (fun h => na_8 h)
theorem na_9 {c : ByteArray} {p : Nat} (h : ku 188 9 c p = true) : decode c p = .ok (.newarray .short, 2) := by
  obtain ⟨h1, h2⟩ := ku_b h
  have g := op_188 p c p h1
  unfold Decoder.newarray at g
  rw [r_bo _ _ c (p + 1) h2] at g
  have g2 : Reader.runAt (Decoder.instr p) c p = .ok (.newarray .short, p + 1 + 1) := g
  rw [dc_o g2, Nat.add_assoc, Nat.add_sub_cancel_left]
noncomputable def i_188_9 (c : ByteArray) (p : Nat) : Decidable (decode c p = .ok (.newarray .short, 2)) := dI (ku 188 9 c p) (fun h => na_9 h)
theorem na_10 {c : ByteArray} {p : Nat} (h : ku 188 10 c p = true) : decode c p = .ok (.newarray .int, 2) := by
  obtain ⟨h1, h2⟩ := ku_b h
  have g := op_188 p c p h1
  unfold Decoder.newarray at g
  rw [r_bo _ _ c (p + 1) h2] at g
  have g2 : Reader.runAt (Decoder.instr p) c p = .ok (.newarray .int, p + 1 + 1) := g
  rw [dc_o g2, Nat.add_assoc, Nat.add_sub_cancel_left]
noncomputable def aJf (c : ByteArray) (p : Nat) : Decidable (decode c p = .ok (.newarray .int, 2)) := dI (ku 188 10 c p) (fun h => na_10 h)
theorem na_11 {c : ByteArray} {p : Nat} (h : ku 188 11 c p = true) : decode c p = .ok (.newarray .long, 2) := by
  obtain ⟨h1, h2⟩ := ku_b h
  have g := op_188 p c p h1
  unfold Decoder.newarray at g
  rw [r_bo _ _ c (p + 1) h2] at g
  have g2 : Reader.runAt (Decoder.instr p) c p = .ok (.newarray .long, p + 1 + 1) := g
  rw [dc_o g2, Nat.add_assoc, Nat.add_sub_cancel_left]
noncomputable def i_188_11 (c : ByteArray) (p : Nat) : Decidable (decode c p = .ok (.newarray .long, 2)) := dI (ku 188 11 c p) (fun h => na_11 h)
