def gPreT (D : va_G) (tys : List (ClassId × FieldType)) (sz tV : Nat) (U : State) : Prop := gPre D tys [] sz U /\ va_T .byte tV 7 (fun j => .int (lets j)) (va_A [] sz) U U.heap
theorem gPreT.blind {D : va_G} {tys : List (ClassId × FieldType)} {sz tV : Nat} {av : List Value} : FrameBlind (va_Pc av (gPreT D tys sz tV)) := by
  intro a U g mk h
  obtain ⟨h0, h1, h2⟩ := h
  exact ⟨h0, (gPre.blind (av := av) a U g mk ⟨h0, h1⟩).2, va_T.moved (u := U) (U := U.calling g mk a) (Vm.Alike.refl U.vm) h2⟩
section GSTRI
variable {p : Program} {l : Launch} {e : Env} {R : Room} {s : State} {m : MethodId} {args : Array Value} {below : List Frame} {meth : Method} {c : Code} {H : Heap} {locs : List Loc} {cells slots : Nat} {D : va_G} {tys : List (ClassId × FieldType)} {A : Nat -> Prop} {ws : va_W}
variable {y : MethodName} {bytes cc : ByteArray} {maxL nL n index tS tV : Nat} {ret ret0 : Option FieldType} {rm : Room} {Qc : Array Value -> State -> Outcome -> State -> Prop} {own : String} {As rest : List Value} {g : JFrame}
theorem g_runStrA (C0 : gc cc ret0 nL own D tys A p s m args meth c) (hS : va_S A s.heap H locs) (hRf : vk_R RX7 11 "duywsko" tS s) (hO : va_O "java/lang/String" tS A s s.heap)
    (hM : Met l y (gw y bytes maxL ret) rm (va_Pc (.ref tS :: As) (gPreR D tys H.size tS)) Qc 0 0 (va_A [] H.size))
    (h1 : Cond.code y bytes maxL ret ∈ W0) (h2 : Cond.methodLink own index y ∈ W0) (h3 : Cond.instanceMethod y ∈ W0) (h4 : Cond.selects "java/lang/String" y y ∈ W0) (h5 : Cond.initialized y.cls ∈ W0)
    (hd : y.cls ≠ "java/lang/invoke/MethodHandle" /\ y.cls ≠ "java/lang/invoke/VarHandle" /\ (parseMethodDescriptor y.desc).map (fun d => d.parameters.length) = some n) (hrc : rm.cells = 0) (hrs : rm.slots = 0) (hR : rm.frames + 1 <= R.frames /\ 8 + (maxL + 11) + rm.locals <= R.locals)
    (hg : g.method = m) (hn : As.length = n) (hsize : g.locals.size = nL) (hstack : g.stack = As.reverse ++ .ref tS :: rest) (hW : 2 * g.monitorRoom + (rest.map fun v => v.category).sum <= 8) (hdg : decode cc g.pc = .ok (.invokevirtual index, 3)) (hf : cells + 0 <= R.cells /\ slots + 0 <= R.slots) :
    va_Run p l e R s m args below meth c H locs cells slots 0 0 g rest (Qc (Value.ref tS :: As).toArray) (va_A [] H.size) := by
  obtain ⟨hx, hb, hr, hml, hown, hts, hlocks, hA, hK, hN, hZ⟩ := C0
  obtain ⟨cell, o1, o2, o3, -⟩ := hO.kept hS.2.1
  refine va_runV (Ts := W0) (As := As) (C := "java/lang/String") ⟨hx, hb, hml, hown, hts⟩ hM ⟨callB_of n hts (g0_good h1) rfl hrc hrs (hts _ h5) (hts _ h2) hd hR, hts _ h3, hts _ h4⟩ ⟨gPreR.blind, ⟨cell, o1, o2, o3⟩, fun U hU hWm => ⟨rfl, ⟨by rw [hU], ⟨g_nilP, va_K.moved hWm.alike hK, g_nilD⟩, gN.warm hWm hN, by rw [hU]; exact hZ.to hWm.alike (fun _ h9 => vk_R.warm hWm h9) hS.2.1 (fun q h => hA q (Nat.le_trans hS.1 (g_nilA h)))⟩, vk_R.warm hWm hRf⟩⟩ hg hn hsize hstack hW hdg hf
theorem g_runTS (C0 : gc cc ret0 nL own D tys A p s m args meth c) (hS : va_S A s.heap H locs) (hT : va_T .byte tV 7 (fun j => .int (lets j)) A s s.heap)
    (hM : Met l y (gw y bytes maxL ret) rm (va_Pc As (gPreT D tys H.size tV)) Qc 0 0 (va_A [] H.size))
    (h1 : Cond.code y bytes maxL ret ∈ W0) (h2 : Cond.methodLink own index y ∈ W0) (h3 : Cond.static y ∈ W0) (h5 : Cond.initialized y.cls ∈ W0)
    (hd : y.cls ≠ "java/lang/invoke/MethodHandle" /\ y.cls ≠ "java/lang/invoke/VarHandle" /\ (parseMethodDescriptor y.desc).map (fun d => d.parameters.length) = some n) (hrc : rm.cells = 0) (hrs : rm.slots = 0) (hR : rm.frames + 1 <= R.frames /\ 8 + (maxL + 11) + rm.locals <= R.locals)
    (hg : g.method = m) (hn : As.length = n) (hsize : g.locals.size = nL) (hstack : g.stack = As.reverse ++ rest) (hW : 2 * g.monitorRoom + (rest.map fun v => v.category).sum <= 8) (hdg : decode cc g.pc = .ok (.invokestatic index, 3)) (hf : cells + 0 <= R.cells /\ slots + 0 <= R.slots) :
    va_Run p l e R s m args below meth c H locs cells slots 0 0 g rest (Qc As.toArray) (va_A [] H.size) := by
  obtain ⟨hx, hb, hr, hml, hown, hts, hlocks, hA, hK, hN, hZ⟩ := C0
  exact va_runS (Ts := W0) ⟨hx, hb, hml, hown, hts⟩ hM ⟨callB_of n hts (g0_good h1) rfl hrc hrs (hts _ h5) (hts _ h2) hd hR, hts _ h3⟩ ⟨gPreT.blind, fun U hU hWm => ⟨rfl, ⟨by rw [hU], ⟨g_nilP, va_K.moved hWm.alike hK, g_nilD⟩, gN.warm hWm hN, by rw [hU]; exact hZ.to hWm.alike (fun _ h9 => vk_R.warm hWm h9) hS.2.1 (fun q h => hA q (Nat.le_trans hS.1 (g_nilA h)))⟩, by rw [hU]; exact va_T.moved hWm.alike ((hT.kept hS.2.1).narrow (fun q h => hA q (Nat.le_trans hS.1 (g_nilA h))))⟩⟩ hg hn hsize hstack hW hdg hf
end GSTRI
def lixB (b : Int32) : Int32 := if 100 = b then 0 else if 117 = b then 1 else if 121 = b then 2 else if 119 = b then 3 else if 115 = b then 4 else if 107 = b then 5 else if 111 = b then 6 else -1
def lix (x : Int32) : Int32 := if x < 0 then -1 else if 255 < x then -1 else lixB x.toInt8.toInt32
set_option maxHeartbeats 4000000 in
theorem c_J0_isLatin1 (l : Launch) (dC : Nat -> ClassId) (dI : Nat -> Nat -> Nat) (cI cC cZ cB cJ : ClassId) (tS sz : Nat) : Met l aR6 (gw aR6 aLi 1 (some .boolean)) { frames := 0, cells := 0, slots := 0, locals := 0 } (va_Pc [.ref tS] (gPreR (dC, dI) (tyl cI cC cZ cB cJ) sz tS)) (va_Qi (fun (r : Int32) (_ : Unit) => r = 1) (fun _ _ => True) (va_A [] sz)) 0 0 (va_A [] sz) := by
  refine Met.ofW (cc := aLi) (maxL := 1) (ret := some .boolean) (by decide) rfl ?_
  intro p e s m args below meth c s₁ B hml hv
  obtain ⟨rfl, ⟨hsz, ⟨hP, hK, hD⟩, hN, hZ⟩, hR⟩ := hv
  subst hsz
  have hts0 := atoms_spec (ws := gw aR6 aLi 1 (some .boolean)) B.pre
  have hts : ∀ w ∈ W0, w.before _ s = true := fun w hw => hts0 w (List.mem_cons_of_mem _ hw)
  have hx := B.exec
  have hb := B.bytes
  have hr := B.returns
  have hlocks := B.notSynchronized
  have hown : s.vm.findClass RJ0 = some m.cls := findClass_of_methodNamed B.named
  have hA : ∀ q, s.heap.size <= q -> (va_A [] s.heap.size) q := fun q h => Or.inr h
  have C0 : gc aLi (some .boolean) 1 RJ0 (dC, dI) (tyl cI cC cZ cB cJ) (va_A [] s.heap.size) p s m ([.ref tS] : List Value).toArray meth c := ⟨hx, hb, hr, hml, hown, hts, hlocks, hA, hK, hN, hZ⟩
  obtain ⟨tL, tM, -, -, -, -, -, -, hZc, tS2, tV, g1, g2, g3, g4, g5⟩ := hZ
  obtain rfl := g_tS g1 hR
  have hS : va_S (va_A [] s.heap.size) s.heap s.heap [] := va_S.rf
  have hl := lv_entry [.ref tS2] (n := 1) (lbz rfl)
  rw [lg_entry_eq]
  have hl : lv_has _ 1 [(0, .ref tS2)] := hl
  refine va_gets hx hb hZc hS hown (hts _ q_968) (fun _ h9 => h9) aYM.1 ?_
  refine lv_if_eq (tgt := 17) hx hb aYM.2.1 (by decide) (fun hc => absurd hc (by decide)) (fun hc => ?_)
  refine lv_aload_n hx hb aYM.2.2.1 rfl (lv_at hl 0 rfl) ?_
  refine vk_getf hx hb g3 hS hown (hts _ q_969) (fun _ h9 => h9) aYM.2.2.2.1 ?_
  refine lv_if_ne (tgt := 17) hx hb aYM.2.2.2.2.1 (by decide) (fun hc => absurd rfl hc) (fun hc => ?_)
  refine lv_iconst (v := 1) hx hb aYM.2.2.2.2.2.1 (by decide) ?_
  refine lv_goto (tgt := 18) hx hb aYM.2.2.2.2.2.2.1 (by decide) ?_
  exact W.zret (v := 1) hx hb hr rfl (fun t ht hW => ⟨⟨1, (), rfl, rfl, trivial⟩, hS.F ht⟩) hS.2.2 aYM.2.2.2.2.2.2.2.2
set_option maxHeartbeats 4000000 in
theorem c_J1_canEncode (l : Launch) (dC : Nat -> ClassId) (dI : Nat -> Nat -> Nat) (cI cC cZ cB cJ : ClassId) (tV sz : Nat) (x : Int32) : Met l aXF (gw aXF aKd 1 (some .boolean)) { frames := 0, cells := 0, slots := 0, locals := 0 } (va_Pc [.int x] (gPreT (dC, dI) (tyl cI cC cZ cB cJ) sz tV)) (va_Qi (fun (r : Int32) (_ : Unit) => (r = 0 /\ (x < 0 \/ 255 < x)) \/ (r = 1 /\ ¬ x < 0 /\ ¬ 255 < x)) (fun _ _ => True) (va_A [] sz)) 0 0 (va_A [] sz) := by
  refine Met.ofW (cc := aKd) (maxL := 1) (ret := some .boolean) (by decide) rfl ?_
  intro p e s m args below meth c s₁ B hml hv
  obtain ⟨rfl, ⟨hsz, ⟨hP, hK, hD⟩, hN, hZ⟩, hR⟩ := hv
  subst hsz
  have hts0 := atoms_spec (ws := gw aXF aKd 1 (some .boolean)) B.pre
  have hts : ∀ w ∈ W0, w.before _ s = true := fun w hw => hts0 w (List.mem_cons_of_mem _ hw)
  have hx := B.exec
  have hb := B.bytes
  have hr := B.returns
  have hlocks := B.notSynchronized
  have hown : s.vm.findClass RJ1 = some m.cls := findClass_of_methodNamed B.named
  have hA : ∀ q, s.heap.size <= q -> (va_A [] s.heap.size) q := fun q h => Or.inr h
  have C0 : gc aKd (some .boolean) 1 RJ1 (dC, dI) (tyl cI cC cZ cB cJ) (va_A [] s.heap.size) p s m ([.int x] : List Value).toArray meth c := ⟨hx, hb, hr, hml, hown, hts, hlocks, hA, hK, hN, hZ⟩
  have hS : va_S (va_A [] s.heap.size) s.heap s.heap [] := va_S.rf
  have hl := lv_entry [.int x] (n := 1) (lbz rfl)
  rw [lg_entry_eq]
  have hl : lv_has _ 1 [(0, .int x)] := hl
  refine lv_iload_n hx hb aLX.1 rfl (lv_at hl 0 rfl) ?_
  refine lv_if_lt (tgt := 15) hx hb aLX.2.1 (by decide) (fun hc => ?_) (fun hc => ?_)
  · refine lv_iconst (v := 0) hx hb aLX.2.2.2.2.2.2.2.1 (by decide) ?_
    exact W.zret (v := 0) hx hb hr rfl (fun t ht hW => ⟨⟨0, (), rfl, Or.inl ⟨rfl, Or.inl hc⟩, trivial⟩, hS.F ht⟩) hS.2.2 aLX.2.2.2.2.2.2.2.2
  refine lv_iload_n hx hb aLX.2.2.1 rfl (lv_at hl 0 rfl) ?_
  refine lv_sipush (v := 255) hx hb aLX.2.2.2.1 (by decide) ?_
  refine lv_icmp_gt (tgt := 15) hx hb aLX.2.2.2.2.1 (by decide) (fun hc2 => ?_) (fun hc2 => ?_)
  · refine lv_iconst (v := 0) hx hb aLX.2.2.2.2.2.2.2.1 (by decide) ?_
    exact W.zret (v := 0) hx hb hr rfl (fun t ht hW => ⟨⟨0, (), rfl, Or.inl ⟨rfl, Or.inr hc2⟩, trivial⟩, hS.F ht⟩) hS.2.2 aLX.2.2.2.2.2.2.2.2
  refine lv_iconst (v := 1) hx hb aLX.2.2.2.2.2.1 (by decide) ?_
  refine lv_goto (tgt := 16) hx hb aLX.2.2.2.2.2.2.1 (by decide) ?_
  exact W.zret (v := 1) hx hb hr rfl (fun t ht hW => ⟨⟨1, (), rfl, Or.inr ⟨rfl, hc, hc2⟩, trivial⟩, hS.F ht⟩) hS.2.2 aLX.2.2.2.2.2.2.2.2
set_option maxHeartbeats 4000000 in
theorem c_J1_indexOfChar (l : Launch) (dC : Nat -> ClassId) (dI : Nat -> Nat -> Nat) (cI cC cZ cB cJ : ClassId) (tV sz : Nat) (x : Int32) : Met l aSR (gw aSR aET 6 (some .int)) { frames := 0, cells := 0, slots := 0, locals := 0 } (va_Pc [.ref tV, .int x, .int 0, .int 7] (gPreT (dC, dI) (tyl cI cC cZ cB cJ) sz tV)) (va_Qi (fun (r : Int32) (_ : Unit) => r = lixB x.toInt8.toInt32) (fun _ _ => True) (va_A [] sz)) 0 0 (va_A [] sz) := by
  refine Met.ofW (cc := aET) (maxL := 6) (ret := some .int) (by decide) rfl ?_
  intro p e s m args below meth c s₁ B hml hv
  obtain ⟨rfl, ⟨hsz, ⟨hP, hK, hD⟩, hN, hZ⟩, hR⟩ := hv
  subst hsz
  have hts0 := atoms_spec (ws := gw aSR aET 6 (some .int)) B.pre
  have hts : ∀ w ∈ W0, w.before _ s = true := fun w hw => hts0 w (List.mem_cons_of_mem _ hw)
  have hx := B.exec
  have hb := B.bytes
  have hr := B.returns
  have hlocks := B.notSynchronized
  have hown : s.vm.findClass RJ1 = some m.cls := findClass_of_methodNamed B.named
  have hA : ∀ q, s.heap.size <= q -> (va_A [] s.heap.size) q := fun q h => Or.inr h
  have C0 : gc aET (some .int) 6 RJ1 (dC, dI) (tyl cI cC cZ cB cJ) (va_A [] s.heap.size) p s m ([.ref tV, .int x, .int 0, .int 7] : List Value).toArray meth c := ⟨hx, hb, hr, hml, hown, hts, hlocks, hA, hK, hN, hZ⟩
  have hS : va_S (va_A [] s.heap.size) s.heap s.heap [] := va_S.rf
  have hl := lv_entry [.ref tV, .int x, .int 0, .int 7] (n := 6) (lbz rfl)
  rw [lg_entry_eq]
  have hl : lv_has _ 6 [(0, .ref tV), (1, .int x), (2, .int 0), (3, .int 7)] := hl
  refine lv_iload_n hx hb aAn.1 rfl (lv_at hl 1 rfl) ?_
  refine lv_i2b hx hb aAn.2.1 rfl ?_
  refine lv_topi (fun b eb => ?_)
  rw [<- eb]
  refine lv_istore (lv' := [(4, .int b), (0, .ref tV), (1, .int x), (2, .int 0), (3, .int 7)]) hx hb aAn.2.2.1 hl (by decide) rfl (fun ls hl => ?_)
  refine lv_iload_n hx hb aAn.2.2.2.1 rfl (lv_at hl 3 rfl) ?_
  refine lv_istore (lv' := [(5, .int 0), (4, .int b), (0, .ref tV), (1, .int x), (2, .int 0), (3, .int 7)]) hx hb aAn.2.2.2.2.1 hl (by decide) rfl (fun ls hl => ?_)
  refine lv_iload hx hb aAn.2.2.2.2.2.1 (lv_at hl 0 rfl) ?_
  refine lv_iload_n hx hb aAn.2.2.2.2.2.2.1 rfl (lv_at hl 5 rfl) ?_
  refine lv_icmp_ge (tgt := 31) hx hb aAn.2.2.2.2.2.2.2.1 (by decide) (fun hc => absurd hc (by decide)) (fun hc => ?_)
  refine lv_aload_n hx hb aAn.2.2.2.2.2.2.2.2.1 rfl (lv_at hl 2 rfl) ?_
  refine lv_iload hx hb aAn.2.2.2.2.2.2.2.2.2.1 (lv_at hl 0 rfl) ?_
  refine va_tb (v := .int 100) hx hb hR hS (i := 0) (g_in rfl) rfl aAn.2.2.2.2.2.2.2.2.2.2.1 ?_
  refine lv_iload hx hb aAn.2.2.2.2.2.2.2.2.2.2.2.1 (lv_at hl 1 rfl) ?_
  refine lv_icmp_ne (tgt := 25) hx hb aAn.2.2.2.2.2.2.2.2.2.2.2.2.1 (by decide) (fun h0 => ?_) (fun h0 => ?_)
  rotate_left
  · refine lv_iload hx hb aAn.2.2.2.2.2.2.2.2.2.2.2.2.2.1 (lv_at hl 0 rfl) ?_
    exact W.iret (v := 0) hx hb hr (fun t ht hW => ⟨⟨0, (), rfl, by unfold lixB; rw [if_pos h0], trivial⟩, hS.F ht⟩) hS.2.2 aAn.2.2.2.2.2.2.2.2.2.2.2.2.2.2.1
  refine lv_iinc (v := 1) (lv' := [(5, .int 1), (4, .int b), (0, .ref tV), (1, .int x), (2, .int 0), (3, .int 7)]) hx hb aAn.2.2.2.2.2.2.2.2.2.2.2.2.2.2.2 hl (k := 0) rfl rfl (by decide) rfl (fun ls hl => ?_)
  refine lv_goto (tgt := 7) hx hb aOd.1 (by decide) ?_
  refine lv_iload hx hb aAn.2.2.2.2.2.1 (lv_at hl 0 rfl) ?_
  refine lv_iload_n hx hb aAn.2.2.2.2.2.2.1 rfl (lv_at hl 5 rfl) ?_
  refine lv_icmp_ge (tgt := 31) hx hb aAn.2.2.2.2.2.2.2.1 (by decide) (fun hc => absurd hc (by decide)) (fun hc => ?_)
  refine lv_aload_n hx hb aAn.2.2.2.2.2.2.2.2.1 rfl (lv_at hl 2 rfl) ?_
  refine lv_iload hx hb aAn.2.2.2.2.2.2.2.2.2.1 (lv_at hl 0 rfl) ?_
  refine va_tb (v := .int 117) hx hb hR hS (i := 1) (g_in rfl) rfl aAn.2.2.2.2.2.2.2.2.2.2.1 ?_
  refine lv_iload hx hb aAn.2.2.2.2.2.2.2.2.2.2.2.1 (lv_at hl 1 rfl) ?_
  refine lv_icmp_ne (tgt := 25) hx hb aAn.2.2.2.2.2.2.2.2.2.2.2.2.1 (by decide) (fun h1 => ?_) (fun h1 => ?_)
  rotate_left
  · refine lv_iload hx hb aAn.2.2.2.2.2.2.2.2.2.2.2.2.2.1 (lv_at hl 0 rfl) ?_
    exact W.iret (v := 1) hx hb hr (fun t ht hW => ⟨⟨1, (), rfl, by unfold lixB; rw [if_neg h0, if_pos h1], trivial⟩, hS.F ht⟩) hS.2.2 aAn.2.2.2.2.2.2.2.2.2.2.2.2.2.2.1
  refine lv_iinc (v := 2) (lv' := [(5, .int 2), (4, .int b), (0, .ref tV), (1, .int x), (2, .int 0), (3, .int 7)]) hx hb aAn.2.2.2.2.2.2.2.2.2.2.2.2.2.2.2 hl (k := 0) rfl rfl (by decide) rfl (fun ls hl => ?_)
  refine lv_goto (tgt := 7) hx hb aOd.1 (by decide) ?_
  refine lv_iload hx hb aAn.2.2.2.2.2.1 (lv_at hl 0 rfl) ?_
  refine lv_iload_n hx hb aAn.2.2.2.2.2.2.1 rfl (lv_at hl 5 rfl) ?_
  refine lv_icmp_ge (tgt := 31) hx hb aAn.2.2.2.2.2.2.2.1 (by decide) (fun hc => absurd hc (by decide)) (fun hc => ?_)
  refine lv_aload_n hx hb aAn.2.2.2.2.2.2.2.2.1 rfl (lv_at hl 2 rfl) ?_
  refine lv_iload hx hb aAn.2.2.2.2.2.2.2.2.2.1 (lv_at hl 0 rfl) ?_
  refine va_tb (v := .int 121) hx hb hR hS (i := 2) (g_in rfl) rfl aAn.2.2.2.2.2.2.2.2.2.2.1 ?_
  refine lv_iload hx hb aAn.2.2.2.2.2.2.2.2.2.2.2.1 (lv_at hl 1 rfl) ?_
  refine lv_icmp_ne (tgt := 25) hx hb aAn.2.2.2.2.2.2.2.2.2.2.2.2.1 (by decide) (fun h2 => ?_) (fun h2 => ?_)
  rotate_left
  · refine lv_iload hx hb aAn.2.2.2.2.2.2.2.2.2.2.2.2.2.1 (lv_at hl 0 rfl) ?_
    exact W.iret (v := 2) hx hb hr (fun t ht hW => ⟨⟨2, (), rfl, by unfold lixB; rw [if_neg h0, if_neg h1, if_pos h2], trivial⟩, hS.F ht⟩) hS.2.2 aAn.2.2.2.2.2.2.2.2.2.2.2.2.2.2.1
  refine lv_iinc (v := 3) (lv' := [(5, .int 3), (4, .int b), (0, .ref tV), (1, .int x), (2, .int 0), (3, .int 7)]) hx hb aAn.2.2.2.2.2.2.2.2.2.2.2.2.2.2.2 hl (k := 0) rfl rfl (by decide) rfl (fun ls hl => ?_)
  refine lv_goto (tgt := 7) hx hb aOd.1 (by decide) ?_
  refine lv_iload hx hb aAn.2.2.2.2.2.1 (lv_at hl 0 rfl) ?_
  refine lv_iload_n hx hb aAn.2.2.2.2.2.2.1 rfl (lv_at hl 5 rfl) ?_
  refine lv_icmp_ge (tgt := 31) hx hb aAn.2.2.2.2.2.2.2.1 (by decide) (fun hc => absurd hc (by decide)) (fun hc => ?_)
  refine lv_aload_n hx hb aAn.2.2.2.2.2.2.2.2.1 rfl (lv_at hl 2 rfl) ?_
  refine lv_iload hx hb aAn.2.2.2.2.2.2.2.2.2.1 (lv_at hl 0 rfl) ?_
  refine va_tb (v := .int 119) hx hb hR hS (i := 3) (g_in rfl) rfl aAn.2.2.2.2.2.2.2.2.2.2.1 ?_
  refine lv_iload hx hb aAn.2.2.2.2.2.2.2.2.2.2.2.1 (lv_at hl 1 rfl) ?_
  refine lv_icmp_ne (tgt := 25) hx hb aAn.2.2.2.2.2.2.2.2.2.2.2.2.1 (by decide) (fun h3 => ?_) (fun h3 => ?_)
  rotate_left
  · refine lv_iload hx hb aAn.2.2.2.2.2.2.2.2.2.2.2.2.2.1 (lv_at hl 0 rfl) ?_
    exact W.iret (v := 3) hx hb hr (fun t ht hW => ⟨⟨3, (), rfl, by unfold lixB; rw [if_neg h0, if_neg h1, if_neg h2, if_pos h3], trivial⟩, hS.F ht⟩) hS.2.2 aAn.2.2.2.2.2.2.2.2.2.2.2.2.2.2.1
  refine lv_iinc (v := 4) (lv' := [(5, .int 4), (4, .int b), (0, .ref tV), (1, .int x), (2, .int 0), (3, .int 7)]) hx hb aAn.2.2.2.2.2.2.2.2.2.2.2.2.2.2.2 hl (k := 0) rfl rfl (by decide) rfl (fun ls hl => ?_)
  refine lv_goto (tgt := 7) hx hb aOd.1 (by decide) ?_
  refine lv_iload hx hb aAn.2.2.2.2.2.1 (lv_at hl 0 rfl) ?_
  refine lv_iload_n hx hb aAn.2.2.2.2.2.2.1 rfl (lv_at hl 5 rfl) ?_
  refine lv_icmp_ge (tgt := 31) hx hb aAn.2.2.2.2.2.2.2.1 (by decide) (fun hc => absurd hc (by decide)) (fun hc => ?_)
  refine lv_aload_n hx hb aAn.2.2.2.2.2.2.2.2.1 rfl (lv_at hl 2 rfl) ?_
  refine lv_iload hx hb aAn.2.2.2.2.2.2.2.2.2.1 (lv_at hl 0 rfl) ?_
  refine va_tb (v := .int 115) hx hb hR hS (i := 4) (g_in rfl) rfl aAn.2.2.2.2.2.2.2.2.2.2.1 ?_
  refine lv_iload hx hb aAn.2.2.2.2.2.2.2.2.2.2.2.1 (lv_at hl 1 rfl) ?_
  refine lv_icmp_ne (tgt := 25) hx hb aAn.2.2.2.2.2.2.2.2.2.2.2.2.1 (by decide) (fun h4 => ?_) (fun h4 => ?_)
  rotate_left
  · refine lv_iload hx hb aAn.2.2.2.2.2.2.2.2.2.2.2.2.2.1 (lv_at hl 0 rfl) ?_
    exact W.iret (v := 4) hx hb hr (fun t ht hW => ⟨⟨4, (), rfl, by unfold lixB; rw [if_neg h0, if_neg h1, if_neg h2, if_neg h3, if_pos h4], trivial⟩, hS.F ht⟩) hS.2.2 aAn.2.2.2.2.2.2.2.2.2.2.2.2.2.2.1
  refine lv_iinc (v := 5) (lv' := [(5, .int 5), (4, .int b), (0, .ref tV), (1, .int x), (2, .int 0), (3, .int 7)]) hx hb aAn.2.2.2.2.2.2.2.2.2.2.2.2.2.2.2 hl (k := 0) rfl rfl (by decide) rfl (fun ls hl => ?_)
  refine lv_goto (tgt := 7) hx hb aOd.1 (by decide) ?_
  refine lv_iload hx hb aAn.2.2.2.2.2.1 (lv_at hl 0 rfl) ?_
  refine lv_iload_n hx hb aAn.2.2.2.2.2.2.1 rfl (lv_at hl 5 rfl) ?_
  refine lv_icmp_ge (tgt := 31) hx hb aAn.2.2.2.2.2.2.2.1 (by decide) (fun hc => absurd hc (by decide)) (fun hc => ?_)
  refine lv_aload_n hx hb aAn.2.2.2.2.2.2.2.2.1 rfl (lv_at hl 2 rfl) ?_
  refine lv_iload hx hb aAn.2.2.2.2.2.2.2.2.2.1 (lv_at hl 0 rfl) ?_
  refine va_tb (v := .int 107) hx hb hR hS (i := 5) (g_in rfl) rfl aAn.2.2.2.2.2.2.2.2.2.2.1 ?_
  refine lv_iload hx hb aAn.2.2.2.2.2.2.2.2.2.2.2.1 (lv_at hl 1 rfl) ?_
  refine lv_icmp_ne (tgt := 25) hx hb aAn.2.2.2.2.2.2.2.2.2.2.2.2.1 (by decide) (fun h5 => ?_) (fun h5 => ?_)
  rotate_left
  · refine lv_iload hx hb aAn.2.2.2.2.2.2.2.2.2.2.2.2.2.1 (lv_at hl 0 rfl) ?_
    exact W.iret (v := 5) hx hb hr (fun t ht hW => ⟨⟨5, (), rfl, by unfold lixB; rw [if_neg h0, if_neg h1, if_neg h2, if_neg h3, if_neg h4, if_pos h5], trivial⟩, hS.F ht⟩) hS.2.2 aAn.2.2.2.2.2.2.2.2.2.2.2.2.2.2.1
  refine lv_iinc (v := 6) (lv' := [(5, .int 6), (4, .int b), (0, .ref tV), (1, .int x), (2, .int 0), (3, .int 7)]) hx hb aAn.2.2.2.2.2.2.2.2.2.2.2.2.2.2.2 hl (k := 0) rfl rfl (by decide) rfl (fun ls hl => ?_)
  refine lv_goto (tgt := 7) hx hb aOd.1 (by decide) ?_
  refine lv_iload hx hb aAn.2.2.2.2.2.1 (lv_at hl 0 rfl) ?_
  refine lv_iload_n hx hb aAn.2.2.2.2.2.2.1 rfl (lv_at hl 5 rfl) ?_
  refine lv_icmp_ge (tgt := 31) hx hb aAn.2.2.2.2.2.2.2.1 (by decide) (fun hc => absurd hc (by decide)) (fun hc => ?_)
  refine lv_aload_n hx hb aAn.2.2.2.2.2.2.2.2.1 rfl (lv_at hl 2 rfl) ?_
  refine lv_iload hx hb aAn.2.2.2.2.2.2.2.2.2.1 (lv_at hl 0 rfl) ?_
  refine va_tb (v := .int 111) hx hb hR hS (i := 6) (g_in rfl) rfl aAn.2.2.2.2.2.2.2.2.2.2.1 ?_
  refine lv_iload hx hb aAn.2.2.2.2.2.2.2.2.2.2.2.1 (lv_at hl 1 rfl) ?_
  refine lv_icmp_ne (tgt := 25) hx hb aAn.2.2.2.2.2.2.2.2.2.2.2.2.1 (by decide) (fun h6 => ?_) (fun h6 => ?_)
  rotate_left
  · refine lv_iload hx hb aAn.2.2.2.2.2.2.2.2.2.2.2.2.2.1 (lv_at hl 0 rfl) ?_
    exact W.iret (v := 6) hx hb hr (fun t ht hW => ⟨⟨6, (), rfl, by unfold lixB; rw [if_neg h0, if_neg h1, if_neg h2, if_neg h3, if_neg h4, if_neg h5, if_pos h6], trivial⟩, hS.F ht⟩) hS.2.2 aAn.2.2.2.2.2.2.2.2.2.2.2.2.2.2.1
  refine lv_iinc (v := 7) (lv' := [(5, .int 7), (4, .int b), (0, .ref tV), (1, .int x), (2, .int 0), (3, .int 7)]) hx hb aAn.2.2.2.2.2.2.2.2.2.2.2.2.2.2.2 hl (k := 0) rfl rfl (by decide) rfl (fun ls hl => ?_)
  refine lv_goto (tgt := 7) hx hb aOd.1 (by decide) ?_
  refine lv_iload hx hb aAn.2.2.2.2.2.1 (lv_at hl 0 rfl) ?_
  refine lv_iload_n hx hb aAn.2.2.2.2.2.2.1 rfl (lv_at hl 5 rfl) ?_
  refine lv_icmp_ge (tgt := 31) hx hb aAn.2.2.2.2.2.2.2.1 (by decide) (fun hc => ?_) (fun hc => absurd (by decide) hc)
  refine lv_iconst (v := -1) hx hb aOd.2.1 (by decide) ?_
  exact W.iret (v := -1) hx hb hr (fun t ht hW => ⟨⟨-1, (), rfl, by unfold lixB; rw [if_neg h0, if_neg h1, if_neg h2, if_neg h3, if_neg h4, if_neg h5, if_neg h6], trivial⟩, hS.F ht⟩) hS.2.2 aOd.2.2
set_option maxHeartbeats 4000000 in
theorem c_J1_indexOf (l : Launch) (dC : Nat -> ClassId) (dI : Nat -> Nat -> Nat) (cI cC cZ cB cJ : ClassId) (tV sz : Nat) (x : Int32) : Met l bBU (gw bBU aEd 4 (some .int)) { frames := 1, cells := 0, slots := 0, locals := 30 } (va_Pc [.ref tV, .int x, .int 0, .int 7] (gPreT (dC, dI) (tyl cI cC cZ cB cJ) sz tV)) (va_Qi (fun (r : Int32) (_ : Unit) => r = lix x) (fun _ _ => True) (va_A [] sz)) 0 0 (va_A [] sz) := by
  refine Met.ofW (cc := aEd) (maxL := 4) (ret := some .int) (by decide) rfl ?_
  intro p e s m args below meth c s₁ B hml hv
  obtain ⟨rfl, ⟨hsz, ⟨hP, hK, hD⟩, hN, hZ⟩, hR⟩ := hv
  subst hsz
  have hts0 := atoms_spec (ws := gw bBU aEd 4 (some .int)) B.pre
  have hts : ∀ w ∈ W0, w.before _ s = true := fun w hw => hts0 w (List.mem_cons_of_mem _ hw)
  have hx := B.exec
  have hb := B.bytes
  have hr := B.returns
  have hlocks := B.notSynchronized
  have hown : s.vm.findClass RJ1 = some m.cls := findClass_of_methodNamed B.named
  have hA : ∀ q, s.heap.size <= q -> (va_A [] s.heap.size) q := fun q h => Or.inr h
  have C0 : gc aEd (some .int) 4 RJ1 (dC, dI) (tyl cI cC cZ cB cJ) (va_A [] s.heap.size) p s m ([.ref tV, .int x, .int 0, .int 7] : List Value).toArray meth c := ⟨hx, hb, hr, hml, hown, hts, hlocks, hA, hK, hN, hZ⟩
  have hS : va_S (va_A [] s.heap.size) s.heap s.heap [] := va_S.rf
  have hl := lv_entry [.ref tV, .int x, .int 0, .int 7] (n := 4) (lbz rfl)
  rw [lg_entry_eq]
  have hl : lv_has _ 4 [(0, .ref tV), (1, .int x), (2, .int 0), (3, .int 7)] := hl
  refine lv_iload_n hx hb aIr.1 rfl (lv_at hl 1 rfl) ?_
  refine va_calli (g_runTS (As := [.int x]) (rest := []) C0 hS hR (c_J1_canEncode l dC dI cI cC cZ cB cJ tV s.heap.size x) q_979 q_980 q_981 q_982 h_J1_canEncode_9a6ad rfl rfl ⟨lbz rfl, lbz rfl⟩ rfl rfl hl.1 rfl (lv_room (lbz rfl)) aIr.2.1 ⟨Nat.zero_le _, Nat.zero_le _⟩) hS (fun q _ h => h) (fun q h => h) (fun r u t H locs ht hvm hw hB hz hk hS => ?_)
  have hw : (r = 0 /\ (x < 0 \/ 255 < x)) \/ (r = 1 /\ ¬ x < 0 /\ ¬ 255 < x) := hw
  have hF : ∀ q, va_A [] H.size q -> (va_A [] s.heap.size) q := fun q h => hA q (Nat.le_trans hS.1 (g_nilA h))
  refine lv_if_ne (tgt := 9) hx hb aIr.2.2.1 (by decide) (fun hc => ?_) (fun hc => ?_)
  rotate_left
  · refine lv_iconst (v := -1) hx hb aIr.2.2.2.1 (by decide) ?_
    have e9 : (-1 : Int32) = lix x := by
      unfold lix
      rcases hw with ⟨-, h1 | h1⟩ | ⟨h1, -⟩
      · rw [if_pos h1]
      · by_cases h2 : x < 0
        · rw [if_pos h2]
        · rw [if_neg h2, if_pos h1]
      · exact absurd (hc.symm.trans h1) (by decide)
    exact W.iret (v := -1) hx hb hr (fun t ht hW => ⟨⟨-1, (), rfl, e9, trivial⟩, hS.F ht⟩) hS.2.2 aIr.2.2.2.2.1
  have hw : ¬ x < 0 /\ ¬ 255 < x := by
    rcases hw with ⟨h1, -⟩ | ⟨-, h1⟩
    · exact absurd h1 hc
    · exact h1
  refine lv_iload_n hx hb aIr.2.2.2.2.2.1 rfl (lv_at hl 2 rfl) ?_
  refine lv_iconst (v := 0) hx hb aIr.2.2.2.2.2.2.1 (by decide) ?_
  refine va_mmax hx hb (by rw [hml]; exact hl.1.symm) hown (hts _ q_983) (hts _ q_134) (hts _ q_16) (hts _ q_135) (lbz rfl) (lbz rfl) (Nat.zero_le _) (Nat.zero_le _) aIr.2.2.2.2.2.2.2.1 ?_
  refine lv_topi (fun v ev => ?_)
  obtain rfl : v = 0 := ev.trans (by decide)
  refine lv_istore_n (lv' := [(2, .int 0), (0, .ref tV), (1, .int x), (3, .int 7)]) hx hb aIr.2.2.2.2.2.2.2.2.1 rfl hl (by decide) rfl (fun ls hl => ?_)
  refine lv_iload_n hx hb aIr.2.2.2.2.2.2.2.2.2.1 rfl (lv_at hl 3 rfl) ?_
  refine lv_aload_n hx hb aIr.2.2.2.2.2.2.2.2.2.2.1 rfl (lv_at hl 1 rfl) ?_
  refine va_tlen (v := 7) hx hb hR hS rfl aIr.2.2.2.2.2.2.2.2.2.2.2.1 ?_
  refine va_mmin hx hb (by rw [hml]; exact hl.1.symm) hown (hts _ q_984) (hts _ q_15) (hts _ q_16) (hts _ q_17) (lbz rfl) (lbz rfl) (Nat.zero_le _) (Nat.zero_le _) aIr.2.2.2.2.2.2.2.2.2.2.2.2.1 ?_
  refine lv_topi (fun v ev => ?_)
  obtain rfl : v = 7 := ev.trans (by decide)
  refine lv_istore_n (lv' := [(3, .int 7), (2, .int 0), (0, .ref tV), (1, .int x)]) hx hb aIr.2.2.2.2.2.2.2.2.2.2.2.2.2.1 rfl hl (by decide) rfl (fun ls hl => ?_)
  refine lv_iload_n hx hb aIr.2.2.2.2.2.2.2.2.2.2.2.2.2.2.1 rfl (lv_at hl 1 rfl) ?_
  refine lv_iload_n hx hb aIr.2.2.2.2.2.2.2.2.2.2.2.2.2.2.2 rfl (lv_at hl 0 rfl) ?_
  refine lv_icmp_lt (tgt := 29) hx hb bBc.1 (by decide) (fun hc => ?_) (fun hc => absurd (by decide) hc)
  refine lv_aload_n hx hb bBc.2.2.2.1 rfl (lv_at hl 2 rfl) ?_
  refine lv_iload_n hx hb bBc.2.2.2.2.1 rfl (lv_at hl 3 rfl) ?_
  refine lv_iload_n hx hb bBc.2.2.2.2.2.1 rfl (lv_at hl 1 rfl) ?_
  refine lv_iload_n hx hb bBc.2.2.2.2.2.2.1 rfl (lv_at hl 0 rfl) ?_
  refine va_calli (g_runTS (As := [.ref tV, .int x, .int 0, .int 7]) (rest := []) C0 hS hR (c_J1_indexOfChar l dC dI cI cC cZ cB cJ tV H.size x) q_985 q_986 q_987 q_982 h_J1_indexOfChar_4cfef rfl rfl ⟨lbz rfl, lbz rfl⟩ rfl rfl hl.1 rfl (lv_room (lbz rfl)) bBc.2.2.2.2.2.2.2.1 ⟨Nat.zero_le _, Nat.zero_le _⟩) hS (fun q _ h => hF q h) hF (fun r u t H1 locs1 ht hvm hw2 hB hz hk hS => ?_)
  have hw2 : r = lixB x.toInt8.toInt32 := hw2
  have e9 : r = lix x := by
    unfold lix
    rw [if_neg hw.1, if_neg hw.2]
    exact hw2
  exact W.iret (v := r) hx hb hr (fun t ht hW => ⟨⟨r, (), rfl, e9, trivial⟩, hS.F ht⟩) hS.2.2 bBc.2.2.2.2.2.2.2.2
set_option maxHeartbeats 4000000 in
theorem c_J0_indexOf2 (l : Launch) (dC : Nat -> ClassId) (dI : Nat -> Nat -> Nat) (cI cC cZ cB cJ : ClassId) (tS sz : Nat) (x : Int32) : Met l aU9 (gw aU9 aGI 3 (some .int)) { frames := 2, cells := 0, slots := 0, locals := 60 } (va_Pc [.ref tS, .int x, .int 0] (gPreR (dC, dI) (tyl cI cC cZ cB cJ) sz tS)) (va_Qi (fun (r : Int32) (_ : Unit) => r = lix x) (fun _ _ => True) (va_A [] sz)) 0 0 (va_A [] sz) := by
  refine Met.ofW (cc := aGI) (maxL := 3) (ret := some .int) (by decide) rfl ?_
  intro p e s m args below meth c s₁ B hml hv
  obtain ⟨rfl, ⟨hsz, ⟨hP, hK, hD⟩, hN, hZ⟩, hR⟩ := hv
  subst hsz
  have hts0 := atoms_spec (ws := gw aU9 aGI 3 (some .int)) B.pre
  have hts : ∀ w ∈ W0, w.before _ s = true := fun w hw => hts0 w (List.mem_cons_of_mem _ hw)
  have hx := B.exec
  have hb := B.bytes
  have hr := B.returns
  have hlocks := B.notSynchronized
  have hown : s.vm.findClass RJ0 = some m.cls := findClass_of_methodNamed B.named
  have hA : ∀ q, s.heap.size <= q -> (va_A [] s.heap.size) q := fun q h => Or.inr h
  have C0 : gc aGI (some .int) 3 RJ0 (dC, dI) (tyl cI cC cZ cB cJ) (va_A [] s.heap.size) p s m ([.ref tS, .int x, .int 0] : List Value).toArray meth c := ⟨hx, hb, hr, hml, hown, hts, hlocks, hA, hK, hN, hZ⟩
  obtain ⟨tL, tM, -, -, -, -, -, -, hZc, tS2, tV, g1, g2, g3, g4, g5⟩ := hZ
  obtain rfl := g_tS g1 hR
  have hS : va_S (va_A [] s.heap.size) s.heap s.heap [] := va_S.rf
  have hl := lv_entry [.ref tS2, .int x, .int 0] (n := 3) (lbz rfl)
  rw [lg_entry_eq]
  have hl : lv_has _ 3 [(0, .ref tS2), (1, .int x), (2, .int 0)] := hl
  refine lv_aload_n hx hb aPs.1 rfl (lv_at hl 0 rfl) ?_
  refine va_calli (g_runStrA (As := []) (rest := []) C0 hS hR g2 (c_J0_isLatin1 l dC dI cI cC cZ cB cJ tS2 s.heap.size) q_988 q_989 q_990 q_991 q_975 h_J0_isLatin1_aae02 rfl rfl ⟨lbz rfl, lbz rfl⟩ rfl rfl hl.1 rfl (lv_room (lbz rfl)) aPs.2.1 ⟨Nat.zero_le _, Nat.zero_le _⟩) hS (fun q _ h => h) (fun q h => h) (fun r u t H locs ht hvm hw hB hz hk hS => ?_)
  have hw : r = 1 := hw
  subst hw
  have hF : ∀ q, va_A [] H.size q -> (va_A [] s.heap.size) q := fun q h => hA q (Nat.le_trans hS.1 (g_nilA h))
  refine lv_if_eq (tgt := 23) hx hb aPs.2.2.1 (by decide) (fun hc => absurd hc (by decide)) (fun hc => ?_)
  refine lv_aload_n hx hb aPs.2.2.2.1 rfl (lv_at hl 0 rfl) ?_
  refine vk_getf hx hb g4 hS hown (hts _ q_970) (fun _ h9 => h9) aPs.2.2.2.2.1 ?_
  refine lv_iload_n hx hb aPs.2.2.2.2.2.1 rfl (lv_at hl 1 rfl) ?_
  refine lv_iload_n hx hb aPs.2.2.2.2.2.2.1 rfl (lv_at hl 2 rfl) ?_
  refine lv_aload_n hx hb aPs.2.2.2.2.2.2.2.1 rfl (lv_at hl 0 rfl) ?_
  refine va_calli (g_runStrA (As := []) (rest := [.int 0, .int x, .ref tV]) C0 hS hR g2 (c_J0_length l dC dI cI cC cZ cB cJ tS2 H.size) q_976 q_992 q_977 q_978 q_975 h_J0_length_8abf5 rfl rfl ⟨lbz rfl, lbz rfl⟩ rfl rfl hl.1 rfl (lv_room (lbz rfl)) aPs.2.2.2.2.2.2.2.2.1 ⟨Nat.zero_le _, Nat.zero_le _⟩) hS (fun q _ h => hF q h) hF (fun r u t H locs ht hvm hw hB hz hk hS => ?_)
  have hw : r = 7 := hw
  subst hw
  have hF : ∀ q, va_A [] H.size q -> (va_A [] s.heap.size) q := fun q h => hA q (Nat.le_trans hS.1 (g_nilA h))
  refine va_calli (g_runTS (As := [.ref tV, .int x, .int 0, .int 7]) (rest := []) C0 hS g5 (c_J1_indexOf l dC dI cI cC cZ cB cJ tV H.size x) q_993 q_994 q_995 q_982 h_J1_indexOf_4cfef rfl rfl ⟨lbz rfl, lbz rfl⟩ rfl rfl hl.1 rfl (lv_room (lbz rfl)) aPs.2.2.2.2.2.2.2.2.2.1 ⟨Nat.zero_le _, Nat.zero_le _⟩) hS (fun q _ h => hF q h) hF (fun r u t H locs ht hvm hw hB hz hk hS => ?_)
  have hw : r = lix x := hw
  refine lv_goto (tgt := 36) hx hb aPs.2.2.2.2.2.2.2.2.2.2.1 (by decide) ?_
  exact W.iret (v := r) hx hb hr (fun t ht hW => ⟨⟨r, (), rfl, hw, trivial⟩, hS.F ht⟩) hS.2.2 eJ0_indexOf_7cf53_30.2.2
set_option maxHeartbeats 4000000 in
theorem c_J0_indexOf1 (l : Launch) (dC : Nat -> ClassId) (dI : Nat -> Nat -> Nat) (cI cC cZ cB cJ : ClassId) (tS sz : Nat) (x : Int32) : Met l aRr (gw aRr aXu 2 (some .int)) { frames := 3, cells := 0, slots := 0, locals := 90 } (va_Pc [.ref tS, .int x] (gPreR (dC, dI) (tyl cI cC cZ cB cJ) sz tS)) (va_Qi (fun (r : Int32) (_ : Unit) => r = lix x) (fun _ _ => True) (va_A [] sz)) 0 0 (va_A [] sz) := by
  refine Met.ofW (cc := aXu) (maxL := 2) (ret := some .int) (by decide) rfl ?_
  intro p e s m args below meth c s₁ B hml hv
  obtain ⟨rfl, ⟨hsz, ⟨hP, hK, hD⟩, hN, hZ⟩, hR⟩ := hv
  subst hsz
  have hts0 := atoms_spec (ws := gw aRr aXu 2 (some .int)) B.pre
  have hts : ∀ w ∈ W0, w.before _ s = true := fun w hw => hts0 w (List.mem_cons_of_mem _ hw)
  have hx := B.exec
  have hb := B.bytes
  have hr := B.returns
  have hlocks := B.notSynchronized
  have hown : s.vm.findClass RJ0 = some m.cls := findClass_of_methodNamed B.named
  have hA : ∀ q, s.heap.size <= q -> (va_A [] s.heap.size) q := fun q h => Or.inr h
  have C0 : gc aXu (some .int) 2 RJ0 (dC, dI) (tyl cI cC cZ cB cJ) (va_A [] s.heap.size) p s m ([.ref tS, .int x] : List Value).toArray meth c := ⟨hx, hb, hr, hml, hown, hts, hlocks, hA, hK, hN, hZ⟩
  obtain ⟨tL, tM, -, -, -, -, -, -, hZc, tS2, tV, g1, g2, g3, g4, g5⟩ := hZ
  obtain rfl := g_tS g1 hR
  have hS : va_S (va_A [] s.heap.size) s.heap s.heap [] := va_S.rf
  have hl := lv_entry [.ref tS2, .int x] (n := 2) (lbz rfl)
  rw [lg_entry_eq]
  have hl : lv_has _ 2 [(0, .ref tS2), (1, .int x)] := hl
  refine lv_aload_n hx hb eJ0_indexOf_0f7a4_0.1 rfl (lv_at hl 0 rfl) ?_
  refine lv_iload_n hx hb eJ0_indexOf_0f7a4_0.2.1 rfl (lv_at hl 1 rfl) ?_
  refine lv_iconst (v := 0) hx hb eJ0_indexOf_0f7a4_0.2.2.1 (by decide) ?_
  refine va_calli (g_runStrA (As := [.int x, .int 0]) (rest := []) C0 hS hR g2 (c_J0_indexOf2 l dC dI cI cC cZ cB cJ tS2 s.heap.size x) q_996 q_997 q_998 q_999 q_975 h_J0_indexOf_7cf53 rfl rfl ⟨lbz rfl, lbz rfl⟩ rfl rfl hl.1 rfl (lv_room (lbz rfl)) eJ0_indexOf_0f7a4_0.2.2.2.1 ⟨Nat.zero_le _, Nat.zero_le _⟩) hS (fun q _ h => h) (fun q h => h) (fun r u t H locs ht hvm hw hB hz hk hS => ?_)
  have hw : r = lix x := hw
  exact W.iret (v := r) hx hb hr (fun t ht hW => ⟨⟨r, (), rfl, hw, trivial⟩, hS.F ht⟩) hS.2.2 eJ0_indexOf_0f7a4_0.2.2.2.2
section GSTRX
variable {p : Program} {l : Launch} {e : Env} {R : Room} {s : State} {m : MethodId} {args : Array Value} {below : List Frame} {meth : Method} {c : Code} {H : Heap} {locs : List Loc} {cells slots : Nat} {Q : State -> Prop} {dC : Nat -> ClassId} {dI : Nat -> Nat -> Nat} {cI cC cZ cB cJ : ClassId} {A : Nat -> Prop} {ws : va_W} {cc : ByteArray} {nL index tS pc : Nat} {ret0 : Option FieldType} {own : String} {rest : List Value} {ls : Array Slot} {x : Int32}
theorem g_stridx (C0 : gc cc ret0 nL own (dC, dI) (tyl cI cC cZ cB cJ) A p s m args meth c) (hP : va_P (dC, dI) classes ws H) (hD : va_D A ws) (hS : va_S A s.heap H locs) (hRf : vk_R RX7 11 "duywsko" tS s) (hO : va_O "java/lang/String" tS A s s.heap)
    (h2 : Cond.methodLink own index aRr ∈ W0) (hsize : ls.size = nL) (hW : 2 * (F0 m pc ls (.int x :: .ref tS :: rest)).monitorRoom + (rest.map fun v => v.category).sum <= 8) (hdg : decode cc pc = .ok (.invokevirtual index, 3)) (hR1 : 4 <= R.frames) (hR2 : 111 <= R.locals) (hc1 : cells <= R.cells) (hc2 : slots <= R.slots)
    (kk : ∀ (H1 : Heap) (locs1 : List Loc), va_P (dC, dI) classes ws H1 -> va_D A ws -> va_S A s.heap H1 locs1 -> W p l e R s m args below meth c H1 locs1 cells slots Q (F0 m (pc + 3) ls (.int (lix x) :: rest))) :
    W p l e R s m args below meth c H locs cells slots Q (F0 m pc ls (.int x :: .ref tS :: rest)) := by
  have hF : ∀ q, va_A [] H.size q -> A q := fun q h => C0.2.2.2.2.2.2.2.1 q (Nat.le_trans hS.1 (g_nilA h))
  refine va_calli (g_runStrA (As := [.int x]) (rest := rest) (g := F0 m pc ls (.int x :: .ref tS :: rest)) C0 hS hRf hO (c_J0_indexOf1 l dC dI cI cC cZ cB cJ tS H.size x) q_1000 h2 q_1001 q_1002 q_975 h_J0_indexOf_0f7a4 rfl rfl ⟨hR1, hR2⟩ rfl rfl hsize rfl hW hdg ⟨hc1, hc2⟩) hS (fun q _ h => hF q h) hF (fun r u t H1 locs1 ht hvm hw hB hz hk hS1 => ?_)
  have hw : r = lix x := hw
  subst hw
  exact kk H1 locs1 (hP.kept (fun k x hx => hk x.1 ((hP k x hx).lt) (fun h => absurd ((hP k x hx).lt) (Nat.not_lt.mpr (g_nilA h))))) hD hS1
end GSTRX
