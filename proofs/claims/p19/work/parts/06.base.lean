/-! What every walk here stands on: one list of words for all methods (W0), what a method has at hand (gc), the form of a contract (gPre, gB), a call (g_calli, g_callv), an entry (g_enter). -/
theorem g_in {i : Int32} {n : Nat} (h : decide (¬ (i < 0 ∨ n ≤ i.toNatClampNeg)) = true) : vp_in i n := (of_decide_eq_true h : ¬ (i < 0 ∨ n ≤ i.toNatClampNeg))
noncomputable abbrev gw (y : MethodName) (b : ByteArray) (n : Nat) (ret : Option FieldType) : List Cond := .code y b n ret :: W0
noncomputable abbrev tyl (cI cC cZ cB cJ : ClassId) : List (ClassId × FieldType) := [(cI, .int), (cC, .char), (cZ, .boolean), (cB, .byte), (cJ, .long)]
/-- a field that holds one of two arrays, or null, by a number: 0 null, 1 the first, 2 the second -/
noncomputable def rdv (a b k : Nat) : Value := if k = 0 then .null else if k = 1 then .ref a else .ref b
noncomputable def stL : Nat → Int32 := fun j => if j = 4 then 1 else 0
noncomputable def stM : Nat → Int32 := fun j => if j = 3 then 9 else if j = 4 then 16 else 30
noncomputable def lets : Nat → Int32 := fun j => ([100, 117, 121, 119, 115, 107, 111] : List Int32).getD j 0
/-- the one String constant, its bytes; two statics of Throwable -/
noncomputable def gZX (A : Nat → Prop) (U : State) (H : Heap) : Prop := vx_Zq Bundle.tN "UNASSIGNED_STACK" Bundle.steD A U H ∧ vx_Zq Bundle.tN "SUPPRESSED_SENTINEL" Bundle.listD A U H ∧ va_Z "java/lang/String" "COMPACT_STRINGS" "Z" (.int 1) A U H ∧
  ∃ tS tV : Nat, vk_R RX7 11 "duywsko" tS U ∧ va_O "java/lang/String" tS A U H ∧ va_OF "java/lang/String" "coder" "B" (.int 0) tS A U H ∧ va_OF "java/lang/String" "value" "[B" (.ref tV) tS A U H ∧ va_T .byte tV 7 (fun j => .int (lets j)) A U H
/-- the class's static tables, and the rest: they lie outside A -/
noncomputable def gZ (A : Nat → Prop) (U : State) (H : Heap) : Prop := ∃ tL tM : Nat, va_Z "WhereTheLadder" "LEAST_SETTING" "[I" (.ref tL) A U H ∧ va_T .int tL 5 (fun j => .int (stL j)) A U H ∧ va_Z "WhereTheLadder" "MOST_SETTING" "[I" (.ref tM) A U H ∧ va_T .int tM 5 (fun j => .int (stM j)) A U H ∧ gZX A U H
theorem gZ.to {A B : Nat → Prop} {u U : State} {H H1 : Heap} (h : gZ A u H) (hvm : u.vm.Alike U.vm) (hR : ∀ a, vk_R RX7 11 "duywsko" a u → vk_R RX7 11 "duywsko" a U) (hq : ∀ a : Nat, a < H.size → ¬ A a → H1[a]? = H[a]?) (hAB : ∀ q, B q → A q) : gZ B U H1 := by
  obtain ⟨tL, tM, h1, h2, h3, h4, h5, h6, h7, tS, tV, g1, g2, g3, g4, g5⟩ := h
  exact ⟨tL, tM, va_Z.moved hvm ((h1.kept hq).narrow hAB), va_T.moved hvm ((h2.kept hq).narrow hAB), va_Z.moved hvm ((h3.kept hq).narrow hAB), va_T.moved hvm ((h4.kept hq).narrow hAB), vx_Zq.moved hvm ((h5.kept hq).narrow hAB), vx_Zq.moved hvm ((h6.kept hq).narrow hAB), va_Z.moved hvm ((h7.kept hq).narrow hAB), tS, tV, hR tS g1, va_O.moved hvm ((g2.kept hq).narrow hAB), va_OF.moved hvm ((g3.kept hq).narrow hAB), va_OF.moved hvm ((g4.kept hq).narrow hAB), va_T.moved hvm ((g5.kept hq).narrow hAB)⟩
/-- the words of nest mates, at a state -/
noncomputable def gN (U : State) : Prop := ∀ w ∈ WN, va_Nw w U
noncomputable def gB (D : va_G) (tys : List (ClassId × FieldType)) (A : Nat → Prop) (w : va_W) (t : State) : Prop := va_P D classes w t.heap ∧ va_K D classes tys t ∧ va_D A w
noncomputable def gPre (D : va_G) (tys : List (ClassId × FieldType)) (w : va_W) (sz : Nat) (U : State) : Prop := U.heap.size = sz ∧ gB D tys (fun _ => True) w U ∧ gN U ∧ gZ (va_A w sz) U U.heap
/-- what the walk of a method has at hand -/
noncomputable def gc (cc : ByteArray) (ret : Option FieldType) (nL : Nat) (own : String) (D : va_G) (tys : List (ClassId × FieldType)) (A : Nat → Prop) (p : Program) (s : State) (m : MethodId) (args : Array Value) (meth : Method) (c : Code) : Prop :=
  p.tables.exec = Jvm.exec ∧ c.code = cc ∧ meth.sig.returnType = ret ∧ c.maxLocals = nL ∧ s.vm.findClass own = some m.cls ∧ (∀ w ∈ W0, w.before args s = true) ∧ meth.locks = false ∧ (∀ q, s.heap.size ≤ q → A q) ∧ va_K D classes tys s ∧ gN s ∧ gZ A s s.heap
theorem gN.warm {s U : State} (hW : s.WarmedH U.vm) (h : gN s) : gN U := by
  intro w hw
  have h1 := h w hw
  have hk : WN_kind w = true := List.all_eq_true.mp WN_ok w hw
  cases w <;> first | exact va_Nw.warmM hW h1 | exact va_Nw.warmF hW h1 | exact va_Nw.warmC hW h1 | exact va_Nw.warmD hW h1 | exact absurd hk (by simp [WN_kind])
theorem gN.same {s U : State} (hv : s.vm = U.vm) (h : gN s) : gN U := by
  intro w hw
  have hk : WN_kind w = true := List.all_eq_true.mp WN_ok w hw
  have h1 := h w hw
  cases w <;> first | exact va_Nw.same rfl hv h1 | exact absurd hk (by simp [WN_kind])
theorem gPre.blind {D : va_G} {tys : List (ClassId × FieldType)} {w : va_W} {sz : Nat} {av : List Value} : FrameBlind (va_Pc av (gPre D tys w sz)) := by
  intro a U g mk h
  obtain ⟨h0, h1, ⟨hP, hK, hD⟩, hN, hZ⟩ := h
  exact ⟨h0, h1, ⟨hP, va_K.moved (u := U) (U := U.calling g mk a) (Vm.Alike.refl U.vm) hK, hD⟩, gN.same (s := U) (U := U.calling g mk a) rfl hN, hZ.to (u := U) (U := U.calling g mk a) (Vm.Alike.refl U.vm) (fun _ h9 => vk_R.same (u := U) (U := U.calling g mk a) rfl h9) (fun _ _ _ => rfl) (fun _ h => h)⟩
theorem gw_good {y y2 : MethodName} {b b2 : ByteArray} {n n2 : Nat} {r r2 : Option FieldType} (h : Cond.code y2 b2 n2 r2 ∈ W0) : GoodIn (gw y b n r) (gw y2 b2 n2 r2) := by
  intro w hw
  rcases List.mem_cons.mp hw with e | e
  · subst e
    exact ⟨List.mem_cons_of_mem _ h, Or.inl rfl⟩
  · exact ⟨List.mem_cons_of_mem _ e, good_of_word (List.all_eq_true.mp W0_good w e)⟩
theorem g0_good {y2 : MethodName} {b2 : ByteArray} {n2 : Nat} {r2 : Option FieldType} (h : Cond.code y2 b2 n2 r2 ∈ W0) : GoodIn W0 (gw y2 b2 n2 r2) := by
  intro w hw
  rcases List.mem_cons.mp hw with e | e
  · subst e
    exact ⟨h, Or.inl rfl⟩
  · exact ⟨e, good_of_word (List.all_eq_true.mp W0_good w e)⟩
noncomputable def g_dis (isR isC : List Nat) : Bool := isR.all fun i => !isC.contains i
theorem g_dis_of {isR isC : List Nat} (h : g_dis isR isC = true) : ∀ i ∈ isR, i ∉ isC := by
  intro i hi hc
  have h1 := List.all_eq_true.mp h i hi
  simp [hc] at h1
noncomputable abbrev gpk (ws : va_W) (is : List Nat) : va_W := is.filterMap (fun i => ws[i]?)
section GCALL
variable {p : Program} {l : Launch} {e : Env} {R : Room} {s : State} {m : MethodId} {args : Array Value} {below : List Frame} {meth : Method} {c : Code} {H : Heap} {locs : List Loc} {cells slots : Nat} {Q : State → Prop} {pc : Nat} {ls : Array Slot} {rest st0 : List Value} {D : va_G} {tys : List (ClassId × FieldType)} {A : Nat → Prop} {ws wc : va_W} {a : Array Value}
theorem g_calli {S : Type} {post : Int32 → S → Prop} {w1 : S → va_W} (hP : va_P D classes ws H) (hD : va_D A ws) (hS : va_S A s.heap H locs) (hA : ∀ q, s.heap.size ≤ q → A q)
    (isC isR : List Nat) (hC : isC.map (fun i => ws[i]?) = wc.map some) (hR : isR.map (fun i => ws[i]?) = (gpk ws isR).map some) (hn : va_nd isR = true) (hdis : g_dis isR isC = true)
    (hr : va_Run p l e R s m args below meth c H locs cells slots 0 0 (F0 m pc ls st0) rest (va_Qi post (fun u t => gB D tys (va_A wc H.size) (w1 u) t) (va_A wc H.size) a) (va_A wc H.size))
    (kk : ∀ (r : Int32) (u : S) (H1 : Heap) (locs1 : List Loc), post r u → va_P D classes (gpk ws isR ++ w1 u) H1 → va_D A (gpk ws isR ++ w1 u) → va_S A s.heap H1 locs1 → W p l e R s m args below meth c H1 locs1 cells slots Q (F0 m (pc + 3) ls (.int r :: rest))) :
    W p l e R s m args below meth c H locs cells slots Q (F0 m pc ls st0) := by
  have hF := va_free (wc := wc) hD hS hA isC hC
  refine va_calli hr hS (fun q _ h => hF q h) hF (fun r u t H1 locs1 ht hvm hw hB hz hk hS1 => ?_)
  obtain ⟨hP1, hK1, hD1⟩ := hB
  rw [ht] at hP1
  obtain ⟨hP2, hD2⟩ := va_join hP hD isC isR hC hR hn (g_dis_of hdis) hk hF hP1 hD1
  exact kk r u H1 locs1 hw hP2 hD2 hS1
theorem g_callv {S : Type} {post : S → Prop} {w1 : S → va_W} (hP : va_P D classes ws H) (hD : va_D A ws) (hS : va_S A s.heap H locs) (hA : ∀ q, s.heap.size ≤ q → A q)
    (isC isR : List Nat) (hC : isC.map (fun i => ws[i]?) = wc.map some) (hR : isR.map (fun i => ws[i]?) = (gpk ws isR).map some) (hn : va_nd isR = true) (hdis : g_dis isR isC = true)
    (hr : va_Run p l e R s m args below meth c H locs cells slots 0 0 (F0 m pc ls st0) rest (va_Qv post (fun u t => gB D tys (va_A wc H.size) (w1 u) t) (va_A wc H.size) a) (va_A wc H.size))
    (kk : ∀ (u : S) (H1 : Heap) (locs1 : List Loc), post u → va_P D classes (gpk ws isR ++ w1 u) H1 → va_D A (gpk ws isR ++ w1 u) → va_S A s.heap H1 locs1 → W p l e R s m args below meth c H1 locs1 cells slots Q (F0 m (pc + 3) ls rest)) :
    W p l e R s m args below meth c H locs cells slots Q (F0 m pc ls st0) := by
  have hF := va_free (wc := wc) hD hS hA isC hC
  refine va_callv hr hS (fun q _ h => hF q h) hF (fun u t H1 locs1 ht hvm hw hB hz hk hS1 => ?_)
  obtain ⟨hP1, hK1, hD1⟩ := hB
  rw [ht] at hP1
  obtain ⟨hP2, hD2⟩ := va_join hP hD isC isR hC hR hn (g_dis_of hdis) hk hF hP1 hD1
  exact kk u H1 locs1 hw hP2 hD2 hS1
end GCALL
theorem g_sub {is : List Nat} {ws wc : va_W} (h : is.map (fun i => ws[i]?) = wc.map some) : is.filterMap (fun i => ws[i]?) = wc := by
  have e1 : is.filterMap (fun i => ws[i]?) = (is.map (fun i => ws[i]?)).filterMap id := by
    rw [List.filterMap_map]
    rfl
  rw [e1, h, List.filterMap_map]
  exact List.filterMap_some
section GRUN
variable {p : Program} {l : Launch} {e : Env} {R : Room} {s : State} {m : MethodId} {args : Array Value} {below : List Frame} {meth : Method} {c : Code} {H : Heap} {locs : List Loc} {cells slots : Nat} {D : va_G} {tys : List (ClassId × FieldType)} {A : Nat → Prop} {ws wc : va_W}
variable {y : MethodName} {bytes cc : ByteArray} {maxL nL n index : Nat} {ret ret0 : Option FieldType} {rm : Room} {Qc : Array Value → State → Outcome → State → Prop} {own C : String} {b : Addr} {As rest : List Value} {g : JFrame}
/-- a virtual call of a method of C itself, on the cell at place q0 of the world -/
theorem g_runV (C0 : gc cc ret0 nL own D tys A p s m args meth c) (hP : va_P D classes ws H) (hD : va_D A ws) (hS : va_S A s.heap H locs) (isC : List Nat) (hC : isC.map (fun i => ws[i]?) = wc.map some) (hn1 : va_nd isC = true) (q0 ci : Nat) {q : vw_C} {fs : List Value} (hc : classes[ci]? = some q) (he : ws[q0]? = some (b, .inr (ci, fs)))
    (hM : Met l y (gw y bytes maxL ret) rm (va_Pc (.ref b :: As) (gPre D tys wc H.size)) Qc 0 0 (va_A wc H.size))
    (h1 : Cond.code y bytes maxL ret ∈ W0) (h2 : Cond.methodLink own index y ∈ W0) (h3 : Cond.instanceMethod y ∈ W0) (h4 : Cond.selects q.1 y y ∈ W0) (h5 : Cond.initialized y.cls ∈ W0)
    (hd : y.cls ≠ "java/lang/invoke/MethodHandle" ∧ y.cls ≠ "java/lang/invoke/VarHandle" ∧ (parseMethodDescriptor y.desc).map (fun d => d.parameters.length) = some n) (hrc : rm.cells = 0) (hrs : rm.slots = 0) (hR : rm.frames + 1 ≤ R.frames ∧ 8 + (maxL + 11) + rm.locals ≤ R.locals)
    (hg : g.method = m) (hn : As.length = n) (hsize : g.locals.size = nL) (hstack : g.stack = As.reverse ++ .ref b :: rest) (hW : 2 * g.monitorRoom + (rest.map fun v => v.category).sum ≤ 8) (hdg : decode cc g.pc = .ok (.invokevirtual index, 3)) (hf : cells + 0 ≤ R.cells ∧ slots + 0 ≤ R.slots) :
    va_Run p l e R s m args below meth c H locs cells slots 0 0 g rest (Qc (Value.ref b :: As).toArray) (va_A wc H.size) := by
  obtain ⟨hx, hb, hr, hml, hown, hts, hlocks, hA, hK, hN, hZ⟩ := C0
  refine va_runV (Ts := W0) ⟨hx, hb, hml, hown, hts⟩ hM ⟨callB_of n hts (g0_good h1) rfl hrc hrs (hts _ h5) (hts _ h2) hd hR, hts _ h3, hts _ h4⟩ ⟨gPre.blind, va_recv hK hP hc he, fun U hU hWm => ⟨rfl, by rw [hU], ⟨by rw [hU]; exact hP.sub isC (g_sub hC), va_K.moved hWm.alike hK, (hD.sub isC hn1 hC).weaken (fun _ _ _ _ => trivial)⟩, gN.warm hWm hN, by rw [hU]; exact hZ.to hWm.alike (fun _ h9 => vk_R.warm hWm h9) hS.2.1 (va_free (wc := wc) hD hS hA isC hC)⟩⟩ hg hn hsize hstack hW hdg hf
/-- a private method of the nest, by its nest word -/
theorem g_runVN {host : String} (C0 : gc cc ret0 nL own D tys A p s m args meth c) (hP : va_P D classes ws H) (hD : va_D A ws) (hS : va_S A s.heap H locs) (isC : List Nat) (hC : isC.map (fun i => ws[i]?) = wc.map some) (hn1 : va_nd isC = true) (q0 ci : Nat) {q : vw_C} {fs : List Value} (hc : classes[ci]? = some q) (he : ws[q0]? = some (b, .inr (ci, fs)))
    (hM : Met l y (gw y bytes maxL ret) rm (va_Pc (.ref b :: As) (gPre D tys wc H.size)) Qc 0 0 (va_A wc H.size))
    (h1 : Cond.code y bytes maxL ret ∈ W0) (h2 : Cond.methodLinkNest own index y host ∈ WN) (h3 : Cond.instanceMethod y ∈ W0) (h4 : Cond.selects q.1 y y ∈ W0) (h5 : Cond.initialized y.cls ∈ W0)
    (hd : y.cls ≠ "java/lang/invoke/MethodHandle" ∧ y.cls ≠ "java/lang/invoke/VarHandle" ∧ (parseMethodDescriptor y.desc).map (fun d => d.parameters.length) = some n) (hrc : rm.cells = 0) (hrs : rm.slots = 0) (hR : rm.frames + 1 ≤ R.frames ∧ 8 + (maxL + 11) + rm.locals ≤ R.locals)
    (hg : g.method = m) (hn : As.length = n) (hsize : g.locals.size = nL) (hstack : g.stack = As.reverse ++ .ref b :: rest) (hW : 2 * g.monitorRoom + (rest.map fun v => v.category).sum ≤ 8) (hdg : decode cc g.pc = .ok (.invokevirtual index, 3)) (hf : cells + 0 ≤ R.cells ∧ slots + 0 ≤ R.slots) :
    va_Run p l e R s m args below meth c H locs cells slots 0 0 g rest (Qc (Value.ref b :: As).toArray) (va_A wc H.size) := by
  obtain ⟨hx, hb, hr, hml, hown, hts, hlocks, hA, hK, hN, hZ⟩ := C0
  exact va_runVN (Ts := W0) (host := host) ⟨hx, hb, hml, hown, hts⟩ hM ⟨va_cnB n hts (g0_good h1) rfl hrc hrs (hN _ h2) (hts _ h5) hd hR, hts _ h3, hts _ h4⟩ ⟨gPre.blind, va_recv hK hP hc he, fun U hU hWm => ⟨rfl, by rw [hU], ⟨by rw [hU]; exact hP.sub isC (g_sub hC), va_K.moved hWm.alike hK, (hD.sub isC hn1 hC).weaken (fun _ _ _ _ => trivial)⟩, gN.warm hWm hN, by rw [hU]; exact hZ.to hWm.alike (fun _ h9 => vk_R.warm hWm h9) hS.2.1 (va_free (wc := wc) hD hS hA isC hC)⟩⟩ hg hn hsize hstack hW hdg hf
/-- a static method -/
theorem g_runS (C0 : gc cc ret0 nL own D tys A p s m args meth c) (hP : va_P D classes ws H) (hD : va_D A ws) (hS : va_S A s.heap H locs) (isC : List Nat) (hC : isC.map (fun i => ws[i]?) = wc.map some) (hn1 : va_nd isC = true)
    (hM : Met l y (gw y bytes maxL ret) rm (va_Pc As (gPre D tys wc H.size)) Qc 0 0 (va_A wc H.size))
    (h1 : Cond.code y bytes maxL ret ∈ W0) (h2 : Cond.methodLink own index y ∈ W0) (h3 : Cond.static y ∈ W0) (h5 : Cond.initialized y.cls ∈ W0)
    (hd : y.cls ≠ "java/lang/invoke/MethodHandle" ∧ y.cls ≠ "java/lang/invoke/VarHandle" ∧ (parseMethodDescriptor y.desc).map (fun d => d.parameters.length) = some n) (hrc : rm.cells = 0) (hrs : rm.slots = 0) (hR : rm.frames + 1 ≤ R.frames ∧ 8 + (maxL + 11) + rm.locals ≤ R.locals)
    (hg : g.method = m) (hn : As.length = n) (hsize : g.locals.size = nL) (hstack : g.stack = As.reverse ++ rest) (hW : 2 * g.monitorRoom + (rest.map fun v => v.category).sum ≤ 8) (hdg : decode cc g.pc = .ok (.invokestatic index, 3)) (hf : cells + 0 ≤ R.cells ∧ slots + 0 ≤ R.slots) :
    va_Run p l e R s m args below meth c H locs cells slots 0 0 g rest (Qc As.toArray) (va_A wc H.size) := by
  obtain ⟨hx, hb, hr, hml, hown, hts, hlocks, hA, hK, hN, hZ⟩ := C0
  exact va_runS (Ts := W0) ⟨hx, hb, hml, hown, hts⟩ hM ⟨callB_of n hts (g0_good h1) rfl hrc hrs (hts _ h5) (hts _ h2) hd hR, hts _ h3⟩ ⟨gPre.blind, fun U hU hWm => ⟨rfl, by rw [hU], ⟨by rw [hU]; exact hP.sub isC (g_sub hC), va_K.moved hWm.alike hK, (hD.sub isC hn1 hC).weaken (fun _ _ _ _ => trivial)⟩, gN.warm hWm hN, by rw [hU]; exact hZ.to hWm.alike (fun _ h9 => vk_R.warm hWm h9) hS.2.1 (va_free (wc := wc) hD hS hA isC hC)⟩⟩ hg hn hsize hstack hW hdg hf
/-- a private static method of the nest -/
theorem g_runSN {host : String} (C0 : gc cc ret0 nL own D tys A p s m args meth c) (hP : va_P D classes ws H) (hD : va_D A ws) (hS : va_S A s.heap H locs) (isC : List Nat) (hC : isC.map (fun i => ws[i]?) = wc.map some) (hn1 : va_nd isC = true)
    (hM : Met l y (gw y bytes maxL ret) rm (va_Pc As (gPre D tys wc H.size)) Qc 0 0 (va_A wc H.size))
    (h1 : Cond.code y bytes maxL ret ∈ W0) (h2 : Cond.methodLinkNest own index y host ∈ WN) (h3 : Cond.static y ∈ W0) (h5 : Cond.initialized y.cls ∈ W0)
    (hd : y.cls ≠ "java/lang/invoke/MethodHandle" ∧ y.cls ≠ "java/lang/invoke/VarHandle" ∧ (parseMethodDescriptor y.desc).map (fun d => d.parameters.length) = some n) (hrc : rm.cells = 0) (hrs : rm.slots = 0) (hR : rm.frames + 1 ≤ R.frames ∧ 8 + (maxL + 11) + rm.locals ≤ R.locals)
    (hg : g.method = m) (hn : As.length = n) (hsize : g.locals.size = nL) (hstack : g.stack = As.reverse ++ rest) (hW : 2 * g.monitorRoom + (rest.map fun v => v.category).sum ≤ 8) (hdg : decode cc g.pc = .ok (.invokestatic index, 3)) (hf : cells + 0 ≤ R.cells ∧ slots + 0 ≤ R.slots) :
    va_Run p l e R s m args below meth c H locs cells slots 0 0 g rest (Qc As.toArray) (va_A wc H.size) := by
  obtain ⟨hx, hb, hr, hml, hown, hts, hlocks, hA, hK, hN, hZ⟩ := C0
  exact va_runSN (Ts := W0) (host := host) ⟨hx, hb, hml, hown, hts⟩ hM ⟨va_cnB n hts (g0_good h1) rfl hrc hrs (hN _ h2) (hts _ h5) hd hR, hts _ h3, trivial⟩ ⟨gPre.blind, fun U hU hWm => ⟨rfl, by rw [hU], ⟨by rw [hU]; exact hP.sub isC (g_sub hC), va_K.moved hWm.alike hK, (hD.sub isC hn1 hC).weaken (fun _ _ _ _ => trivial)⟩, gN.warm hWm hN, by rw [hU]; exact hZ.to hWm.alike (fun _ h9 => vk_R.warm hWm h9) hS.2.1 (va_free (wc := wc) hD hS hA isC hC)⟩⟩ hg hn hsize hstack hW hdg hf
end GRUN
/-- a method's contract out of its walk -/
theorem g_enter {l : Launch} {y : MethodName} {cc : ByteArray} {nL : Nat} {ret : Option FieldType} {rm : Room} {own : String} (D : va_G) (tys : List (ClassId × FieldType)) (w : va_W) (sz : Nat) (av : List Value) (Qc : (Nat → Prop) → Array Value → State → Outcome → State → Prop)
    (hy : plainName y.cls = true) (hown : y.cls = own) (hlen : (lg_sl av).length ≤ nL)
    (body : ∀ (p : Program) (e : Env) (s : State) (m : MethodId) (args : Array Value) (below : List Frame) (meth : Method) (c : Code) (A : Nat → Prop) (H : Heap) (locs : List Loc) (ls : Array Slot), gc cc ret nL own D tys A p s m args meth c → va_P D classes w H → va_D A w → va_S A s.heap H locs → lv_has ls nL (lv_args 0 av) →
      W p l e rm s m args below meth c H locs 0 0 (MQ below (Qc A) args s 0 0 A) (F0 m 0 ls [])) :
    Met l y (gw y cc nL ret) rm (va_Pc av (gPre D tys w sz)) (Qc (va_A w sz)) 0 0 (va_A w sz) := by
  refine Met.ofW (cc := cc) (maxL := nL) (ret := ret) hy rfl ?_
  intro p e s m args below meth c s₁ B hml hv
  obtain ⟨rfl, hsz, ⟨hP, hK, hD⟩, hN, hZ⟩ := hv
  subst hsz
  have hts := atoms_spec (ws := gw y cc nL ret) B.pre
  have ho : s.vm.findClass own = some m.cls := by
    rw [← hown]
    exact findClass_of_methodNamed B.named
  have hl := lv_entry av (n := nL) hlen
  rw [lg_entry_eq]
  exact body p e s m _ below meth c (va_A w s.heap.size) s.heap [] _ ⟨B.exec, B.bytes, B.returns, hml, ho, fun w hw => hts w (List.mem_cons_of_mem _ hw), B.notSynchronized, fun q h => Or.inr h, hK, hN, hZ⟩ hP hD.self va_S.rf hl
/-- a constructor's contract out of its walk -/
theorem g_enterC {l : Launch} {y : MethodName} {cc : ByteArray} {nL mc ms : Nat} {rm : Room} {own : String} (D : va_G) (tys : List (ClassId × FieldType)) (w : va_W) (sz : Nat) (av : List Value) (Qc : (Nat → Prop) → Array Value → State → Outcome → State → Prop)
    (hy : plainName y.cls = true) (hown : y.cls = own) (hlen : (lg_sl av).length ≤ nL)
    (body : ∀ (p : Program) (e : Env) (s : State) (m : MethodId) (args : Array Value) (below : List Frame) (meth : Method) (c : Code) (A : Nat → Prop) (H : Heap) (locs : List Loc) (ls : Array Slot), gc cc none nL own D tys A p s m args meth c → meth.name = y.name → va_P D classes w H → va_D A w → va_S A s.heap H locs → lv_has ls nL (lv_args 0 av) →
      W p l e rm s m args below meth c H locs 0 0 (MQ below (Qc A) args s mc ms A) (F0 m 0 ls [])) :
    Met l y (gw y cc nL none) rm (va_Pc av (gPre D tys w sz)) (Qc (va_A w sz)) mc ms (va_A w sz) := by
  refine Met.ofW (cc := cc) (maxL := nL) (ret := none) hy rfl ?_
  intro p e s m args below meth c s₁ B hml hv
  obtain ⟨rfl, hsz, ⟨hP, hK, hD⟩, hN, hZ⟩ := hv
  subst hsz
  have hts := atoms_spec (ws := gw y cc nL none) B.pre
  have ho : s.vm.findClass own = some m.cls := by
    rw [← hown]
    exact findClass_of_methodNamed B.named
  have hl := lv_entry av (n := nL) hlen
  rw [lg_entry_eq]
  exact body p e s m _ below meth c (va_A w s.heap.size) s.heap [] _ ⟨B.exec, B.bytes, B.returns, hml, ho, fun w hw => hts w (List.mem_cons_of_mem _ hw), B.notSynchronized, fun q h => Or.inr h, hK, hN, hZ⟩ (name_of_methodNamed B.named B.method).1 hP hD.self va_S.rf hl
section GCALLC
variable {p : Program} {l : Launch} {e : Env} {R : Room} {s : State} {m : MethodId} {args : Array Value} {below : List Frame} {meth : Method} {c : Code} {H : Heap} {locs : List Loc} {cells slots mc ms : Nat} {Q : State → Prop} {pc : Nat} {ls : Array Slot} {rest st0 : List Value} {D : va_G} {tys : List (ClassId × FieldType)} {A : Nat → Prop} {ws wc : va_W} {a : Array Value}
theorem g_callvC {S : Type} {post : S → Prop} {w1 : S → va_W} (hP : va_P D classes ws H) (hD : va_D A ws) (hS : va_S A s.heap H locs) (hA : ∀ q, s.heap.size ≤ q → A q)
    (isC isR : List Nat) (hC : isC.map (fun i => ws[i]?) = wc.map some) (hR : isR.map (fun i => ws[i]?) = (gpk ws isR).map some) (hn : va_nd isR = true) (hdis : g_dis isR isC = true)
    (hr : va_Run p l e R s m args below meth c H locs cells slots mc ms (F0 m pc ls st0) rest (va_Qv post (fun u t => gB D tys (va_A wc H.size) (w1 u) t) (va_A wc H.size) a) (va_A wc H.size))
    (kk : ∀ (u : S) (H1 : Heap) (locs1 : List Loc), post u → va_P D classes (gpk ws isR ++ w1 u) H1 → va_D A (gpk ws isR ++ w1 u) → va_S A s.heap H1 locs1 → W p l e R s m args below meth c H1 locs1 (cells + mc) (slots + ms) Q (F0 m (pc + 3) ls rest)) :
    W p l e R s m args below meth c H locs cells slots Q (F0 m pc ls st0) := by
  have hF := va_free (wc := wc) hD hS hA isC hC
  refine va_callv hr hS (fun q _ h => hF q h) hF (fun u t H1 locs1 ht hvm hw hB hz hk hS1 => ?_)
  obtain ⟨hP1, hK1, hD1⟩ := hB
  rw [ht] at hP1
  obtain ⟨hP2, hD2⟩ := va_join hP hD isC isR hC hR hn (g_dis_of hdis) hk hF hP1 hD1
  exact kk u H1 locs1 hw hP2 hD2 hS1
variable {y : MethodName} {bytes cc : ByteArray} {maxL nL n index : Nat} {ret ret0 : Option FieldType} {rm : Room} {Qc : Array Value → State → Outcome → State → Prop} {own C : String} {b : Addr} {As : List Value} {g : JFrame}
theorem g_runIN {host : String} (C0 : gc cc ret0 nL own D tys A p s m args meth c) (hP : va_P D classes ws H) (hD : va_D A ws) (hS : va_S A s.heap H locs) (isC : List Nat) (hC : isC.map (fun i => ws[i]?) = wc.map some) (hn1 : va_nd isC = true)
    (hM : Met l y (gw y bytes maxL none) rm (va_Pc (.ref b :: As) (gPre D tys wc H.size)) Qc mc ms (va_A wc H.size))
    (h1 : Cond.code y bytes maxL none ∈ W0) (h2 : Cond.methodLinkNest own index y host ∈ WN) (h3 : Cond.instanceMethod y ∈ W0) (h5 : Cond.initialized y.cls ∈ W0) (hnm : y.name = "<init>")
    (hd : y.cls ≠ "java/lang/invoke/MethodHandle" ∧ y.cls ≠ "java/lang/invoke/VarHandle" ∧ (parseMethodDescriptor y.desc).map (fun d => d.parameters.length) = some n) (hrc : rm.cells = mc) (hrs : rm.slots = ms) (hR : rm.frames + 1 ≤ R.frames ∧ 8 + (maxL + 11) + rm.locals ≤ R.locals)
    (hg : g.method = m) (hn : As.length = n) (hsize : g.locals.size = nL) (hstack : g.stack = As.reverse ++ .ref b :: rest) (hW : 2 * g.monitorRoom + (rest.map fun v => v.category).sum ≤ 8) (hdg : decode cc g.pc = .ok (.invokespecial index, 3)) (hf : cells + mc ≤ R.cells ∧ slots + ms ≤ R.slots) :
    va_Run p l e R s m args below meth c H locs cells slots mc ms g rest (Qc (Value.ref b :: As).toArray) (va_A wc H.size) := by
  obtain ⟨hx, hb, hr, hml, hown, hts, hlocks, hA, hK, hN, hZ⟩ := C0
  exact va_runIN (Ts := W0) (host := host) ⟨hx, hb, hml, hown, hts⟩ hM ⟨va_cnB n hts (g0_good h1) rfl hrc hrs (hN _ h2) (hts _ h5) hd hR, hnm, hts _ h3⟩ ⟨gPre.blind, fun U hU hWm => ⟨rfl, by rw [hU], ⟨by rw [hU]; exact hP.sub isC (g_sub hC), va_K.moved hWm.alike hK, (hD.sub isC hn1 hC).weaken (fun _ _ _ _ => trivial)⟩, gN.warm hWm hN, by rw [hU]; exact hZ.to hWm.alike (fun _ h9 => vk_R.warm hWm h9) hS.2.1 (va_free (wc := wc) hD hS hA isC hC)⟩⟩ hg hn hsize hstack hW hdg hf
theorem g_runI (C0 : gc cc ret0 nL own D tys A p s m args meth c) (hP : va_P D classes ws H) (hD : va_D A ws) (hS : va_S A s.heap H locs) (isC : List Nat) (hC : isC.map (fun i => ws[i]?) = wc.map some) (hn1 : va_nd isC = true)
    (hM : Met l y (gw y bytes maxL none) rm (va_Pc (.ref b :: As) (gPre D tys wc H.size)) Qc mc ms (va_A wc H.size))
    (h1 : Cond.code y bytes maxL none ∈ W0) (h2 : Cond.methodLink own index y ∈ W0) (h3 : Cond.instanceMethod y ∈ W0) (h5 : Cond.initialized y.cls ∈ W0) (hnm : y.name = "<init>")
    (hd : y.cls ≠ "java/lang/invoke/MethodHandle" ∧ y.cls ≠ "java/lang/invoke/VarHandle" ∧ (parseMethodDescriptor y.desc).map (fun d => d.parameters.length) = some n) (hrc : rm.cells = mc) (hrs : rm.slots = ms) (hR : rm.frames + 1 ≤ R.frames ∧ 8 + (maxL + 11) + rm.locals ≤ R.locals)
    (hg : g.method = m) (hn : As.length = n) (hsize : g.locals.size = nL) (hstack : g.stack = As.reverse ++ .ref b :: rest) (hW : 2 * g.monitorRoom + (rest.map fun v => v.category).sum ≤ 8) (hdg : decode cc g.pc = .ok (.invokespecial index, 3)) (hf : cells + mc ≤ R.cells ∧ slots + ms ≤ R.slots) :
    va_Run p l e R s m args below meth c H locs cells slots mc ms g rest (Qc (Value.ref b :: As).toArray) (va_A wc H.size) := by
  obtain ⟨hx, hb, hr, hml, hown, hts, hlocks, hA, hK, hN, hZ⟩ := C0
  exact va_runI (Ts := W0) ⟨hx, hb, hml, hown, hts⟩ hM ⟨callB_of n hts (g0_good h1) rfl hrc hrs (hts _ h5) (hts _ h2) hd hR, hnm, hts _ h3⟩ ⟨gPre.blind, fun U hU hWm => ⟨rfl, by rw [hU], ⟨by rw [hU]; exact hP.sub isC (g_sub hC), va_K.moved hWm.alike hK, (hD.sub isC hn1 hC).weaken (fun _ _ _ _ => trivial)⟩, gN.warm hWm hN, by rw [hU]; exact hZ.to hWm.alike (fun _ h9 => vk_R.warm hWm h9) hS.2.1 (va_free (wc := wc) hD hS hA isC hC)⟩⟩ hg hn hsize hstack hW hdg hf
end GCALLC
/-- an array class is known by its name -/
theorem g_sameI {D : va_G} {cI cC cZ cB cJ cA : ClassId} {s : State} (h : va_K D classes (tyl cI cC cZ cB cJ ++ [(cA, .int)]) s) : cA = cI := Option.some.inj ((h.2 5 (cA, .int) rfl).2.symm.trans (h.2 0 (cI, .int) rfl).2)
theorem g_sameC {D : va_G} {cI cC cZ cB cJ cA : ClassId} {s : State} (h : va_K D classes (tyl cI cC cZ cB cJ ++ [(cA, .char)]) s) : cA = cC := Option.some.inj ((h.2 5 (cA, .char) rfl).2.symm.trans (h.2 1 (cC, .char) rfl).2)
theorem g_sameZ {D : va_G} {cI cC cZ cB cJ cA : ClassId} {s : State} (h : va_K D classes (tyl cI cC cZ cB cJ ++ [(cA, .boolean)]) s) : cA = cZ := Option.some.inj ((h.2 5 (cA, .boolean) rfl).2.symm.trans (h.2 2 (cZ, .boolean) rfl).2)
theorem g_sameB {D : va_G} {cI cC cZ cB cJ cA : ClassId} {s : State} (h : va_K D classes (tyl cI cC cZ cB cJ ++ [(cA, .byte)]) s) : cA = cB := Option.some.inj ((h.2 5 (cA, .byte) rfl).2.symm.trans (h.2 3 (cB, .byte) rfl).2)
theorem PDs {D : va_G} {cl : List vw_C} {ws ws' : va_W} {H : Heap} {A : Nat → Prop} (hP : va_P D cl ws H) (hD : va_D A ws) (is : List Nat) (hn : va_nd is = true) (hs : is.map (fun i => ws[i]?) = ws'.map some) : va_P D cl ws' H ∧ va_D A ws' := ⟨hP.sub is (g_sub hs), hD.sub is hn hs⟩
theorem PDw {D : va_G} {cl : List vw_C} {ws ws' : va_W} {H : Heap} {A : Nat → Prop} (hP : va_P D cl ws H) (hD : va_D A ws) (e : ws = ws') : va_P D cl ws' H ∧ va_D A ws' := e ▸ ⟨hP, hD⟩
/-! a call's part of the world by a mask: one pass instead of lists of places -/
noncomputable def mixT : List Bool → List Nat
  | [] => []
  | true :: ms => 0 :: (mixT ms).map (fun i => i + 1)
  | false :: ms => (mixT ms).map (fun i => i + 1)
noncomputable def mixF : List Bool → List Nat
  | [] => []
  | true :: ms => (mixF ms).map (fun i => i + 1)
  | false :: ms => 0 :: (mixF ms).map (fun i => i + 1)
noncomputable def mT : List Bool → va_W → va_W
  | [], _ => []
  | _ :: _, [] => []
  | true :: ms, w :: ws => w :: mT ms ws
  | false :: ms, _ :: ws => mT ms ws
noncomputable def mF : List Bool → va_W → va_W
  | [], _ => []
  | _ :: _, [] => []
  | true :: ms, _ :: ws => mF ms ws
  | false :: ms, w :: ws => w :: mF ms ws
noncomputable def mpu : List Bool → va_W → va_W → va_W
  | [], _, _ => []
  | _ :: _, _, [] => []
  | true :: _, [], _ :: _ => []
  | true :: ms, x :: xs, _ :: ws => x :: mpu ms xs ws
  | false :: ms, xs, w :: ws => w :: mpu ms xs ws
theorem mx_e (l : List Nat) (w : Nat × va_E) (ws : va_W) : (l.map (fun i => i + 1)).map (fun i => (w :: ws)[i]?) = l.map (fun i => ws[i]?) := by
  rw [List.map_map]
  rfl
theorem mix_T : ∀ (ms : List Bool) (ws : va_W), ms.length = ws.length → (mixT ms).map (fun i => ws[i]?) = (mT ms ws).map some
  | [], _, _ => rfl
  | _ :: _, [], h => by simp at h
  | true :: ms, w :: ws, h => by
    have ih := mix_T ms ws (by simpa using h)
    show some w :: ((mixT ms).map (fun i => i + 1)).map (fun i => (w :: ws)[i]?) = some w :: (mT ms ws).map some
    rw [mx_e, ih]
  | false :: ms, w :: ws, h => by
    have ih := mix_T ms ws (by simpa using h)
    show ((mixT ms).map (fun i => i + 1)).map (fun i => (w :: ws)[i]?) = (mT ms ws).map some
    rw [mx_e, ih]
theorem mix_F : ∀ (ms : List Bool) (ws : va_W), ms.length = ws.length → (mixF ms).map (fun i => ws[i]?) = (mF ms ws).map some
  | [], _, _ => rfl
  | _ :: _, [], h => by simp at h
  | true :: ms, w :: ws, h => by
    have ih := mix_F ms ws (by simpa using h)
    show ((mixF ms).map (fun i => i + 1)).map (fun i => (w :: ws)[i]?) = (mF ms ws).map some
    rw [mx_e, ih]
  | false :: ms, w :: ws, h => by
    have ih := mix_F ms ws (by simpa using h)
    show some w :: ((mixF ms).map (fun i => i + 1)).map (fun i => (w :: ws)[i]?) = some w :: (mF ms ws).map some
    rw [mx_e, ih]
theorem nd_s : ∀ l : List Nat, va_nd l = true → va_nd (l.map (fun i => i + 1)) = true
  | [], _ => rfl
  | a :: l, h => by
    simp only [va_nd, Bool.and_eq_true, decide_eq_true_eq] at h
    simp only [List.map_cons, va_nd, Bool.and_eq_true, decide_eq_true_eq]
    refine ⟨fun hm => ?_, nd_s l h.2⟩
    obtain ⟨b, hb, e⟩ := List.mem_map.mp hm
    have e2 : b = a := Nat.succ.inj e
    exact h.1 (e2 ▸ hb)
theorem nd_0 (l : List Nat) (h : va_nd l = true) : va_nd (0 :: l.map (fun i => i + 1)) = true := by
  simp only [va_nd, Bool.and_eq_true, decide_eq_true_eq]
  refine ⟨fun hm => ?_, nd_s l h⟩
  obtain ⟨b, _, e⟩ := List.mem_map.mp hm
  exact absurd e (Nat.succ_ne_zero b)
theorem nd_T : ∀ ms : List Bool, va_nd (mixT ms) = true
  | [] => rfl
  | true :: ms => nd_0 _ (nd_T ms)
  | false :: ms => nd_s _ (nd_T ms)
theorem nd_F : ∀ ms : List Bool, va_nd (mixF ms) = true
  | [] => rfl
  | true :: ms => nd_s _ (nd_F ms)
  | false :: ms => nd_0 _ (nd_F ms)
theorem dis_FT : ∀ (ms : List Bool) (i : Nat), i ∈ mixF ms → i ∈ mixT ms → False
  | [], _, h, _ => by cases h
  | true :: ms, i, h, h2 => by
    obtain ⟨a, ha, ea⟩ := List.mem_map.mp (show i ∈ (mixF ms).map (fun i => i + 1) from h)
    rcases List.mem_cons.mp (show i ∈ 0 :: (mixT ms).map (fun i => i + 1) from h2) with e | e
    · exact absurd (ea.trans e) (Nat.succ_ne_zero a)
    · obtain ⟨b, hb, eb⟩ := List.mem_map.mp e
      have e2 : b = a := Nat.succ.inj (eb.trans ea.symm)
      exact dis_FT ms a ha (e2 ▸ hb)
  | false :: ms, i, h2, h => by
    obtain ⟨a, ha, ea⟩ := List.mem_map.mp (show i ∈ (mixT ms).map (fun i => i + 1) from h)
    rcases List.mem_cons.mp (show i ∈ 0 :: (mixF ms).map (fun i => i + 1) from h2) with e | e
    · exact absurd (ea.trans e) (Nat.succ_ne_zero a)
    · obtain ⟨b, hb, eb⟩ := List.mem_map.mp e
      have e2 : b = a := Nat.succ.inj (eb.trans ea.symm)
      exact dis_FT ms a (e2 ▸ hb) ha
theorem dis_g (ms : List Bool) : g_dis (mixF ms) (mixT ms) = true := by
  refine List.all_eq_true.mpr (fun i hi => ?_)
  have h : ¬ i ∈ mixT ms := dis_FT ms i hi
  simp [h]
theorem mgk {D : va_G} {cl : List vw_C} {ws wc : va_W} {H : Heap} (hP : va_P D cl ws H) (ms : List Bool) (n : Nat) (h1 : ms.length = n) (h2 : ws.length = n) (e : mT ms ws = wc) : (mixT ms).map (fun i => ws[i]?) = wc.map some ∧ (mixF ms).map (fun i => ws[i]?) = (gpk ws (mixF ms)).map some := by
  have hl := h1.trans h2.symm
  have hF := mix_F ms ws hl
  refine ⟨by rw [← e]; exact mix_T ms ws hl, ?_⟩
  rw [show gpk ws (mixF ms) = mF ms ws from g_sub hF]
  exact hF
theorem mpu_p : ∀ (ms : List Bool) (xs ws : va_W), ∃ l : va_W, (mpu ms xs ws).Sublist l ∧ l.Perm (mF ms ws ++ xs)
  | [], xs, _ => ⟨xs, List.nil_sublist _, List.Perm.refl _⟩
  | _ :: _, xs, [] => ⟨xs, List.nil_sublist _, List.Perm.refl _⟩
  | true :: ms, [], _ :: ws => ⟨mF ms ws ++ [], List.nil_sublist _, List.Perm.refl _⟩
  | true :: ms, x :: xs, _ :: ws => by
    obtain ⟨l, h1, h2⟩ := mpu_p ms xs ws
    exact ⟨x :: l, List.Sublist.cons_cons x h1, (List.Perm.cons x h2).trans List.perm_middle.symm⟩
  | false :: ms, xs, w :: ws => by
    obtain ⟨l, h1, h2⟩ := mpu_p ms xs ws
    exact ⟨w :: l, List.Sublist.cons_cons w h1, List.Perm.cons w h2⟩
theorem vaP_m {D : va_G} {cl : List vw_C} {ws ws' : va_W} {H : Heap} (h : va_P D cl ws H) (hs : ∀ q, q ∈ ws' → q ∈ ws) : va_P D cl ws' H := by
  intro k q hk
  obtain ⟨j, hj⟩ := List.mem_iff_getElem?.mp (hs q (List.mem_of_getElem? hk))
  exact h j q hj
theorem vaD_pw {A : Nat → Prop} {ws : va_W} (h : va_D A ws) : ws.Pairwise (fun p q => p.1 ≠ q.1) := by
  rw [List.pairwise_iff_getElem]
  intro i j hi hj hij e
  have := h.1 i j ws[i] ws[j] (List.getElem?_eq_getElem hi) (List.getElem?_eq_getElem hj) e
  omega
theorem vaD_mk {A : Nat → Prop} {ws : va_W} (h1 : ws.Pairwise (fun p q => p.1 ≠ q.1)) (h2 : ∀ q, q ∈ ws → A q.1) : va_D A ws := by
  refine ⟨fun i j p q hi hj e => ?_, fun k q hk => h2 q (List.mem_of_getElem? hk)⟩
  obtain ⟨hi1, ei⟩ := List.getElem?_eq_some_iff.mp hi
  obtain ⟨hj1, ej⟩ := List.getElem?_eq_some_iff.mp hj
  have hp := List.pairwise_iff_getElem.mp h1
  rcases Nat.lt_trichotomy i j with c | c | c
  · exact absurd (by rw [ei, ej]; exact e) (hp i j hi1 hj1 c)
  · exact c
  · exact absurd (by rw [ei, ej]; exact e.symm) (hp j i hj1 hi1 c)
theorem PDm {D : va_G} {cl : List vw_C} {ws ws' new : va_W} {H : Heap} {A : Nat → Prop} {ms : List Bool} (hP : va_P D cl (gpk ws (mixF ms) ++ new) H) (hD : va_D A (gpk ws (mixF ms) ++ new)) (n : Nat) (h1 : ms.length = n) (h2 : ws.length = n) (e : mpu ms new ws = ws') : va_P D cl ws' H ∧ va_D A ws' := by
  rw [show gpk ws (mixF ms) = mF ms ws from g_sub (mix_F ms ws (h1.trans h2.symm))] at hP hD
  subst e
  obtain ⟨l, hs, hp⟩ := mpu_p ms new ws
  have hm : ∀ q, q ∈ mpu ms new ws → q ∈ mF ms ws ++ new := fun q h => hp.mem_iff.mp (hs.subset h)
  refine ⟨vaP_m hP hm, vaD_mk ?_ (fun q h => ?_)⟩
  · exact (List.Perm.pairwise hp.symm (vaD_pw hD) (fun h e => h e.symm)).sublist hs
  · obtain ⟨j, hj⟩ := List.mem_iff_getElem?.mp (hm q h)
    exact hD.2 j q hj
noncomputable def mk_0 : List Bool := [false, true, true]
noncomputable def mk_1 : List Bool := [true, true, false, false]
noncomputable def mk_2 : List Bool := [true, true, false, false, false, false, false]
noncomputable def mk_3 : List Bool := [true, true, false, true, true, false, false]
noncomputable def mk_4 : List Bool := [true, true, false, true, true]
noncomputable def mk_5 : List Bool := [true, true, false, false, false, false, false, false, false]
noncomputable def mk_6 : List Bool := [true, false, false, false, false, false, false, false, false]
noncomputable def mk_7 : List Bool := [true, true, true, false, false, false, false, true, true]
noncomputable def mk_8 : List Bool := [true, true, true, true, true, true, true, false, false]
noncomputable def mk_9 : List Bool := [true, true, true, true, true, true, true, true, true]
noncomputable def mk_10 : List Bool := [false, true, false, false, false, false, false, false, false, false, false, false]
noncomputable def mk_11 : List Bool := [false, false, false, true, false, false, false, false, false, false, false, false]
noncomputable def mk_12 : List Bool := [false, false, false, false, false, false, false, false, false, false, true, true]
noncomputable def mk_13 : List Bool := [false, true, true, true, true, true, true, true, true, true, false, false]
noncomputable def mk_14 : List Bool := [false, false, true, true]
noncomputable def mk_15 : List Bool := [true, false, false, false]
noncomputable def mk_16 : List Bool := [true, false, false, false, false]
noncomputable def aIv : List Bool := [true, true, false, false, false]
noncomputable def mk_18 : List Bool := [true, true, true, false, true]
noncomputable def mk_19 : List Bool := [false, false, true, true, false]
noncomputable def aGv : List Bool := [false, false, false]
noncomputable def aGw : List Bool := [true, false, true]
noncomputable def mk_22 : List Bool := [false, false, true, true, true]
noncomputable def aE2 : List Bool := [false, false, false, false, false]
noncomputable def mk_24 : List Bool := [true, false, false, false, false, false]
noncomputable def mk_25 : List Bool := [false, false, true, true, false, true]
noncomputable def mk_26 : List Bool := [true, true, false, false, false, false]
noncomputable def mk_27 : List Bool := [true, true, true, true, false, true]
noncomputable def mk_28 : List Bool := [false, true, false, false, false, false, false, false]
noncomputable def mk_29 : List Bool := [false, true, true, false, true, true, true, true]
noncomputable def mk_30 : List Bool := [false, false, false, false, true, false, false, false]
noncomputable def mk_31 : List Bool := [false, true, false]
noncomputable def mk_32 : List Bool := [false, false, true, false, false, false, false, false]
noncomputable def mk_33 : List Bool := [false, false, false, false, false, false, false, true]
noncomputable def mk_34 : List Bool := [false, true, true, false, false, false, false, true]
noncomputable def mk_35 : List Bool := [false, false, true, true, true, false, false, false]
noncomputable def mk_36 : List Bool := [false, true, false, false]
noncomputable def mk_37 : List Bool := [false, true, false, true]
noncomputable def mk_38 : List Bool := [false, false, false, false, false, true]
noncomputable def mk_39 : List Bool := [false, true, false, false, false, false]
noncomputable def mk_40 : List Bool := [false, true, true, false, true, false]
noncomputable def mk_41 : List Bool := [false, true, false, true, false, false]
noncomputable def mk_42 : List Bool := [false, false, false, false, false, false, true, true, true]
noncomputable def mk_43 : List Bool := [false, true, true, true, true, true, true, false, false]
noncomputable def mk_44 : List Bool := [true, false, false, false, false, false, false, true, false]
noncomputable def mk_45 : List Bool := [false, true, true, false, false]
noncomputable def mk_46 : List Bool := [true, false, false, true, false]
noncomputable def mk_47 : List Bool := [true, true, false, true, false]
noncomputable def mk_48 : List Bool := [true, false, true, false, true]
noncomputable def mk_49 : List Bool := [false, true, true, false]
noncomputable def mk_50 : List Bool := [false, false, false, false]
noncomputable def mk_51 : List Bool := [false, false, false, false, false, false, false, false, true, true, true, true]
noncomputable def mk_52 : List Bool := [false, true, true, false, false, true, false, false, false, false, false, false]
noncomputable def mk_53 : List Bool := [false, true, false, true, false, false, true, false, false, false, false, false]
noncomputable def mk_54 : List Bool := [true, true, false, false, true, false, false, true, false, false, false, false]
noncomputable def mk_55 : List Bool := [false, true, false, false, false, false, false, false, false, false, false, false, false, false]
noncomputable def aAy : List Bool := [false, false, false, false, false, false, false, false, false, false, false, false, false, false]
noncomputable def mk_57 : List Bool := [true, true, false, false, false, false, false, false, false, true, false, false, false, false]
noncomputable def mk_58 : List Bool := [false, true, false, false, false, false, false, false, true, false, false, false, false, false]
noncomputable def mk_59 : List Bool := [false, true, true, true, false, false, true, true, false, false, false, false, false, false]
noncomputable def mk_60 : List Bool := [true, true, true, true, true, false, true, true, false, true, true, true, true, true]
noncomputable def mk_61 : List Bool := [false, true, true, true, false, false, false, false, false, false, false, false, false, false]
noncomputable def mk_62 : List Bool := [false, false, false, false, false, false, false, false, false, true, false, false, false, false]
noncomputable def mk_63 : List Bool := [false, false, false, false, false, false, false, false, false, false, true, false, false, false, false, true, true]
noncomputable def mk_64 : List Bool := [false, true, true, true, true, true, true, true, true, true, true, true, true, true, true, false, false]
noncomputable def mk_65 : List Bool := [true, false, false, false, false, false, false, false, false, false, false, false, false, false, false, true, false]
noncomputable def mk_66 : List Bool := [false, false, false, true]
noncomputable def mk_67 : List Bool := [false, false, false, false, true, true, true]
noncomputable def mk_68 : List Bool := [false, true, true, true, true, false, false]
noncomputable def mk_69 : List Bool := [true, false, false, false, false, true, false]
noncomputable def mk_70 : List Bool := [true, true, true, true, true]
noncomputable def mk_71 : List Bool := [false, true, false, false, false, false, false, true, false]
noncomputable def mk_72 : List Bool := [false, true, true, true, false, true, true, false, false]
noncomputable def mk_73 : List Bool := [true, true, false, false, false, false, false, false, true]
noncomputable def mk_74 : List Bool := [false, true, false, false, true, false, false, false, false]
noncomputable def mk_75 : List Bool := [false, false, false, false, false, false, false, false, true]
noncomputable def mk_76 : List Bool := [false, false, false, false, false, false, false, false, false]
noncomputable def mk_77 : List Bool := [false, true, true, true, false, false, false, false, false]
noncomputable def mk_78 : List Bool := [false, false, false, false, false, false, false, false, false, true, true, true]
noncomputable def mk_79 : List Bool := [true, false, false, false, false, false, false, false, false, false, true, false]
noncomputable def mk_80 : List Bool := [false, true, false, false, false, false, false, false, false, false, true, false, false, false, false]
noncomputable def mk_81 : List Bool := [false, true, true, false, false, false, false, false, true, false, true, false, false, false, false]
noncomputable def mk_82 : List Bool := [false, true, true, true, true, true, true, true, true, true, true, true, true, true, true]
noncomputable def mk_83 : List Bool := [false, true, true, true, true, false, true, true, true, true, true, false, false, false, false]
noncomputable def mk_84 : List Bool := [false, true, true, false, false, false, false, true, true, true, true, false, false, false, false]
noncomputable def aBD : List Bool := [true, true, true]
noncomputable def mk_86 : List Bool := [true, false, false, false, false, false, false, false, false, false, false, false, false, false, false, false, false, false, true, true]
noncomputable def mk_87 : List Bool := [false, false, false, false, false, false, false, false, false, false, false, false, false, false, false, false, true, false, false, false]
noncomputable def mk_88 : List Bool := [true, false, true, true, true, true, true, true, true, true, true, true, true, true, true, true, false, false, false, false]
noncomputable def mk_89 : List Bool := [false, false, false, false, false, false, false, false, false, false, false, true, false, false, false, false, true, true, false, false]
noncomputable def mk_90 : List Bool := [true, false, true, true]
noncomputable def mk_91 : List Bool := [false, false, true, false, false, false, false, false, false, false, false, false, false, false, false, false, false, false, false, false, false, false]
noncomputable def mk_92 : List Bool := [true, true, false, false, true, true, true, true, true, true, true, true, true, true, true, true, true, true, true, true, true, true]
noncomputable def mk_93 : List Bool := [true, true, true, true, false, false, false, false, false, false, false, false, false, false, false, false, false, false, false, false, false, false]
noncomputable def mk_94 : List Bool := [false, true, true, true]
noncomputable def mk_95 : List Bool := [false, true, false, false, false, false, false, false, false]
noncomputable def mk_96 : List Bool := [false, true, false, false, false, false, true, false, false]
noncomputable def mk_97 : List Bool := [false, true, true, true, true, true, false, false, false]
noncomputable def mk_98 : List Bool := [true, false, false, false, false, false, false, true, true]
noncomputable def mk_99 : List Bool := [false, true, true, true, true, true, false, false]
noncomputable def aAW : List Bool := [false, false, false, false, false, false, false, false]
noncomputable def mk_101 : List Bool := [false, true, false, false, false, false, true, false]
noncomputable def mk_102 : List Bool := [false, true, true, false, false, true, false, false, false, true, false, false]
noncomputable def mk_103 : List Bool := [true, false, false, false, false, false, false, false, false, false, true, true]
noncomputable def mk_104 : List Bool := [false, false, true, false, false, false, false, false, true, false, false, false]
noncomputable def mk_105 : List Bool := [false, false, true, true, true, false, true, true, false, false, false, false]
noncomputable def mk_106 : List Bool := [false, true, true, false, false, false, false, false, false, true, false, false]
noncomputable def mk_107 : List Bool := [false, false, true, false, false, false, false, false, false, false, false, false, false, false]
noncomputable def mk_108 : List Bool := [false, false, true, false, false, false, false, false, true, false, false, false, false, false]
noncomputable def mk_109 : List Bool := [false, false, true, true, true, false, true, true, false, false, false, false, false, false]
noncomputable def mk_110 : List Bool := [false, true, true, true, true, true, true, true, false, true, true, true, true, true]
noncomputable def mk_111 : List Bool := [false, false, true, true, false, false, false, false, false, false, true]
noncomputable def mk_112 : List Bool := [false, false, false, true, false, false, true, false, false, false, false]
noncomputable def mk_113 : List Bool := [false, false, false, true, false, false, false, false, false, false, false]
noncomputable def mk_114 : List Bool := [true, true, false, true, false, false, false, false, false, false, false]
noncomputable def mk_115 : List Bool := [false, false, false, true, true, true, false, true, true, false, false]
noncomputable def mk_116 : List Bool := [false, false, false, true, false, false, false, false, false, true, false]
noncomputable def mk_117 : List Bool := [true, true, true, true, true, true, true, true, true, true, true]
noncomputable def aAB : List Bool := [false, false, false, false, true, false, false, false, false, false, false, false, false, false]
noncomputable def aA9 : List Bool := [false, true, true, true, true, true, true, true, true, true, true, true, false, false]
noncomputable def mk_120 : List Bool := [false, true, true, false, false, false, false, false, false, false, false, false, false, false]
noncomputable def aBp : List Bool := [true, false, false, false, false, false, false, false, false, false, false, false, true, true]
noncomputable def mk_122 : List Bool := [true, true, true, true, true, false]
noncomputable def aBq : List Bool := [false, true, true, false, true, false, false, false, false, false, false, false, false, false]
noncomputable def mk_124 : List Bool := [true, true, false, true, false, false]
noncomputable def mk_125 : List Bool := [false, false, true, true, true, true]
noncomputable def mk_126 : List Bool := [false, false, false, false, true, false, false, false, false, false, false, false, false, false, false]
noncomputable def mk_127 : List Bool := [false, true, true, false, true, false, false, false, false, false, false, false, false, false, false]
noncomputable def mk_128 : List Bool := [true, false, false, false, false, false, false, false, false, false, false, false, false, true, true]
noncomputable def mk_129 : List Bool := [false, false, false, false, false, false, false, false, false, false, false, false, false, false, false]
noncomputable def mk_130 : List Bool := [false, true, true, true, true, false, false, true, false, false, false, false, true, false, false]
noncomputable def mk_131 : List Bool := [false, true, true, true, true, true, true, false, true, true, true, true, true, false, false]
noncomputable def mk_132 : List Bool := [false, false, false, false, false, false, true, true]
noncomputable def mk_133 : List Bool := [false, false, false, false, false, false, true, false]
noncomputable def mk_134 : List Bool := [false, true, false, false, false, true, false, false]
noncomputable def mk_135 : List Bool := [true, true, false, false, false, false, false, false, false, false, false, false, false, false, false]
noncomputable def mk_136 : List Bool := [false, false, false, true, true, true, true, true, true, true, true, true, true, true, true]
noncomputable def aCj : List Bool := [true, true, false]
noncomputable def mk_138 : List Bool := [false, false, false, false, true, false, false, false, false, true]
noncomputable def mk_139 : List Bool := [false, false, false, false, false, true, true, false, true, false]
noncomputable def mk_140 : List Bool := [false, false, false, false, false, true, false, true, true, false]
noncomputable def mk_141 : List Bool := [true, true, true, false, false, true, false, false, false, false]
noncomputable def mk_142 : List Bool := [false, false, false, false, false, false, true, false, false, false, false, false, false, false, false, false, false, false, false, false, false]
noncomputable def mk_143 : List Bool := [false, true, true, false, false, true, true, true, true, false, true, true, true, true, true, false, false, false, false, false, false]
noncomputable def mk_144 : List Bool := [false, true, true, true, false, true, true, true, true, true, false, true, true, false, true, true, true, true, true, false, false]
noncomputable def mk_145 : List Bool := [false, true, true, true, true, true, true, false, false, false, false, true, true, true, true, false, false, false, false, false, false]
noncomputable def mk_146 : List Bool := [true, false, false, false, false, false, false, false, false, false, false, false, false, false, false, false, false, false, false, true, true]
noncomputable def mk_147 : List Bool := [false, true, true, false, false, false, true, false, false, false, false, false, false, false, false, false, false, false, false, false, false]
noncomputable def mk_148 : List Bool := [false, false, false, false, false, false, false, false, false, false, false, false, false, false, false, false, false, false, false, false, false]
noncomputable def mk_149 : List Bool := [false, false, false, false, false, false, false, false, false, false, false, false, false, false, false, false, false, false, false]
noncomputable def mk_150 : List Bool := [false, false, false, false, true, false, false, false, false, false, true, true, false, false, false, false, false, false, false]
noncomputable def mk_151 : List Bool := [true, false, false, false, false, false, false, false, false, false, false, false, false, false, false, false, false, true, true]
noncomputable def mk_152 : List Bool := [false, false, false, true, true, false, false, true, false, false, false, false, true, false, false, false, false, false, false]
noncomputable def mk_153 : List Bool := [false, false, false, true, true, true, true, true, false, true, true, false, true, true, true, true, true, false, false]
noncomputable def mk_154 : List Bool := [false, false, false, false, true, false, false, false, false, false, false, false, false, false, false, false, false, false, false]
noncomputable def mk_155 : List Bool := [false, true, true, true, true, true, true, false, true, true, true, true, true, false, false, false, false, false, false]
noncomputable def mk_156 : List Bool := [false, true, true, false, false, false, false, false, false, false, false, false, false, false, false, false, false, false, false]
noncomputable def mk_157 : List Bool := [false, false, false, false, true, false, false, false, false, true, false, true, false, false, false, false, false, false, false]
noncomputable def mk_158 : List Bool := [false, false, false, false, true, false, false, false, false, false, true, false, false, false]
noncomputable def mk_159 : List Bool := [false, false, false, false, true, true, true, false, true, true, false, false, false, false]
noncomputable def mk_160 : List Bool := [false, false, false, true, true, false, false, false, false, false, false, true, false, false]
noncomputable def mk_161 : List Bool := [false, false, false, false, true, false, false, true, false, false, false, false, false, false]
noncomputable def mk_162 : List Bool := [false, false, false, false, false, true, true, false, false, true, false, false, false, false, true, false, false, false, false, false, false]
noncomputable def mk_163 : List Bool := [false, false, true, true, true, true, true, false, true, true, false, true, true, true, true, true]
noncomputable def mk_164 : List Bool := [false, false, true, true, false, false, true, false, false, false, false, true, false, false, false, false]
noncomputable def mk_165 : List Bool := [true, true, false, false, false, false, false, false, false, false, false, false, false, false, false, false]
noncomputable def mk_166 : List Bool := [false, false, true, true, true, true, false, true, true, true, true, true, false, false, false, false]
noncomputable def mk_167 : List Bool := [false, true, true, true, true, true, true, true, true, true, true, true, true, true, true, true, true, false, false]
noncomputable def mk_168 : List Bool := [false, false, true, true, true, false, false, false, false, false, false, false]
noncomputable def mk_169 : List Bool := [false, false, false, false, false, false, false, false, false, false, true, false]
noncomputable def mk_170 : List Bool := [false, true, true, false, false, true, false, false, false, false, true, false, false]
noncomputable def mk_171 : List Bool := [false, false, true, false, false, true, false, false, false, false, false, false, false]
noncomputable def mk_172 : List Bool := [true, false, false, false, false, false, false, false, false, false, false, true, true]
noncomputable def mk_173 : List Bool := [false, false, true, true, true, false, false, false, false, false, false, false, false]
noncomputable def mk_174 : List Bool := [false, true, true, false, false, false, false, false, false, false, true, false, false]
noncomputable def mk_175 : List Bool := [false, true, true, true, true, false, true, true, true, true, true, false, false]
noncomputable def mk_176 : List Bool := [false, true, false, true, false, true, false, false, false, false, false, false, false, false, false, false, false, false, false, false]
noncomputable def mk_177 : List Bool := [false, false, false, false, false, true, false, false, false, false, false, false, false, false, false, false, false, false, false, false]
noncomputable def mk_178 : List Bool := [false, true, true, false, true, true, true, true, false, true, true, true, true, true, false, false, false, false, false, false]
noncomputable def mk_179 : List Bool := [false, true, true, true, true, true, true, true, true, false, true, true, false, true, true, true, true, true, false, false]
noncomputable def mk_180 : List Bool := [true, true, false, true]
noncomputable def mk_181 : List Bool := [false, false, false, true, true, false, false, true, false, false, false, true, false, false]
noncomputable def mk_182 : List Bool := [false, true, true, true, false, true, false, false]
noncomputable def aAt : List Bool := [true, false, false, false, false, false, true, true]
noncomputable def mk_184 : List Bool := [false, false, true, false, true, false, false, false]
noncomputable def mk_185 : List Bool := [false, true, true, false, false, true, false, false]
noncomputable def mk_186 : List Bool := [false, false, false, true, true]
noncomputable def mk_187 : List Bool := [false, true, false, false, false]
noncomputable def mk_188 : List Bool := [false, true, false, false, false, false, false, false, false, false]
noncomputable def mk_189 : List Bool := [false, true, true, false, false, false, false, true, true, false]
noncomputable def mk_190 : List Bool := [false, false, false, true, true, false, false, true, true, true]
noncomputable def mk_191 : List Bool := [true, false, false, false, false, true, true, true, false, true]
noncomputable def mk_192 : List Bool := [false, true, false, false, false, false, false]
noncomputable def mk_193 : List Bool := [false, true, true, true, true, true, true]
noncomputable def mk_194 : List Bool := [true, false, true, false]
noncomputable def mk_195 : List Bool := [false, true, true, true, true]
noncomputable def mk_196 : List Bool := [false, false, true, true, false, true, false, false]
noncomputable def mk_197 : List Bool := [false, false, true, true, true, true, false, false]
noncomputable def aGm : List Bool := [true, false, false]
noncomputable def aAX : List Bool := [true, true, false, false, true]
noncomputable def mk_200 : List Bool := [true, false, false, false, false, false, false, false, false, false, false, false]
noncomputable def mk_201 : List Bool := [true, false, false, false, false, false, false, false, true, true, true, true]
noncomputable def mk_202 : List Bool := [true, false, false, false, false, false, false, false, true, false, false, true]
noncomputable def mk_203 : List Bool := [true, true, false, false, true, false]
noncomputable def mk_204 : List Bool := [true, false, true, false, false, true]
noncomputable def mk_205 : List Bool := [true, true, true, true, true, true, false, false]
noncomputable def aBV : List Bool := [true, false, false, false, false, false, false, false]
noncomputable def aAY : List Bool := [true, true, true, true, true, true, true, true]
noncomputable def aJM : List Bool := [false, false, false, false, false, false]
noncomputable def mk_209 : List Bool := [true, false, true, true, false, false]
noncomputable def mk_210 : List Bool := [true, true, false, false, false, true]
noncomputable def mk_211 : List Bool := [true, false, false, false, false, false, false, true]
noncomputable def mk_212 : List Bool := [true, false, true, true, false, true, true, false]
noncomputable def aGn : List Bool := [true, true, false, false, false, false, false, false]
noncomputable def mk_214 : List Bool := [true, true, false, false, true, false, false, false]
noncomputable def mk_215 : List Bool := [true, false, true, false, false, true, false, false]
noncomputable def mk_216 : List Bool := [true, false, true, true, true, true, true, true, true]
noncomputable def mk_217 : List Bool := [true, false, true, true, false, false, false, false, false]
noncomputable def mk_218 : List Bool := [true, true, true, true, false, true, true, true, true, false, false, false]
noncomputable def mk_219 : List Bool := [true, true, false, false, false, false, false, false, false, false, false, true]
noncomputable def mk_220 : List Bool := [true, true, true, true, true, false, true, true, false, true, true, false]
noncomputable def aJN : List Bool := [true, true, true, false]
noncomputable def mk_222 : List Bool := [true, false, false, false, false, true]
noncomputable def mk_223 : List Bool := [true, false, true, true, true, true, true]
noncomputable def mk_224 : List Bool := [true, false, true, true, false, false, false, false]
noncomputable def mk_225 : List Bool := [true, false, false, false, true, false, false, false]
noncomputable def mk_226 : List Bool := [true, true, true, true, false, true, true, true]
noncomputable def mk_227 : List Bool := [true, true, true, true, true, true, true, true, false]
noncomputable def mk_228 : List Bool := [true, true, true, true, false, true, true, true, true, false, false]
noncomputable def mk_229 : List Bool := [true, true, true, true, true, false, true, true, false, true, true]
noncomputable def mk_230 : List Bool := [true, true, false, false, false, false, false, false, false, false, false]
noncomputable def mk_231 : List Bool := [true, true, false, false, false, false, false, true, false, false, false]
noncomputable def mk_232 : List Bool := [true, true, false, false, false, false, true, true, true, false, false]
noncomputable def mk_233 : List Bool := [true, false, false, false, false, false, false, false, false, false, true, false, false, false, false]
noncomputable def mk_234 : List Bool := [true, false, false, false, false, false, false, false, false, false, false, false, true, true, false]
noncomputable def mk_235 : List Bool := [true, true, true, true, true, true, true, true, true, true, false, true, false, false, false]
noncomputable def mk_236 : List Bool := [true, false, false, false, false, false, false, false, false, false, false, false, false, false, false]
noncomputable def mk_237 : List Bool := [false, true, false, false, false, false, false, false, false, false, false, false, false, true, false]
noncomputable def mk_238 : List Bool := [true, false, false, false, false, false, false, false, false, true, false, true, false, false, true]
noncomputable def mk_239 : List Bool := [true, false, false, false, false, false, false, false, false, true, false, true, false, false, false]
noncomputable def aCk : List Bool := [true, false, false, false, false, false, false]
noncomputable def aEm : List Bool := [true, true, true, true, true, true, false]
noncomputable def mk_242 : List Bool := [true, false, false, false, false, false, true]
noncomputable def mk_243 : List Bool := [true, false, true, true, true, true, false]
noncomputable def mk_244 : List Bool := [false, false, false, false, false, false, false]
noncomputable def mk_245 : List Bool := [true, false, false, false, true, false, false, false, false]
noncomputable def mk_246 : List Bool := [true, false, false, false, false, false, false, false, true]
noncomputable def mk_247 : List Bool := [true, false, true, true, false, true, true, true, false]
noncomputable def aAZ : List Bool := [true, false, false, false, false, false, false, false, false, false]
noncomputable def zH : List Bool := [false, false, false, false, false, false, false, false, false, false]
noncomputable def mk_250 : List Bool := [true, false, false, false, false, false, false, true, false, false]
noncomputable def mk_251 : List Bool := [true, false, true, true, false, true, true, false, false, false]
noncomputable def mk_252 : List Bool := [true, false, true, true, true, true, true, false, true, true]
noncomputable def aBa : List Bool := [true, true, true, true, true, true, true, true, false, true]
noncomputable def aAN : List Bool := [true, false, false, false, false, false, false, false, true, false]
noncomputable def mk_255 : List Bool := [true, false, false, false, false, false, false, false, true, true]
noncomputable def mk_256 : List Bool := [true, false, false, true]
noncomputable def mk_257 : List Bool := [true, false, false, false, false, false, false, false, false, false, false]
noncomputable def mk_258 : List Bool := [true, false, false, false, false, false, false, false, false, true, false]
noncomputable def mk_259 : List Bool := [true, false, false, false, false, false, false, false, false, false, true]
noncomputable def aEn : List Bool := [true, true, false, false, true, false, false, false, false, false, true]
noncomputable def aJO : List Bool := [false, false, false, false, false, false, false, false, false, false, false]
noncomputable def mk_262 : List Bool := [true, true, true, true, false, true, true, true, true, false, true]
noncomputable def mk_263 : List Bool := [true, false, false, false, true, false]
noncomputable def mk_264 : List Bool := [true, false, true, true, false, true]
noncomputable def mk_265 : List Bool := [true, false, true, false, false, false, false, false]
noncomputable def mk_266 : List Bool := [true, false, false, false, false, true, false, false]
noncomputable def mk_267 : List Bool := [true, false, false, false, false, false, false, false, false, false, false, false, false, false, false, false]
noncomputable def mk_268 : List Bool := [false, false, false, false, false, false, false, false, false, false, false, false, false, false, false, false]
noncomputable def mk_269 : List Bool := [true, true, true, true, false, true, true, true, true, false, false, false, true, false, false, false]
noncomputable def mk_270 : List Bool := [true, false, false, false, false, false, true, false, true, false, false, false, false, true, false, false]
noncomputable def mk_271 : List Bool := [true, false, true, true, true, false, true, true, false, true, false, true, false, false, true, false]
noncomputable def mk_272 : List Bool := [true, true, false, false, false, false, false, true, true, false, false, false, true, true, true, true]
noncomputable def aGo : List Bool := [true, false, false, false, false, false, false, false, false, false, true, false, false, false, false, false]
noncomputable def mk_274 : List Bool := [true, false, false, false, false, false, false, false, false, false, false, false, true, false, false, false]
noncomputable def aJP : List Bool := [true, false, false, false, false, false, false, false, false, false, true, false, false]
noncomputable def aJQ : List Bool := [false, false, false, false, false, false, false, false, false, false, false, false, false]
noncomputable def mk_277 : List Bool := [true, false, false, false, false, false, false, true, false, false, false, false, false]
noncomputable def mk_278 : List Bool := [true, false, false, false, true, false, false, false, false, false, false, false, false]
noncomputable def mk_279 : List Bool := [true, false, false, false, false, false, true, false, true, false, false, false, false]
noncomputable def mk_280 : List Bool := [true, false, true, true, true, false, true, true, false, true, false, true, false]
noncomputable def mk_281 : List Bool := [true, false, false, false, false, false, false, false, false, false, false, false, false]
noncomputable def mk_282 : List Bool := [true, true, true, true, false, true, true, true, true, false, false, false, true]
noncomputable def mk_283 : List Bool := [true, true, false, false, false, false, false, false, false, false]
noncomputable def aBr : List Bool := [true, false, false, false, false, false, false, false, false, true]
noncomputable def mk_285 : List Bool := [true, false, true, true, false, true, true, true, false, false]
noncomputable def mk_286 : List Bool := [true, false, false, false, true, false, false, false, false, false]
noncomputable def mk_287 : List Bool := [true, false, false, false, true, false, false, false, false, false, false, false, false, false, false, false]
noncomputable def mk_288 : List Bool := [true, true, true, true, false, true, true, true, true, false, false, false, false]
noncomputable def mk_289 : List Bool := [true, false, true, true, false, false, false, false, false, false]
noncomputable def mk_290 : List Bool := [true, true, true, true, false, true, true, true, true, false]
noncomputable def mk_291 : List Bool := [true, false, false, false, false, false, false, false, false, false, true, false, false, false]
noncomputable def mk_292 : List Bool := [true, false, false, false, false, false, false, false, false, false, false, false, false, true]
noncomputable def mk_293 : List Bool := [true, false, true, true, true, false, true, true, false, true, false, true, false, false]
noncomputable def mk_294 : List Bool := [true, false, false, false, false, false, false, false, false, false, false, false, false, false]
noncomputable def mk_295 : List Bool := [true, true, true, true, false, true, true, true, true, false, false, false, true, false]
noncomputable def mk_296 : List Bool := [true, true, false, false, true, false, false, false, false, false]
noncomputable def aJR : List Bool := [true, false, false, false, true]
noncomputable def mk_298 : List Bool := [true, false, true, false, false]
noncomputable def mk_299 : List Bool := [true, false, false, true, false, false, false]
noncomputable def mk_300 : List Bool := [true, false, true, false, true, false, false]
noncomputable def mk_301 : List Bool := [true, true, true, true, true, true]
noncomputable def mk_302 : List Bool := [true, false, true, true, false, false, false, false, false, false, false, false, false, false, false, false, false, false, false, false, false, false, false, false, false, false, false, false, false, false, false, false, false, false, false, false, false, false, false, false, false, false, false, false, false, false, false, false, false, false, false, false, false, false, false, false, false, false, false, false, false, false]
noncomputable def mk_303 : List Bool := [false, false, false, false, false, false, false, false, false, false, false, false, false, false, false, false, false, false, false, false, false, false, false, false, false, false, false, false, false, false, false, false, false, false, false, true, false, false, false, false, false, false, false, false, true, false, false, false, false, false, false, false, false, false, false, false, false, false, false, false, false, false]
noncomputable def mk_304 : List Bool := [true, false, true, false, false, false, false, false, false, false, false, false, false, false, false, false, false, false, false, false, false, false, false, false, false, false, false, false, false, false, false, false, false, false, false, false, false, false, false, false, false, false, false, false, false, false, false, false, false, false, false, false, false, false, false, false, false, false, false, false, false, false]
noncomputable def mk_305 : List Bool := [false, false, false, false, false, false, false, false, false, false, false, false, false, false, false, false, false, false, false, false, false, false, false, false, false, false, false, false, false, false, false, false, false, false, false, true, false, false, false, false, false, false, false, false, false, false, false, false, false, false, false, false, false, false, false, false, false, false, false, false, false, false]
noncomputable def mk_306 : List Bool := [true, false, true, true, false, false, false, false, false, false, false, true, true, true, true, true, true, true, false, false, false, false, false, false, false, false, true, false, false, true, false, false, false, false, false, false, false, false, false, false, false, false, false, false, false, false, false, false, false, false, false, false, false, false, false, false, false, false, false, false, false, false]
noncomputable def mk_307 : List Bool := [false, false, false, false, false, false, false, false, false, false, false, false, false, false, false, false, false, false, false, false, false, false, false, false, false, false, false, false, false, false, false, false, false, false, false, true, true, true, true, true, true, true, true, false, true, false, true, true, true, false, false, false, false, false, false, false, false, false, false, false, false, false]
noncomputable def mk_308 : List Bool := [true, false, true, true, false, false, false, false, false, false, true, false, false, false, false, false, false, false, false, false, true, false, true, false, true, true, false, false, false, false, false, false, false, false, false, false, false, false, false, false, false, false, false, false, false, false, false, false, false, false, false, false, false, false, false, false, false, false, false, false, false, false]
noncomputable def mk_309 : List Bool := [false, false, false, false, false, false, false, false, false, false, false, false, false, false, false, false, false, false, false, false, false, false, false, false, false, false, false, false, false, false, false, false, false, false, false, true, false, true, true, true, false, true, true, false, true, false, false, false, true, false, false, false, false, false, false, false, false, false, false, false, false, false]
noncomputable def mk_310 : List Bool := [false, false, false, false, false, false, false, false, false, false, false, false, false, false, false, false, false, false, false, false, false, false, false, false, false, false, false, false, false, false, false, false, false, false, false, true, true, true, true, true, true, false, false, false, false, false, false, false, false, false, false, false, false, false, false, false, false, false, false, false, false, false]
noncomputable def mk_311 : List Bool := [false, false, false, false, false, false, false, false, false, false, false, false, false, false, false, false, false, false, false, false, false, false, false, false, false, false, false, false, false, false, false, false, false, false, false, true, false, false, false, false, false, true, true, false, false, false, false, false, false, false, false, false, false, false, false, false, false, false, false, false, false, false]
noncomputable def mk_312 : List Bool := [true, false, false, false, false, false, false, false, false, false, false, true, false, false, false, false, false, false, true, false, false, false, false, false, false, false, false, false, false, false, false, false, false, false, false, false, false, false, false, false, false, false, false, false, false, false, false, false, false, false, false, false, false, false, false, false, false, false, false, false, false, false]
noncomputable def mk_313 : List Bool := [false, false, false, false, false, false, false, false, false, false, false, false, false, false, false, false, false, false, false, false, false, false, false, false, false, false, false, false, false, false, false, false, false, false, false, true, false, false, false, false, false, false, false, true, false, false, false, false, false, false, false, false, false, false, false, false, false, false, false, false, false, false]
noncomputable def mk_314 : List Bool := [true, false, false, false, false, false, false, false, false, false, false, true, false, false, true, false, false, false, false, false, false, false, false, false, false, false, false, false, false, false, false, false, false, false, false, false, false, false, false, false, false, false, false, false, false, false, false, false, false, false, false, false, false, false, false, false, false, false, false, false, false, false]
noncomputable def mk_315 : List Bool := [false, false, false, false, false, false, false, false, false, false, false, false, false, false, false, false, false, false, false, false, false, false, false, false, false, false, false, false, false, false, false, false, false, false, false, true, false, false, false, true, false, false, false, false, false, false, false, false, false, false, false, false, false, false, false, false, false, false, false, false, false, false]
noncomputable def mk_316 : List Bool := [true, false, false, false, false, false, false, false, false, false, true, true, false, false, false, false, true, true, true, true, false, false, false, false, false, false, true, true, false, false, false, false, false, false, false, false, false, false, false, false, false, false, false, false, false, false, false, false, false, false, false, false, false, false, false, false, false, false, false, false, false, false]
noncomputable def mk_317 : List Bool := [false, false, false, false, false, false, false, false, false, false, false, false, false, false, false, false, false, false, false, false, false, false, false, false, false, false, false, false, false, false, false, false, false, false, false, true, true, false, false, false, false, true, true, true, false, false, false, false, false, true, false, false, false, false, false, false, false, false, false, false, false, false]
noncomputable def mk_318 : List Bool := [true, false, false, false, false, false, false, false, false, false, true, false, false, false, false, false, false, false, false, true, false, false, false, false, false, false, true, true, false, false, false, false, false, false, false, false, false, false, false, false, false, false, false, false, false, false, false, false, false, false, false, false, false, false, false, false, false, false, false, false, false, false]
noncomputable def mk_319 : List Bool := [false, false, false, false, false, false, false, false, false, false, false, false, false, false, false, false, false, false, false, false, false, false, false, false, false, false, false, false, false, false, false, false, false, false, false, true, true, false, false, false, false, false, false, false, false, false, false, false, false, true, false, false, false, false, false, false, false, false, false, false, false, false]
noncomputable def mk_320 : List Bool := [true, false, false, false, false, false, false, false, false, false, true, true, true, true, true, true, true, true, true, true, true, true, false, true, true, false, true, true, false, false, false, false, false, false, false, false, false, false, false, false, false, false, false, false, false, false, false, false, false, false, false, false, false, false, false, false, false, false, false, false, false, false]
noncomputable def mk_321 : List Bool := [false, false, false, false, false, false, false, false, false, false, false, false, false, false, false, false, false, false, false, false, false, false, false, false, false, false, false, false, false, false, false, false, false, false, false, true, true, true, true, true, true, true, true, true, true, false, false, false, true, true, false, false, false, false, false, false, false, false, false, false, false, false]
noncomputable def mk_322 : List Bool := [true, false, false, false, false, false, false, false, false, false, true, true, false, false, false, false, false, true, false, true, false, false, false, false, false, false, true, true, false, false, false, false, false, false, false, false, false, false, false, false, false, false, false, false, false, false, false, false, false, false, false, false, false, false, false, false, false, false, false, false, false, false]
noncomputable def mk_323 : List Bool := [false, false, false, false, false, false, false, false, false, false, false, false, false, false, false, false, false, false, false, false, false, false, false, false, false, false, false, false, false, false, false, false, false, false, false, true, true, false, false, false, false, false, true, false, false, false, false, false, false, true, false, false, false, false, false, false, false, false, false, false, false, false]
noncomputable def mk_324 : List Bool := [true, false, false, false, false, false, false, false, false, false, true, true, true, true, false, true, true, true, true, true, false, false, false, false, false, false, true, true, false, false, false, false, false, false, false, false, false, false, false, false, false, false, false, false, false, false, false, false, false, false, false, false, false, false, false, false, false, false, false, false, false, false]
noncomputable def mk_325 : List Bool := [false, false, false, false, false, false, false, false, false, false, false, false, false, false, false, false, false, false, false, false, false, false, false, false, false, false, false, false, false, false, false, false, false, false, false, true, true, true, true, false, true, true, true, true, false, false, false, false, false, true, false, false, false, false, false, false, false, false, false, false, false, false]
noncomputable def mk_326 : List Bool := [true, true, true, true, false, false, false, false, false, false, true, true, true, true, true, true, true, true, true, true, true, true, false, true, true, false, true, true, false, false, true, true, false, false, false, false, false, false, false, false, false, false, false, false, false, false, false, false, false, false, false, false, false, false, false, false, false, false, false, false, false, false]
noncomputable def mk_327 : List Bool := [false, false, false, false, false, false, false, false, false, false, false, false, false, false, false, false, false, false, false, false, false, false, false, false, false, false, false, false, false, false, false, false, false, false, false, true, true, true, true, true, true, true, true, true, true, true, false, false, true, true, true, true, false, false, false, false, false, false, false, false, false, false]
noncomputable def mk_328 : List Bool := [true, false, false, false, false, false, false, false, false, false, false, false, false, false, false, false, false, false, false, true, false, false, false, false, false, false, true, true, false, false, false, false, false, false, false, false, false, false, false, false, false, false, false, false, false, false, false, false, false, false, false, false, false, false, false, false, false, false, false, false, false, false]
noncomputable def mk_329 : List Bool := [true, false, false, false, false, false, false, false, false, false, false, true, true, true, false, false, true, true, true, false, false, false, false, false, false, false, false, false, false, false, true, true, false, false, false, false, false, false, false, false, false, false, false, false, false, false, false, false, false, false, false, false, false, false, false, false, false, false, false, false, false, false]
noncomputable def mk_330 : List Bool := [false, false, false, false, false, false, false, false, false, false, false, false, false, false, false, false, false, false, false, false, false, false, false, false, false, false, false, false, false, false, false, false, false, false, false, true, false, true, true, false, false, true, true, true, false, true, false, false, false, false, false, false, false, false, false, false, false, false, false, false, false, false]
noncomputable def mk_331 : List Bool := [true, false, false, false, false, false, false, false, false, false, false, true, true, true, false, false, true, true, true, true, false, false, false, false, false, false, false, false, false, false, false, false, false, false, false, false, false, false, false, false, false, false, false, false, false, false, false, false, false, false, false, false, false, false, false, false, false, false, false, false, false, false]
noncomputable def mk_332 : List Bool := [false, false, false, false, false, false, false, false, false, false, false, false, false, false, false, false, false, false, false, false, false, false, false, false, false, false, false, false, false, false, false, false, false, false, false, true, true, true, true, false, false, true, true, true, false, false, false, false, false, false, false, false, false, false, false, false, false, false, false, false, false, false]
noncomputable def mk_333 : List Bool := [true, false, false, false, false, false, false, false, false, false, true, true, true, true, true, false, true, true, true, true, false, false, false, false, false, false, false, false, false, false, true, true, false, false, false, false, false, false, false, false, false, false, false, false, false, false, false, false, false, false, false, false, false, false, false, false, false, false, false, false, false, false]
noncomputable def mk_334 : List Bool := [false, false, false, false, false, false, false, false, false, false, false, false, false, false, false, false, false, false, false, false, false, false, false, false, false, false, false, false, false, false, false, false, false, false, false, true, true, true, true, true, false, true, true, true, false, true, false, false, false, false, false, false, false, false, false, false, false, false, false, false, false, false]
noncomputable def mk_335 : List Bool := [true, false, false, false, false, false, false, false, false, false, true, true, true, true, true, false, true, true, true, true, true, true, false, true, true, false, false, false, false, false, false, false, false, false, false, false, false, false, false, false, false, false, false, false, false, false, false, false, false, false, false, false, false, false, false, false, false, false, false, false, false, false]
noncomputable def mk_336 : List Bool := [false, false, false, false, false, false, false, false, false, false, false, false, false, false, false, false, false, false, false, false, false, false, false, false, false, false, false, false, false, false, false, false, false, false, false, true, true, true, true, true, false, true, true, true, true, false, false, false, true, false, false, false, false, false, false, false, false, false, false, false, false, false]
noncomputable def aBs : List Bool := [true, false, false, false, true, true, false, false, false, false, true, true, true, true, false, true, true, true, true, true, false, false, false, false, false, false, false, false, false, false, true, true, false, false, false, false, false, false, false, false, false, false, false, false, false, false, false, false, false, false, false, false, false, false, false, false, false, false, false, false, false, false]
noncomputable def aBt : List Bool := [false, false, false, false, false, false, false, false, false, false, false, false, false, false, false, false, false, false, false, false, false, false, false, false, false, false, false, false, false, false, false, false, false, false, false, true, true, true, true, false, true, true, true, true, false, true, false, false, false, false, false, false, true, false, false, false, false, false, false, false, false, false]
noncomputable def mk_339 : List Bool := [true, false, false, false, true, true, false, false, false, false, true, true, true, true, true, true, true, true, true, true, false, false, false, false, false, false, false, false, false, false, true, true, false, false, false, false, false, false, false, false, false, false, false, false, false, false, false, false, false, false, false, false, false, false, false, false, false, false, false, false, false, false]
noncomputable def mk_340 : List Bool := [false, false, false, false, false, false, false, false, false, false, false, false, false, false, false, false, false, false, false, false, false, false, false, false, false, false, false, false, false, false, false, false, false, false, false, true, true, true, true, true, true, true, true, true, false, true, false, false, false, false, false, false, true, false, false, false, false, false, false, false, false, false]
noncomputable def mk_341 : List Bool := [true, false, false, false, false, false, false, false, false, false, true, true, false, false, false, false, true, false, true, true, false, false, false, false, false, false, false, false, false, false, true, true, false, false, false, false, false, false, false, false, false, false, false, false, false, false, false, false, false, false, false, false, false, false, false, false, false, false, false, false, false, false]
noncomputable def mk_342 : List Bool := [false, false, false, false, false, false, false, false, false, false, false, false, false, false, false, false, false, false, false, false, false, false, false, false, false, false, false, false, false, false, false, false, false, false, false, true, true, false, false, false, false, true, false, true, false, true, false, false, false, false, false, false, false, true, false, false, false, false, false, false, false, false]
noncomputable def mk_343 : List Bool := [true, false, false, false, true, true, true, true, false, false, true, true, true, true, true, true, true, true, true, true, true, true, false, true, true, false, false, false, false, false, true, true, false, false, false, false, false, false, false, false, false, false, false, false, false, false, false, false, false, false, false, false, false, false, false, false, false, false, false, false, false, false]
noncomputable def mk_344 : List Bool := [false, false, false, false, false, false, false, false, false, false, false, false, false, false, false, false, false, false, false, false, false, false, false, false, false, false, false, false, false, false, false, false, false, false, false, true, true, true, true, true, true, true, true, true, true, true, false, false, true, false, false, false, true, true, true, true, false, false, false, false, false, false]
noncomputable def mk_345 : List Bool := [true, false, false, false, true, true, false, false, false, false, true, true, true, true, true, true, true, true, true, true, true, true, false, true, true, false, false, false, false, false, true, true, false, false, false, false, false, false, false, false, false, false, false, false, false, false, false, false, false, false, false, false, false, false, false, false, false, false, false, false, false, false]
noncomputable def mk_346 : List Bool := [false, false, false, false, false, false, false, false, false, false, false, false, false, false, false, false, false, false, false, false, false, false, false, false, false, false, false, false, false, false, false, false, false, false, false, true, true, true, true, true, true, true, true, true, true, true, false, false, true, false, false, false, true, false, false, false, false, false, false, false, false, false]
noncomputable def mk_347 : List Bool := [true, false, false, false, true, false, false, false, false, true, true, true, true, true, true, true, true, true, true, true, true, true, false, true, true, false, false, false, false, false, true, true, false, false, false, false, false, false, false, false, false, false, false, false, false, false, false, false, false, false, false, false, false, false, false, false, false, false, false, false, false, false]
noncomputable def mk_348 : List Bool := [false, false, false, false, false, false, false, false, false, false, false, false, false, false, false, false, false, false, false, false, false, false, false, false, false, false, false, false, false, false, false, false, false, false, false, true, true, true, true, true, true, true, true, true, true, true, false, false, true, false, false, false, false, false, true, false, false, false, false, false, false, false]
noncomputable def mk_349 : List Bool := [true, false, false, false, false, false, false, false, false, false, true, true, true, true, false, true, true, true, true, true, false, false, false, false, false, false, false, false, false, false, true, true, false, false, false, false, false, false, false, false, false, false, false, false, false, false, false, false, false, false, false, false, false, false, false, false, false, false, false, false, false, false]
noncomputable def mk_350 : List Bool := [false, false, false, false, false, false, false, false, false, false, false, false, false, false, false, false, false, false, false, false, false, false, false, false, false, false, false, false, false, false, false, false, false, false, false, true, true, true, true, false, true, true, true, true, false, true, false, false, false, false, false, false, false, false, false, false, false, false, false, false, false, false]
noncomputable def mk_351 : List Bool := [true, false, false, false, false, false, false, false, false, false, true, true, true, true, true, true, true, true, true, true, false, false, false, false, false, false, false, false, false, false, true, true, false, false, false, false, false, false, false, false, false, false, false, false, false, false, false, false, false, false, false, false, false, false, false, false, false, false, false, false, false, false]
noncomputable def mk_352 : List Bool := [false, false, false, false, false, false, false, false, false, false, false, false, false, false, false, false, false, false, false, false, false, false, false, false, false, false, false, false, false, false, false, false, false, false, false, true, true, true, true, true, true, true, true, true, false, true, false, false, false, false, false, false, false, false, false, false, false, false, false, false, false, false]
noncomputable def mk_353 : List Bool := [true, false, false, false, true, true, false, false, true, false, true, true, true, true, true, true, true, true, true, true, true, true, false, true, true, false, false, false, false, false, true, true, false, false, false, false, false, false, false, false, false, false, false, false, false, false, false, false, false, false, false, false, false, false, false, false, false, false, false, false, false, false]
noncomputable def mk_354 : List Bool := [false, false, false, false, false, false, false, false, false, false, false, false, false, false, false, false, false, false, false, false, false, false, false, false, false, false, false, false, false, false, false, false, false, false, false, true, true, true, true, true, true, true, true, true, true, true, false, false, true, false, false, false, true, false, false, true, false, false, false, false, false, false]
noncomputable def mk_355 : List Bool := [true, false, false, false, false, false, false, false, false, false, true, true, false, false, true, true, false, false, false, true, false, false, false, false, false, false, false, false, false, false, true, true, false, false, false, false, false, false, false, false, false, false, false, false, false, false, false, false, false, false, false, false, false, false, false, false, false, false, false, false, false, false]
noncomputable def mk_356 : List Bool := [false, false, false, false, false, false, false, false, false, false, false, false, false, false, false, false, false, false, false, false, false, false, false, false, false, false, false, false, false, false, false, false, false, false, false, true, true, false, false, true, true, false, false, false, false, true, false, false, false, false, false, false, false, false, false, false, false, false, false, false, false, false]
noncomputable def mk_357 : List Bool := [true, false, false, false, false, false, false, false, false, false, false, true, false, false, false, false, true, false, false, false, false, false, false, false, false, false, false, false, false, false, false, false, false, false, false, false, false, false, false, false, false, false, false, false, false, false, false, false, false, false, false, false, false, false, false, false, false, false, false, false, false, false]
noncomputable def mk_358 : List Bool := [false, false, false, false, false, false, false, false, false, false, false, false, false, false, false, false, false, false, false, false, false, false, false, false, false, false, false, false, false, false, false, false, false, false, false, true, false, false, false, false, false, true, false, false, false, false, false, false, false, false, false, false, false, false, false, false, false, false, false, false, false, false]
noncomputable def mk_359 : List Bool := [true, false, true, true, false, false, false, false, false, false, false, true, false, false, false, false, true, false, false, false, false, false, false, false, false, false, false, false, false, false, true, true, true, true, true, false, false, false, false, false, false, false, false, false, false, false, false, false, false, false, false, false, false, false, false, false, false, false, false, false, false, false]
noncomputable def mk_360 : List Bool := [false, false, false, false, false, false, false, false, false, false, false, false, false, false, false, false, false, false, false, false, false, false, false, false, false, false, false, false, false, false, false, false, false, false, false, true, false, false, false, false, false, true, false, false, true, true, false, false, true, false, false, false, false, false, false, false, true, true, false, false, false, false]
noncomputable def mk_361 : List Bool := [true, false, false, false, false, false, false, false, false, false, false, true, true, true, false, false, true, true, true, false, false, false, false, false, false, false, false, false, false, false, false, false, false, false, false, false, false, false, false, false, false, false, false, false, false, false, false, false, false, false, false, false, false, false, false, false, false, false, false, false, false, false]
noncomputable def mk_362 : List Bool := [false, false, false, false, false, false, false, false, false, false, false, false, false, false, false, false, false, false, false, false, false, false, false, false, false, false, false, false, false, false, false, false, false, false, false, true, false, true, true, false, false, true, true, true, false, false, false, false, false, false, false, false, false, false, false, false, false, false, false, false, false, false]
noncomputable def mk_363 : List Bool := [true, false, false, false, false, false, false, false, false, false, false, false, false, false, false, false, false, false, false, true, false, false, false, false, false, false, true, false, true, true, false, false, false, false, false, false, false, false, false, false, false, false, false, false, false, false, false, false, false, false, false, false, false, false, false, false, false, false, false, false, false, false]
noncomputable def mk_364 : List Bool := [false, false, false, false, false, false, false, false, false, false, false, false, false, false, false, false, false, false, false, false, false, false, false, false, false, false, false, false, false, false, false, false, false, false, false, true, true, false, false, false, false, false, false, false, false, false, false, false, false, false, false, false, false, false, false, false, false, false, true, true, true, false]
noncomputable def mk_365 : List Bool := [true, false, true, false, false, false, false, false, false, false, true, true, false, false, true, false, false, false, false, true, false, false, false, false, false, false, true, false, false, false, true, false, false, false, false, false, false, false, false, false, false, false, false, false, false, false, false, false, false, false, false, false, false, false, false, false, false, false, false, false, false, false]
noncomputable def mk_366 : List Bool := [false, false, false, false, false, false, false, false, false, false, false, false, false, false, false, false, false, false, false, false, false, false, false, false, false, false, false, false, false, false, false, false, false, false, false, true, true, false, false, true, false, false, false, false, false, false, false, false, false, false, false, false, false, false, false, false, false, false, false, false, false, false]
noncomputable def mk_367 : List Bool := [false, false, false, false, false, false, false, false, false, false, false, false, false, false, false, false, false, false, false, false, false, false, false, false, false, false, false, false, false, false, false, false, false, false, false, true, false, false, false, false, false, false, false, false, false, true, false, false, false, false, false, false, false, false, false, false, false, false, false, false, false, false]
theorem ic_1 : Int32.ofInt 1 = 1 := by decide
theorem ic_m1 : Int32.ofInt (-1) = (-1) := by decide
theorem ic_0 : Int32.ofInt 0 = 0 := by decide
theorem ic_2 : Int32.ofInt 2 = 2 := by decide
theorem bp_76 : (Int8.ofInt 76).toInt32 = 76 := by decide
theorem bp_24 : (Int8.ofInt 24).toInt32 = 24 := by decide
theorem bp_48 : (Int8.ofInt 48).toInt32 = 48 := by decide
theorem bp_57 : (Int8.ofInt 57).toInt32 = 57 := by decide
theorem bp_10 : (Int8.ofInt 10).toInt32 = 10 := by decide
theorem bp_44 : (Int8.ofInt 44).toInt32 = 44 := by decide
theorem bp_64 : (Int8.ofInt 64).toInt32 = 64 := by decide
theorem bp_42 : (Int8.ofInt 42).toInt32 = 42 := by decide
theorem sp_255 : (Int16.ofInt 255).toInt32 = 255 := by decide
theorem pn_RX8 : plainName RX8 = true := by decide
theorem pn_RX9 : plainName RX9 = true := by decide
theorem pn_RX3 : plainName RX3 = true := by decide
theorem pn_RX4 : plainName RX4 = true := by decide
theorem bp_115 : (Int8.ofInt 115).toInt32 = 115 := by decide
theorem bp_8 : (Int8.ofInt 8).toInt32 = 8 := by decide
theorem bp_102 : (Int8.ofInt 102).toInt32 = 102 := by decide
theorem bp_16 : (Int8.ofInt 16).toInt32 = 16 := by decide
theorem bp_59 : (Int8.ofInt 59).toInt32 = 59 := by decide
theorem pn_RX7 : plainName RX7 = true := by decide
theorem ic_3 : Int32.ofInt 3 = 3 := by decide
theorem ic_4 : Int32.ofInt 4 = 4 := by decide
theorem bp_45 : (Int8.ofInt 45).toInt32 = 45 := by decide
theorem bp_40 : (Int8.ofInt 40).toInt32 = 40 := by decide
theorem bp_41 : (Int8.ofInt 41).toInt32 = 41 := by decide
theorem sp_1000 : (Int16.ofInt 1000).toInt32 = 1000 := by decide
theorem sp_256 : (Int16.ofInt 256).toInt32 = 256 := by decide
theorem sp_2000 : (Int16.ofInt 2000).toInt32 = 2000 := by decide
theorem bp_9 : (Int8.ofInt 9).toInt32 = 9 := by decide
theorem pn_RX0 : plainName RX0 = true := by decide
theorem pn_RX2 : plainName RX2 = true := by decide
theorem ic_5 : Int32.ofInt 5 = 5 := by decide
theorem bp_m2 : (Int8.ofInt (-2)).toInt32 = (-2) := by decide
theorem bp_m3 : (Int8.ofInt (-3)).toInt32 = (-3) := by decide
theorem bp_6 : (Int8.ofInt 6).toInt32 = 6 := by decide
theorem bp_7 : (Int8.ofInt 7).toInt32 = 7 := by decide
theorem bp_13 : (Int8.ofInt 13).toInt32 = 13 := by decide
theorem bp_12 : (Int8.ofInt 12).toInt32 = 12 := by decide
theorem sp_9999 : (Int16.ofInt 9999).toInt32 = 9999 := by decide
theorem bp_63 : (Int8.ofInt 63).toInt32 = 63 := by decide
theorem sp_2256 : (Int16.ofInt 2256).toInt32 = 2256 := by decide
theorem bp_99 : (Int8.ofInt 99).toInt32 = 99 := by decide
theorem bp_m4 : (Int8.ofInt (-4)).toInt32 = (-4) := by decide
theorem bp_m5 : (Int8.ofInt (-5)).toInt32 = (-5) := by decide
theorem bp_30 : (Int8.ofInt 30).toInt32 = 30 := by decide
theorem bp_100 : (Int8.ofInt 100).toInt32 = 100 := by decide
theorem bp_112 : (Int8.ofInt 112).toInt32 = 112 := by decide
theorem bp_104 : (Int8.ofInt 104).toInt32 = 104 := by decide
theorem pn_RX6 : plainName RX6 = true := by decide
theorem bp_60 : (Int8.ofInt 60).toInt32 = 60 := by decide
theorem pn_RX5 : plainName RX5 = true := by decide
theorem bp_31 : (Int8.ofInt 31).toInt32 = 31 := by decide
theorem sp_300 : (Int16.ofInt 300).toInt32 = 300 := by decide
theorem bp_m100 : (Int8.ofInt (-100)).toInt32 = (-100) := by decide
theorem bp_80 : (Int8.ofInt 80).toInt32 = 80 := by decide
theorem pn_RX1 : plainName RX1 = true := by decide
theorem sp_12345 : (Int16.ofInt 12345).toInt32 = 12345 := by decide
theorem pn_RX10 : plainName RX10 = true := by decide
theorem bp_117 : (Int8.ofInt 117).toInt32 = 117 := by decide
theorem bp_121 : (Int8.ofInt 121).toInt32 = 121 := by decide
theorem bp_119 : (Int8.ofInt 119).toInt32 = 119 := by decide
theorem bp_107 : (Int8.ofInt 107).toInt32 = 107 := by decide
theorem bp_111 : (Int8.ofInt 111).toInt32 = 111 := by decide
theorem bp_47 : (Int8.ofInt 47).toInt32 = 47 := by decide
theorem bp_43 : (Int8.ofInt 43).toInt32 = 43 := by decide
theorem bp_62 : (Int8.ofInt 62).toInt32 = 62 := by decide
theorem bp_61 : (Int8.ofInt 61).toInt32 = 61 := by decide
theorem bp_17 : (Int8.ofInt 17).toInt32 = 17 := by decide
theorem bp_21 : (Int8.ofInt 21).toInt32 = 21 := by decide
theorem bp_20 : (Int8.ofInt 20).toInt32 = 20 := by decide
theorem sp_231 : (Int16.ofInt 231).toInt32 = 231 := by decide
theorem bp_18 : (Int8.ofInt 18).toInt32 = 18 := by decide
theorem bp_19 : (Int8.ofInt 19).toInt32 = 19 := by decide
theorem bp_109 : (Int8.ofInt 109).toInt32 = 109 := by decide
theorem bp_97 : (Int8.ofInt 97).toInt32 = 97 := by decide
theorem bp_122 : (Int8.ofInt 122).toInt32 = 122 := by decide
theorem bp_32 : (Int8.ofInt 32).toInt32 = 32 := by decide
theorem li_m8 : Int32.toInt ((-8) : Int32) = -8 := by decide
theorem li_0 : Int32.toInt (0 : Int32) = 0 := by decide
theorem li_1 : Int32.toInt (1 : Int32) = 1 := by decide
theorem li_m1 : Int32.toInt ((-1) : Int32) = -1 := by decide
theorem li_24 : Int32.toInt (24 : Int32) = 24 := by decide
theorem li_76 : Int32.toInt (76 : Int32) = 76 := by decide
theorem li_2 : Int32.toInt (2 : Int32) = 2 := by decide
theorem li_48 : Int32.toInt (48 : Int32) = 48 := by decide
theorem li_57 : Int32.toInt (57 : Int32) = 57 := by decide
theorem li_64 : Int32.toInt (64 : Int32) = 64 := by decide
theorem li_16 : Int32.toInt (16 : Int32) = 16 := by decide
theorem li_42 : Int32.toInt (42 : Int32) = 42 := by decide
theorem li_44 : Int32.toInt (44 : Int32) = 44 := by decide
theorem li_115 : Int32.toInt (115 : Int32) = 115 := by decide
theorem li_8 : Int32.toInt (8 : Int32) = 8 := by decide
theorem li_102 : Int32.toInt (102 : Int32) = 102 := by decide
theorem li_59 : Int32.toInt (59 : Int32) = 59 := by decide
theorem li_40 : Int32.toInt (40 : Int32) = 40 := by decide
theorem li_1000 : Int32.toInt (1000 : Int32) = 1000 := by decide
theorem li_3 : Int32.toInt (3 : Int32) = 3 := by decide
theorem li_256 : Int32.toInt (256 : Int32) = 256 := by decide
theorem li_4 : Int32.toInt (4 : Int32) = 4 := by decide
theorem li_45 : Int32.toInt (45 : Int32) = 45 := by decide
theorem li_2000 : Int32.toInt (2000 : Int32) = 2000 := by decide
theorem li_43 : Int32.toInt (43 : Int32) = 43 := by decide
theorem li_47 : Int32.toInt (47 : Int32) = 47 := by decide
theorem li_60 : Int32.toInt (60 : Int32) = 60 := by decide
theorem li_61 : Int32.toInt (61 : Int32) = 61 := by decide
theorem li_62 : Int32.toInt (62 : Int32) = 62 := by decide
theorem li_41 : Int32.toInt (41 : Int32) = 41 := by decide
theorem li_5 : Int32.toInt (5 : Int32) = 5 := by decide
theorem li_6 : Int32.toInt (6 : Int32) = 6 := by decide
theorem li_9 : Int32.toInt (9 : Int32) = 9 := by decide
theorem li_9999 : Int32.toInt (9999 : Int32) = 9999 := by decide
theorem li_104 : Int32.toInt (104 : Int32) = 104 := by decide
theorem li_12 : Int32.toInt (12 : Int32) = 12 := by decide
theorem li_13 : Int32.toInt (13 : Int32) = 13 := by decide
theorem li_7 : Int32.toInt (7 : Int32) = 7 := by decide
theorem li_2256 : Int32.toInt (2256 : Int32) = 2256 := by decide
theorem li_99 : Int32.toInt (99 : Int32) = 99 := by decide
theorem li_m2 : Int32.toInt ((-2) : Int32) = -2 := by decide
theorem li_m3 : Int32.toInt ((-3) : Int32) = -3 := by decide
theorem li_m4 : Int32.toInt ((-4) : Int32) = -4 := by decide
theorem li_m5 : Int32.toInt ((-5) : Int32) = -5 := by decide
theorem li_252645135 : Int32.toInt (252645135 : Int32) = 252645135 := by decide
theorem li_63 : Int32.toInt (63 : Int32) = 63 := by decide
theorem li_858993459 : Int32.toInt (858993459 : Int32) = 858993459 := by decide
theorem li_1431655765 : Int32.toInt (1431655765 : Int32) = 1431655765 := by decide
theorem li_100 : Int32.toInt (100 : Int32) = 100 := by decide
theorem li_107 : Int32.toInt (107 : Int32) = 107 := by decide
theorem li_109 : Int32.toInt (109 : Int32) = 109 := by decide
theorem li_111 : Int32.toInt (111 : Int32) = 111 := by decide
theorem li_112 : Int32.toInt (112 : Int32) = 112 := by decide
theorem li_97 : Int32.toInt (97 : Int32) = 97 := by decide
theorem li_30 : Int32.toInt (30 : Int32) = 30 := by decide
theorem li_122 : Int32.toInt (122 : Int32) = 122 := by decide
theorem li_31 : Int32.toInt (31 : Int32) = 31 := by decide
theorem li_m2147483648 : Int32.toInt ((-2147483648) : Int32) = -2147483648 := by decide
theorem li_300 : Int32.toInt (300 : Int32) = 300 := by decide
theorem li_65535 : Int32.toInt (65535 : Int32) = 65535 := by decide
theorem li_m100 : Int32.toInt ((-100) : Int32) = -100 := by decide
theorem li_80 : Int32.toInt (80 : Int32) = 80 := by decide
theorem li_10 : Int32.toInt (10 : Int32) = 10 := by decide
theorem li_11 : Int32.toInt (11 : Int32) = 11 := by decide
theorem li_255 : Int32.toInt (255 : Int32) = 255 := by decide
theorem li_117 : Int32.toInt (117 : Int32) = 117 := by decide
theorem li_119 : Int32.toInt (119 : Int32) = 119 := by decide
theorem li_121 : Int32.toInt (121 : Int32) = 121 := by decide
theorem li_21 : Int32.toInt (21 : Int32) = 21 := by decide
theorem li_231 : Int32.toInt (231 : Int32) = 231 := by decide
theorem li_17 : Int32.toInt (17 : Int32) = 17 := by decide
theorem li_20 : Int32.toInt (20 : Int32) = 20 := by decide
theorem li_18 : Int32.toInt (18 : Int32) = 18 := by decide
theorem li_19 : Int32.toInt (19 : Int32) = 19 := by decide
theorem li_1000000 : Int32.toInt (1000000 : Int32) = 1000000 := by decide
