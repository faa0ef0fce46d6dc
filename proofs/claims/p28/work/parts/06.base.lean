/-! What every walk here stands on: one list of words for all methods (W0), what a method has at hand (gc), the form of a contract (gPre, gB), a call (yW, aBn), an entry (aBJ). -/
theorem g_in {i : Int32} {n : Nat} (h : decide (¬ (i < 0 \/ n <= i.toNatClampNeg)) = true) : vp_in i n := (of_decide_eq_true h : ¬ (i < 0 \/ n <= i.toNatClampNeg))
abbrev gw (y : MethodName) (b : ByteArray) (n : Nat) (ret : Option FieldType) : List Cond := .code y b n ret :: W0
abbrev tyl (cI cC cZ cB cJ : ClassId) : List (ClassId × FieldType) := [(cI, .int), (cC, .char), (cZ, .boolean), (cB, .byte), (cJ, .long)]
/-- a field that holds one of two arrays, or null, by a number: 0 null, 1 the first, 2 the second -/
def rdv (a b k : Nat) : Value := if k = 0 then .null else if k = 1 then .ref a else .ref b
def stL : Nat -> Int32 := fun j => if j = 4 then 1 else 0
def stM : Nat -> Int32 := fun j => if j = 3 then 9 else if j = 4 then 16 else 30
def lets : Nat -> Int32 := fun j => ([100, 117, 121, 119, 115, 107, 111] : List Int32).getD j 0
/-- the one String constant, its bytes; two statics of Throwable -/
def gZX (A : Nat -> Prop) (U : State) (H : Heap) : Prop := vx_Zq Bundle.tN "UNASSIGNED_STACK" Bundle.steD A U H /\ vx_Zq Bundle.tN "SUPPRESSED_SENTINEL" Bundle.listD A U H /\ va_Z "java/lang/String" "COMPACT_STRINGS" "Z" (.int 1) A U H /\
  ∃ tS tV : Nat, vk_R RX7 11 "duywsko" tS U /\ va_O "java/lang/String" tS A U H /\ va_OF "java/lang/String" "coder" "B" (.int 0) tS A U H /\ va_OF "java/lang/String" "value" "[B" (.ref tV) tS A U H /\ va_T .byte tV 7 (fun j => .int (lets j)) A U H
/-- the class's static tables, and the rest: they lie outside A -/
def gZ (A : Nat -> Prop) (U : State) (H : Heap) : Prop := ∃ tL tM : Nat, va_Z "WhereTheLadder" "LEAST_SETTING" "[I" (.ref tL) A U H /\ va_T .int tL 5 (fun j => .int (stL j)) A U H /\ va_Z "WhereTheLadder" "MOST_SETTING" "[I" (.ref tM) A U H /\ va_T .int tM 5 (fun j => .int (stM j)) A U H /\ gZX A U H
theorem gZ.to {A B : Nat -> Prop} {u U : State} {H H1 : Heap} (h : gZ A u H) (hvm : u.vm.Alike U.vm) (hR : ∀ a, vk_R RX7 11 "duywsko" a u -> vk_R RX7 11 "duywsko" a U) (hq : ∀ a : Nat, a < H.size -> ¬ A a -> H1[a]? = H[a]?) (hAB : ∀ q, B q -> A q) : gZ B U H1 := by
  obtain ⟨tL, tM, h1, h2, h3, h4, h5, h6, h7, tS, tV, g1, g2, g3, g4, g5⟩ := h
  exact ⟨tL, tM, va_Z.moved hvm ((h1.kept hq).narrow hAB), va_T.moved hvm ((h2.kept hq).narrow hAB), va_Z.moved hvm ((h3.kept hq).narrow hAB), va_T.moved hvm ((h4.kept hq).narrow hAB), vx_Zq.moved hvm ((h5.kept hq).narrow hAB), vx_Zq.moved hvm ((h6.kept hq).narrow hAB), va_Z.moved hvm ((h7.kept hq).narrow hAB), tS, tV, hR tS g1, va_O.moved hvm ((g2.kept hq).narrow hAB), va_OF.moved hvm ((g3.kept hq).narrow hAB), va_OF.moved hvm ((g4.kept hq).narrow hAB), va_T.moved hvm ((g5.kept hq).narrow hAB)⟩
/-- the words of nest mates, at a state -/
def gN (U : State) : Prop := ∀ w ∈ WN, va_Nw w U
def gB (D : va_G) (tys : List (ClassId × FieldType)) (A : Nat -> Prop) (w : va_W) (t : State) : Prop := va_P D classes w t.heap /\ va_K D classes tys t /\ va_D A w
def gPre (D : va_G) (tys : List (ClassId × FieldType)) (w : va_W) (sz : Nat) (U : State) : Prop := U.heap.size = sz /\ gB D tys (fun _ => True) w U /\ gN U /\ gZ (va_A w sz) U U.heap
/-- what the walk of a method has at hand -/
def gc (cc : ByteArray) (ret : Option FieldType) (nL : Nat) (own : String) (D : va_G) (tys : List (ClassId × FieldType)) (A : Nat -> Prop) (p : Program) (s : State) (m : MethodId) (args : Array Value) (meth : Method) (c : Code) : Prop :=
  p.tables.exec = Jvm.exec /\ c.code = cc /\ meth.sig.returnType = ret /\ c.maxLocals = nL /\ s.vm.findClass own = some m.cls /\ (∀ w ∈ W0, w.before args s = true) /\ meth.locks = false /\ (∀ q, s.heap.size <= q -> A q) /\ va_K D classes tys s /\ gN s /\ gZ A s s.heap
theorem gN.warm {s U : State} (hW : s.WarmedH U.vm) (h : gN s) : gN U := by
  intro w hw
  have h1 := h w hw
  have hk : WN_kind w = true := List.all_eq_true.mp WN_ok w hw
  cases w <;> first | exact absurd hk Bool.false_ne_true | exact va_Nw.warmM hW h1 | exact va_Nw.warmF hW h1 | exact va_Nw.warmC hW h1 | exact va_Nw.warmD hW h1
theorem gN.same {s U : State} (hv : s.vm = U.vm) (h : gN s) : gN U := by
  intro w hw
  have hk : WN_kind w = true := List.all_eq_true.mp WN_ok w hw
  have h1 := h w hw
  cases w <;> first | exact absurd hk Bool.false_ne_true | exact va_Nw.same rfl hv h1
theorem gPre.blind {D : va_G} {tys : List (ClassId × FieldType)} {w : va_W} {sz : Nat} {av : List Value} : FrameBlind (va_Pc av (gPre D tys w sz)) := by
  intro a U g mk h
  obtain ⟨h0, h1, ⟨hP, hK, hD⟩, hN, hZ⟩ := h
  exact ⟨h0, h1, ⟨hP, va_K.moved (u := U) (U := U.calling g mk a) (Vm.Alike.refl U.vm) hK, hD⟩, gN.same (s := U) (U := U.calling g mk a) rfl hN, hZ.to (u := U) (U := U.calling g mk a) (Vm.Alike.refl U.vm) (fun _ h9 => vk_R.same (u := U) (U := U.calling g mk a) rfl h9) (fun _ _ _ => rfl) (fun _ h => h)⟩
theorem gw_good {y y2 : MethodName} {b b2 : ByteArray} {n n2 : Nat} {r r2 : Option FieldType} (h : Cond.code y2 b2 n2 r2 ∈ W0) : GoodIn (gw y b n r) (gw y2 b2 n2 r2) := by
  intro w hw
  rcases List.mem_cons.mp hw with e | e
  · subst e
    exact ⟨List.mem_cons_of_mem _ h, Or.inl rfl⟩
  · exact ⟨List.mem_cons_of_mem _ e, good_of_word (List.all_eq_true.mp W0_good w e)⟩
theorem g0_good {y2 : MethodName} {b2 : ByteArray} {n2 : Nat} {r2 : Option FieldType} (h : Cond.code y2 b2 n2 r2 ∈ W0) : GoodIn W0 (gw y2 b2 n2 r2) := by
  intro w hw
  rcases List.mem_cons.mp hw with e | e
  · subst e
    exact ⟨h, Or.inl rfl⟩
  · exact ⟨e, good_of_word (List.all_eq_true.mp W0_good w e)⟩
def g_dis (isR isC : List Nat) : Bool := isR.all fun i => !isC.contains i
theorem g_dis_of {isR isC : List Nat} (h : g_dis isR isC = true) : ∀ i ∈ isR, i ∉ isC := by
  intro i hi hc
  have h1 := List.all_eq_true.mp h i hi
  simp [hc] at h1
abbrev gpk (ws : va_W) (is : List Nat) : va_W := is.filterMap (fun i => ws[i]?)
section GCALL
variable {p : Program} {l : Launch} {e : Env} {R : Room} {s : State} {m : MethodId} {args : Array Value} {below : List Frame} {meth : Method} {c : Code} {H : Heap} {locs : List Loc} {cells slots : Nat} {Q : State -> Prop} {pc : Nat} {ls : Array Slot} {rest st0 : List Value} {D : va_G} {tys : List (ClassId × FieldType)} {A : Nat -> Prop} {ws wc : va_W} {a : Array Value}
theorem yW {S : Type} {post : Int32 -> S -> Prop} {w1 : S -> va_W} (hP : va_P D classes ws H) (hD : va_D A ws) (hS : va_S A s.heap H locs) (hA : ∀ q, s.heap.size <= q -> A q)
    (isC isR : List Nat) (hC : isC.map (fun i => ws[i]?) = wc.map some) (hR : isR.map (fun i => ws[i]?) = (gpk ws isR).map some) (hn : va_nd isR = true) (hdis : g_dis isR isC = true)
    (hr : va_Run p l e R s m args below meth c H locs cells slots 0 0 (F0 m pc ls st0) rest (va_Qi post (fun u t => gB D tys (va_A wc H.size) (w1 u) t) (va_A wc H.size) a) (va_A wc H.size))
    (kk : ∀ (r : Int32) (u : S) (H1 : Heap) (locs1 : List Loc), post r u -> va_P D classes (gpk ws isR ++ w1 u) H1 -> va_D A (gpk ws isR ++ w1 u) -> va_S A s.heap H1 locs1 -> W p l e R s m args below meth c H1 locs1 cells slots Q (F0 m (pc + 3) ls (.int r :: rest))) :
    W p l e R s m args below meth c H locs cells slots Q (F0 m pc ls st0) := by
  have hF := va_free (wc := wc) hD hS hA isC hC
  refine va_calli hr hS (fun q _ h => hF q h) hF (fun r u t H1 locs1 ht hvm hw hB hz hk hS1 => ?_)
  obtain ⟨hP1, hK1, hD1⟩ := hB
  rw [ht] at hP1
  obtain ⟨hP2, hD2⟩ := va_join hP hD isC isR hC hR hn (g_dis_of hdis) hk hF hP1 hD1
  exact kk r u H1 locs1 hw hP2 hD2 hS1
theorem aBn {S : Type} {post : S -> Prop} {w1 : S -> va_W} (hP : va_P D classes ws H) (hD : va_D A ws) (hS : va_S A s.heap H locs) (hA : ∀ q, s.heap.size <= q -> A q)
    (isC isR : List Nat) (hC : isC.map (fun i => ws[i]?) = wc.map some) (hR : isR.map (fun i => ws[i]?) = (gpk ws isR).map some) (hn : va_nd isR = true) (hdis : g_dis isR isC = true)
    (hr : va_Run p l e R s m args below meth c H locs cells slots 0 0 (F0 m pc ls st0) rest (va_Qv post (fun u t => gB D tys (va_A wc H.size) (w1 u) t) (va_A wc H.size) a) (va_A wc H.size))
    (kk : ∀ (u : S) (H1 : Heap) (locs1 : List Loc), post u -> va_P D classes (gpk ws isR ++ w1 u) H1 -> va_D A (gpk ws isR ++ w1 u) -> va_S A s.heap H1 locs1 -> W p l e R s m args below meth c H1 locs1 cells slots Q (F0 m (pc + 3) ls rest)) :
    W p l e R s m args below meth c H locs cells slots Q (F0 m pc ls st0) := by
  have hF := va_free (wc := wc) hD hS hA isC hC
  refine va_callv hr hS (fun q _ h => hF q h) hF (fun u t H1 locs1 ht hvm hw hB hz hk hS1 => ?_)
  obtain ⟨hP1, hK1, hD1⟩ := hB
  rw [ht] at hP1
  obtain ⟨hP2, hD2⟩ := va_join hP hD isC isR hC hR hn (g_dis_of hdis) hk hF hP1 hD1
  exact kk u H1 locs1 hw hP2 hD2 hS1
end GCALL
theorem g_sub {is : List Nat} {ws wc : va_W} (h : is.map (fun i => ws[i]?) = wc.map some) : is.filterMap (fun i => ws[i]?) = wc := by
  have e1 : is.filterMap (fun i => ws[i]?) = (is.map (fun i => ws[i]?)).filterMap id := by
    rw [List.filterMap_map]
    rfl
  rw [e1, h, List.filterMap_map]
  exact List.filterMap_some
section GRUN
variable {p : Program} {l : Launch} {e : Env} {R : Room} {s : State} {m : MethodId} {args : Array Value} {below : List Frame} {meth : Method} {c : Code} {H : Heap} {locs : List Loc} {cells slots : Nat} {D : va_G} {tys : List (ClassId × FieldType)} {A : Nat -> Prop} {ws wc : va_W}
variable {y : MethodName} {bytes cc : ByteArray} {maxL nL n index : Nat} {ret ret0 : Option FieldType} {rm : Room} {Qc : Array Value -> State -> Outcome -> State -> Prop} {own C : String} {b : Addr} {As rest : List Value} {g : JFrame}
/-- a virtual call of a method of C itself, on the cell at place q0 of the world -/
theorem zF (C0 : gc cc ret0 nL own D tys A p s m args meth c) (hP : va_P D classes ws H) (hD : va_D A ws) (hS : va_S A s.heap H locs) (isC : List Nat) (hC : isC.map (fun i => ws[i]?) = wc.map some) (hn1 : va_nd isC = true) (q0 ci : Nat) {q : vw_C} {fs : List Value} (hc : classes[ci]? = some q) (he : ws[q0]? = some (b, .inr (ci, fs)))
    (hM : Met l y (gw y bytes maxL ret) rm (va_Pc (.ref b :: As) (gPre D tys wc H.size)) Qc 0 0 (va_A wc H.size))
    (h1 : Cond.code y bytes maxL ret ∈ W0) (h2 : Cond.methodLink own index y ∈ W0) (h3 : Cond.instanceMethod y ∈ W0) (h4 : Cond.selects q.1 y y ∈ W0) (h5 : Cond.initialized y.cls ∈ W0)
    (hd : y.cls ≠ "java/lang/invoke/MethodHandle" /\ y.cls ≠ "java/lang/invoke/VarHandle" /\ (parseMethodDescriptor y.desc).map (fun d => d.parameters.length) = some n) (hrc : rm.cells = 0) (hrs : rm.slots = 0) (hR : rm.frames + 1 <= R.frames /\ 8 + (maxL + 11) + rm.locals <= R.locals)
    (hg : g.method = m) (hn : As.length = n) (hsize : g.locals.size = nL) (hstack : g.stack = As.reverse ++ .ref b :: rest) (hW : 2 * g.monitorRoom + (rest.map fun v => v.category).sum <= 8) (hdg : decode cc g.pc = .ok (.invokevirtual index, 3)) (hf : cells + 0 <= R.cells /\ slots + 0 <= R.slots) :
    va_Run p l e R s m args below meth c H locs cells slots 0 0 g rest (Qc (Value.ref b :: As).toArray) (va_A wc H.size) := by
  obtain ⟨hx, hb, hr, hml, hown, hts, hlocks, hA, hK, hN, hZ⟩ := C0
  refine va_runV (Ts := W0) ⟨hx, hb, hml, hown, hts⟩ hM ⟨callB_of n hts (g0_good h1) rfl hrc hrs (hts _ h5) (hts _ h2) hd hR, hts _ h3, hts _ h4⟩ ⟨gPre.blind, va_recv hK hP hc he, fun U hU hWm => ⟨rfl, by rw [hU], ⟨by rw [hU]; exact hP.sub isC (g_sub hC), va_K.moved hWm.alike hK, (hD.sub isC hn1 hC).weaken (fun _ _ _ _ => trivial)⟩, gN.warm hWm hN, by rw [hU]; exact hZ.to hWm.alike (fun _ h9 => vk_R.warm hWm h9) hS.2.1 (va_free (wc := wc) hD hS hA isC hC)⟩⟩ hg hn hsize hstack hW hdg hf
/-- a private method of the nest, by its nest word -/
theorem g_runVN {host : String} (C0 : gc cc ret0 nL own D tys A p s m args meth c) (hP : va_P D classes ws H) (hD : va_D A ws) (hS : va_S A s.heap H locs) (isC : List Nat) (hC : isC.map (fun i => ws[i]?) = wc.map some) (hn1 : va_nd isC = true) (q0 ci : Nat) {q : vw_C} {fs : List Value} (hc : classes[ci]? = some q) (he : ws[q0]? = some (b, .inr (ci, fs)))
    (hM : Met l y (gw y bytes maxL ret) rm (va_Pc (.ref b :: As) (gPre D tys wc H.size)) Qc 0 0 (va_A wc H.size))
    (h1 : Cond.code y bytes maxL ret ∈ W0) (h2 : Cond.methodLinkNest own index y host ∈ WN) (h3 : Cond.instanceMethod y ∈ W0) (h4 : Cond.selects q.1 y y ∈ W0) (h5 : Cond.initialized y.cls ∈ W0)
    (hd : y.cls ≠ "java/lang/invoke/MethodHandle" /\ y.cls ≠ "java/lang/invoke/VarHandle" /\ (parseMethodDescriptor y.desc).map (fun d => d.parameters.length) = some n) (hrc : rm.cells = 0) (hrs : rm.slots = 0) (hR : rm.frames + 1 <= R.frames /\ 8 + (maxL + 11) + rm.locals <= R.locals)
    (hg : g.method = m) (hn : As.length = n) (hsize : g.locals.size = nL) (hstack : g.stack = As.reverse ++ .ref b :: rest) (hW : 2 * g.monitorRoom + (rest.map fun v => v.category).sum <= 8) (hdg : decode cc g.pc = .ok (.invokevirtual index, 3)) (hf : cells + 0 <= R.cells /\ slots + 0 <= R.slots) :
    va_Run p l e R s m args below meth c H locs cells slots 0 0 g rest (Qc (Value.ref b :: As).toArray) (va_A wc H.size) := by
  obtain ⟨hx, hb, hr, hml, hown, hts, hlocks, hA, hK, hN, hZ⟩ := C0
  exact va_runVN (Ts := W0) (host := host) ⟨hx, hb, hml, hown, hts⟩ hM ⟨va_cnB n hts (g0_good h1) rfl hrc hrs (hN _ h2) (hts _ h5) hd hR, hts _ h3, hts _ h4⟩ ⟨gPre.blind, va_recv hK hP hc he, fun U hU hWm => ⟨rfl, by rw [hU], ⟨by rw [hU]; exact hP.sub isC (g_sub hC), va_K.moved hWm.alike hK, (hD.sub isC hn1 hC).weaken (fun _ _ _ _ => trivial)⟩, gN.warm hWm hN, by rw [hU]; exact hZ.to hWm.alike (fun _ h9 => vk_R.warm hWm h9) hS.2.1 (va_free (wc := wc) hD hS hA isC hC)⟩⟩ hg hn hsize hstack hW hdg hf
/-- a static method -/
theorem aDn (C0 : gc cc ret0 nL own D tys A p s m args meth c) (hP : va_P D classes ws H) (hD : va_D A ws) (hS : va_S A s.heap H locs) (isC : List Nat) (hC : isC.map (fun i => ws[i]?) = wc.map some) (hn1 : va_nd isC = true)
    (hM : Met l y (gw y bytes maxL ret) rm (va_Pc As (gPre D tys wc H.size)) Qc 0 0 (va_A wc H.size))
    (h1 : Cond.code y bytes maxL ret ∈ W0) (h2 : Cond.methodLink own index y ∈ W0) (h3 : Cond.static y ∈ W0) (h5 : Cond.initialized y.cls ∈ W0)
    (hd : y.cls ≠ "java/lang/invoke/MethodHandle" /\ y.cls ≠ "java/lang/invoke/VarHandle" /\ (parseMethodDescriptor y.desc).map (fun d => d.parameters.length) = some n) (hrc : rm.cells = 0) (hrs : rm.slots = 0) (hR : rm.frames + 1 <= R.frames /\ 8 + (maxL + 11) + rm.locals <= R.locals)
    (hg : g.method = m) (hn : As.length = n) (hsize : g.locals.size = nL) (hstack : g.stack = As.reverse ++ rest) (hW : 2 * g.monitorRoom + (rest.map fun v => v.category).sum <= 8) (hdg : decode cc g.pc = .ok (.invokestatic index, 3)) (hf : cells + 0 <= R.cells /\ slots + 0 <= R.slots) :
    va_Run p l e R s m args below meth c H locs cells slots 0 0 g rest (Qc As.toArray) (va_A wc H.size) := by
  obtain ⟨hx, hb, hr, hml, hown, hts, hlocks, hA, hK, hN, hZ⟩ := C0
  exact va_runS (Ts := W0) ⟨hx, hb, hml, hown, hts⟩ hM ⟨callB_of n hts (g0_good h1) rfl hrc hrs (hts _ h5) (hts _ h2) hd hR, hts _ h3⟩ ⟨gPre.blind, fun U hU hWm => ⟨rfl, by rw [hU], ⟨by rw [hU]; exact hP.sub isC (g_sub hC), va_K.moved hWm.alike hK, (hD.sub isC hn1 hC).weaken (fun _ _ _ _ => trivial)⟩, gN.warm hWm hN, by rw [hU]; exact hZ.to hWm.alike (fun _ h9 => vk_R.warm hWm h9) hS.2.1 (va_free (wc := wc) hD hS hA isC hC)⟩⟩ hg hn hsize hstack hW hdg hf
/-- a private static method of the nest -/
theorem g_runSN {host : String} (C0 : gc cc ret0 nL own D tys A p s m args meth c) (hP : va_P D classes ws H) (hD : va_D A ws) (hS : va_S A s.heap H locs) (isC : List Nat) (hC : isC.map (fun i => ws[i]?) = wc.map some) (hn1 : va_nd isC = true)
    (hM : Met l y (gw y bytes maxL ret) rm (va_Pc As (gPre D tys wc H.size)) Qc 0 0 (va_A wc H.size))
    (h1 : Cond.code y bytes maxL ret ∈ W0) (h2 : Cond.methodLinkNest own index y host ∈ WN) (h3 : Cond.static y ∈ W0) (h5 : Cond.initialized y.cls ∈ W0)
    (hd : y.cls ≠ "java/lang/invoke/MethodHandle" /\ y.cls ≠ "java/lang/invoke/VarHandle" /\ (parseMethodDescriptor y.desc).map (fun d => d.parameters.length) = some n) (hrc : rm.cells = 0) (hrs : rm.slots = 0) (hR : rm.frames + 1 <= R.frames /\ 8 + (maxL + 11) + rm.locals <= R.locals)
    (hg : g.method = m) (hn : As.length = n) (hsize : g.locals.size = nL) (hstack : g.stack = As.reverse ++ rest) (hW : 2 * g.monitorRoom + (rest.map fun v => v.category).sum <= 8) (hdg : decode cc g.pc = .ok (.invokestatic index, 3)) (hf : cells + 0 <= R.cells /\ slots + 0 <= R.slots) :
    va_Run p l e R s m args below meth c H locs cells slots 0 0 g rest (Qc As.toArray) (va_A wc H.size) := by
  obtain ⟨hx, hb, hr, hml, hown, hts, hlocks, hA, hK, hN, hZ⟩ := C0
  exact va_runSN (Ts := W0) (host := host) ⟨hx, hb, hml, hown, hts⟩ hM ⟨va_cnB n hts (g0_good h1) rfl hrc hrs (hN _ h2) (hts _ h5) hd hR, hts _ h3, trivial⟩ ⟨gPre.blind, fun U hU hWm => ⟨rfl, by rw [hU], ⟨by rw [hU]; exact hP.sub isC (g_sub hC), va_K.moved hWm.alike hK, (hD.sub isC hn1 hC).weaken (fun _ _ _ _ => trivial)⟩, gN.warm hWm hN, by rw [hU]; exact hZ.to hWm.alike (fun _ h9 => vk_R.warm hWm h9) hS.2.1 (va_free (wc := wc) hD hS hA isC hC)⟩⟩ hg hn hsize hstack hW hdg hf
end GRUN
/-- a method's contract out of its walk -/
theorem aBJ {l : Launch} {y : MethodName} {cc : ByteArray} {nL : Nat} {ret : Option FieldType} {rm : Room} {own : String} (D : va_G) (tys : List (ClassId × FieldType)) (w : va_W) (sz : Nat) (av : List Value) (Qc : (Nat -> Prop) -> Array Value -> State -> Outcome -> State -> Prop)
    (hy : plainName y.cls = true) (hown : y.cls = own) (hlen : (lg_sl av).length <= nL)
    (body : ∀ (p : Program) (e : Env) (s : State) (m : MethodId) (args : Array Value) (below : List Frame) (meth : Method) (c : Code) (A : Nat -> Prop) (H : Heap) (locs : List Loc) (ls : Array Slot), gc cc ret nL own D tys A p s m args meth c -> va_P D classes w H -> va_D A w -> va_S A s.heap H locs -> lv_has ls nL (lv_args 0 av) ->
      W p l e rm s m args below meth c H locs 0 0 (MQ below (Qc A) args s 0 0 A) (F0 m 0 ls [])) :
    Met l y (gw y cc nL ret) rm (va_Pc av (gPre D tys w sz)) (Qc (va_A w sz)) 0 0 (va_A w sz) := by
  refine Met.ofW (cc := cc) (maxL := nL) (ret := ret) hy rfl ?_
  intro p e s m args below meth c s₁ B hml hv
  obtain ⟨rfl, hsz, ⟨hP, hK, hD⟩, hN, hZ⟩ := hv
  subst hsz
  have hts := atoms_spec (ws := gw y cc nL ret) B.pre
  have ho : s.vm.findClass own = some m.cls := by
    rw [<- hown]
    exact findClass_of_methodNamed B.named
  have hl := lv_entry av (n := nL) hlen
  rw [lg_entry_eq]
  exact body p e s m _ below meth c (va_A w s.heap.size) s.heap [] _ ⟨B.exec, B.bytes, B.returns, hml, ho, fun w hw => hts w (List.mem_cons_of_mem _ hw), B.notSynchronized, fun q h => Or.inr h, hK, hN, hZ⟩ hP hD.self va_S.rf hl
/-- a constructor's contract out of its walk -/
theorem g_enterC {l : Launch} {y : MethodName} {cc : ByteArray} {nL mc ms : Nat} {rm : Room} {own : String} (D : va_G) (tys : List (ClassId × FieldType)) (w : va_W) (sz : Nat) (av : List Value) (Qc : (Nat -> Prop) -> Array Value -> State -> Outcome -> State -> Prop)
    (hy : plainName y.cls = true) (hown : y.cls = own) (hlen : (lg_sl av).length <= nL)
    (body : ∀ (p : Program) (e : Env) (s : State) (m : MethodId) (args : Array Value) (below : List Frame) (meth : Method) (c : Code) (A : Nat -> Prop) (H : Heap) (locs : List Loc) (ls : Array Slot), gc cc none nL own D tys A p s m args meth c -> meth.name = y.name -> va_P D classes w H -> va_D A w -> va_S A s.heap H locs -> lv_has ls nL (lv_args 0 av) ->
      W p l e rm s m args below meth c H locs 0 0 (MQ below (Qc A) args s mc ms A) (F0 m 0 ls [])) :
    Met l y (gw y cc nL none) rm (va_Pc av (gPre D tys w sz)) (Qc (va_A w sz)) mc ms (va_A w sz) := by
  refine Met.ofW (cc := cc) (maxL := nL) (ret := none) hy rfl ?_
  intro p e s m args below meth c s₁ B hml hv
  obtain ⟨rfl, hsz, ⟨hP, hK, hD⟩, hN, hZ⟩ := hv
  subst hsz
  have hts := atoms_spec (ws := gw y cc nL none) B.pre
  have ho : s.vm.findClass own = some m.cls := by
    rw [<- hown]
    exact findClass_of_methodNamed B.named
  have hl := lv_entry av (n := nL) hlen
  rw [lg_entry_eq]
  exact body p e s m _ below meth c (va_A w s.heap.size) s.heap [] _ ⟨B.exec, B.bytes, B.returns, hml, ho, fun w hw => hts w (List.mem_cons_of_mem _ hw), B.notSynchronized, fun q h => Or.inr h, hK, hN, hZ⟩ (name_of_methodNamed B.named B.method).1 hP hD.self va_S.rf hl
section GCALLC
variable {p : Program} {l : Launch} {e : Env} {R : Room} {s : State} {m : MethodId} {args : Array Value} {below : List Frame} {meth : Method} {c : Code} {H : Heap} {locs : List Loc} {cells slots mc ms : Nat} {Q : State -> Prop} {pc : Nat} {ls : Array Slot} {rest st0 : List Value} {D : va_G} {tys : List (ClassId × FieldType)} {A : Nat -> Prop} {ws wc : va_W} {a : Array Value}
theorem g_callvC {S : Type} {post : S -> Prop} {w1 : S -> va_W} (hP : va_P D classes ws H) (hD : va_D A ws) (hS : va_S A s.heap H locs) (hA : ∀ q, s.heap.size <= q -> A q)
    (isC isR : List Nat) (hC : isC.map (fun i => ws[i]?) = wc.map some) (hR : isR.map (fun i => ws[i]?) = (gpk ws isR).map some) (hn : va_nd isR = true) (hdis : g_dis isR isC = true)
    (hr : va_Run p l e R s m args below meth c H locs cells slots mc ms (F0 m pc ls st0) rest (va_Qv post (fun u t => gB D tys (va_A wc H.size) (w1 u) t) (va_A wc H.size) a) (va_A wc H.size))
    (kk : ∀ (u : S) (H1 : Heap) (locs1 : List Loc), post u -> va_P D classes (gpk ws isR ++ w1 u) H1 -> va_D A (gpk ws isR ++ w1 u) -> va_S A s.heap H1 locs1 -> W p l e R s m args below meth c H1 locs1 (cells + mc) (slots + ms) Q (F0 m (pc + 3) ls rest)) :
    W p l e R s m args below meth c H locs cells slots Q (F0 m pc ls st0) := by
  have hF := va_free (wc := wc) hD hS hA isC hC
  refine va_callv hr hS (fun q _ h => hF q h) hF (fun u t H1 locs1 ht hvm hw hB hz hk hS1 => ?_)
  obtain ⟨hP1, hK1, hD1⟩ := hB
  rw [ht] at hP1
  obtain ⟨hP2, hD2⟩ := va_join hP hD isC isR hC hR hn (g_dis_of hdis) hk hF hP1 hD1
  exact kk u H1 locs1 hw hP2 hD2 hS1
variable {y : MethodName} {bytes cc : ByteArray} {maxL nL n index : Nat} {ret ret0 : Option FieldType} {rm : Room} {Qc : Array Value -> State -> Outcome -> State -> Prop} {own C : String} {b : Addr} {As : List Value} {g : JFrame}
theorem g_runIN {host : String} (C0 : gc cc ret0 nL own D tys A p s m args meth c) (hP : va_P D classes ws H) (hD : va_D A ws) (hS : va_S A s.heap H locs) (isC : List Nat) (hC : isC.map (fun i => ws[i]?) = wc.map some) (hn1 : va_nd isC = true)
    (hM : Met l y (gw y bytes maxL none) rm (va_Pc (.ref b :: As) (gPre D tys wc H.size)) Qc mc ms (va_A wc H.size))
    (h1 : Cond.code y bytes maxL none ∈ W0) (h2 : Cond.methodLinkNest own index y host ∈ WN) (h3 : Cond.instanceMethod y ∈ W0) (h5 : Cond.initialized y.cls ∈ W0) (hnm : y.name = "<init>")
    (hd : y.cls ≠ "java/lang/invoke/MethodHandle" /\ y.cls ≠ "java/lang/invoke/VarHandle" /\ (parseMethodDescriptor y.desc).map (fun d => d.parameters.length) = some n) (hrc : rm.cells = mc) (hrs : rm.slots = ms) (hR : rm.frames + 1 <= R.frames /\ 8 + (maxL + 11) + rm.locals <= R.locals)
    (hg : g.method = m) (hn : As.length = n) (hsize : g.locals.size = nL) (hstack : g.stack = As.reverse ++ .ref b :: rest) (hW : 2 * g.monitorRoom + (rest.map fun v => v.category).sum <= 8) (hdg : decode cc g.pc = .ok (.invokespecial index, 3)) (hf : cells + mc <= R.cells /\ slots + ms <= R.slots) :
    va_Run p l e R s m args below meth c H locs cells slots mc ms g rest (Qc (Value.ref b :: As).toArray) (va_A wc H.size) := by
  obtain ⟨hx, hb, hr, hml, hown, hts, hlocks, hA, hK, hN, hZ⟩ := C0
  exact va_runIN (Ts := W0) (host := host) ⟨hx, hb, hml, hown, hts⟩ hM ⟨va_cnB n hts (g0_good h1) rfl hrc hrs (hN _ h2) (hts _ h5) hd hR, hnm, hts _ h3⟩ ⟨gPre.blind, fun U hU hWm => ⟨rfl, by rw [hU], ⟨by rw [hU]; exact hP.sub isC (g_sub hC), va_K.moved hWm.alike hK, (hD.sub isC hn1 hC).weaken (fun _ _ _ _ => trivial)⟩, gN.warm hWm hN, by rw [hU]; exact hZ.to hWm.alike (fun _ h9 => vk_R.warm hWm h9) hS.2.1 (va_free (wc := wc) hD hS hA isC hC)⟩⟩ hg hn hsize hstack hW hdg hf
theorem g_runI (C0 : gc cc ret0 nL own D tys A p s m args meth c) (hP : va_P D classes ws H) (hD : va_D A ws) (hS : va_S A s.heap H locs) (isC : List Nat) (hC : isC.map (fun i => ws[i]?) = wc.map some) (hn1 : va_nd isC = true)
    (hM : Met l y (gw y bytes maxL none) rm (va_Pc (.ref b :: As) (gPre D tys wc H.size)) Qc mc ms (va_A wc H.size))
    (h1 : Cond.code y bytes maxL none ∈ W0) (h2 : Cond.methodLink own index y ∈ W0) (h3 : Cond.instanceMethod y ∈ W0) (h5 : Cond.initialized y.cls ∈ W0) (hnm : y.name = "<init>")
    (hd : y.cls ≠ "java/lang/invoke/MethodHandle" /\ y.cls ≠ "java/lang/invoke/VarHandle" /\ (parseMethodDescriptor y.desc).map (fun d => d.parameters.length) = some n) (hrc : rm.cells = mc) (hrs : rm.slots = ms) (hR : rm.frames + 1 <= R.frames /\ 8 + (maxL + 11) + rm.locals <= R.locals)
    (hg : g.method = m) (hn : As.length = n) (hsize : g.locals.size = nL) (hstack : g.stack = As.reverse ++ .ref b :: rest) (hW : 2 * g.monitorRoom + (rest.map fun v => v.category).sum <= 8) (hdg : decode cc g.pc = .ok (.invokespecial index, 3)) (hf : cells + mc <= R.cells /\ slots + ms <= R.slots) :
    va_Run p l e R s m args below meth c H locs cells slots mc ms g rest (Qc (Value.ref b :: As).toArray) (va_A wc H.size) := by
  obtain ⟨hx, hb, hr, hml, hown, hts, hlocks, hA, hK, hN, hZ⟩ := C0
  exact va_runI (Ts := W0) ⟨hx, hb, hml, hown, hts⟩ hM ⟨callB_of n hts (g0_good h1) rfl hrc hrs (hts _ h5) (hts _ h2) hd hR, hnm, hts _ h3⟩ ⟨gPre.blind, fun U hU hWm => ⟨rfl, by rw [hU], ⟨by rw [hU]; exact hP.sub isC (g_sub hC), va_K.moved hWm.alike hK, (hD.sub isC hn1 hC).weaken (fun _ _ _ _ => trivial)⟩, gN.warm hWm hN, by rw [hU]; exact hZ.to hWm.alike (fun _ h9 => vk_R.warm hWm h9) hS.2.1 (va_free (wc := wc) hD hS hA isC hC)⟩⟩ hg hn hsize hstack hW hdg hf
end GCALLC
/-- an array class is known by its name -/
theorem aM6 {D : va_G} {cI cC cZ cB cJ cA : ClassId} {s : State} (h : va_K D classes (tyl cI cC cZ cB cJ ++ [(cA, .int)]) s) : cA = cI := Option.some.inj ((h.2 5 (cA, .int) rfl).2.symm.trans (h.2 0 (cI, .int) rfl).2)
theorem g_sameC {D : va_G} {cI cC cZ cB cJ cA : ClassId} {s : State} (h : va_K D classes (tyl cI cC cZ cB cJ ++ [(cA, .char)]) s) : cA = cC := Option.some.inj ((h.2 5 (cA, .char) rfl).2.symm.trans (h.2 1 (cC, .char) rfl).2)
theorem g_sameZ {D : va_G} {cI cC cZ cB cJ cA : ClassId} {s : State} (h : va_K D classes (tyl cI cC cZ cB cJ ++ [(cA, .boolean)]) s) : cA = cZ := Option.some.inj ((h.2 5 (cA, .boolean) rfl).2.symm.trans (h.2 2 (cZ, .boolean) rfl).2)
theorem g_sameB {D : va_G} {cI cC cZ cB cJ cA : ClassId} {s : State} (h : va_K D classes (tyl cI cC cZ cB cJ ++ [(cA, .byte)]) s) : cA = cB := Option.some.inj ((h.2 5 (cA, .byte) rfl).2.symm.trans (h.2 3 (cB, .byte) rfl).2)
theorem PDs {D : va_G} {cl : List vw_C} {ws ws' : va_W} {H : Heap} {A : Nat -> Prop} (hP : va_P D cl ws H) (hD : va_D A ws) (is : List Nat) (hn : va_nd is = true) (hs : is.map (fun i => ws[i]?) = ws'.map some) : va_P D cl ws' H /\ va_D A ws' := ⟨hP.sub is (g_sub hs), hD.sub is hn hs⟩
theorem PDw {D : va_G} {cl : List vw_C} {ws ws' : va_W} {H : Heap} {A : Nat -> Prop} (hP : va_P D cl ws H) (hD : va_D A ws) (e : ws = ws') : va_P D cl ws' H /\ va_D A ws' := e ▸ ⟨hP, hD⟩
/-! a call's part of the world by a mask: one pass instead of lists of places -/
def yS : List Bool -> List Nat
  | [] => []
  | true :: ms => 0 :: (yS ms).map (fun i => i + 1)
  | false :: ms => (yS ms).map (fun i => i + 1)
def aAi : List Bool -> List Nat
  | [] => []
  | true :: ms => (aAi ms).map (fun i => i + 1)
  | false :: ms => 0 :: (aAi ms).map (fun i => i + 1)
def mT : List Bool -> va_W -> va_W
  | [], _ => []
  | _ :: _, [] => []
  | true :: ms, w :: ws => w :: mT ms ws
  | false :: ms, _ :: ws => mT ms ws
def mF : List Bool -> va_W -> va_W
  | [], _ => []
  | _ :: _, [] => []
  | true :: ms, _ :: ws => mF ms ws
  | false :: ms, w :: ws => w :: mF ms ws
def mpu : List Bool -> va_W -> va_W -> va_W
  | [], _, _ => []
  | _ :: _, _, [] => []
  | true :: _, [], _ :: _ => []
  | true :: ms, x :: xs, _ :: ws => x :: mpu ms xs ws
  | false :: ms, xs, w :: ws => w :: mpu ms xs ws
theorem mx_e (l : List Nat) (w : Nat × va_E) (ws : va_W) : (l.map (fun i => i + 1)).map (fun i => (w :: ws)[i]?) = l.map (fun i => ws[i]?) := by
  rw [List.map_map]
  rfl
theorem mix_T : ∀ (ms : List Bool) (ws : va_W), ms.length = ws.length -> (yS ms).map (fun i => ws[i]?) = (mT ms ws).map some
  | [], _, _ => rfl
  | _ :: _, [], h => by simp at h
  | true :: ms, w :: ws, h => by
    have ih := mix_T ms ws (by simpa using h)
    show some w :: ((yS ms).map (fun i => i + 1)).map (fun i => (w :: ws)[i]?) = some w :: (mT ms ws).map some
    rw [mx_e, ih]
  | false :: ms, w :: ws, h => by
    have ih := mix_T ms ws (by simpa using h)
    show ((yS ms).map (fun i => i + 1)).map (fun i => (w :: ws)[i]?) = (mT ms ws).map some
    rw [mx_e, ih]
theorem mix_F : ∀ (ms : List Bool) (ws : va_W), ms.length = ws.length -> (aAi ms).map (fun i => ws[i]?) = (mF ms ws).map some
  | [], _, _ => rfl
  | _ :: _, [], h => by simp at h
  | true :: ms, w :: ws, h => by
    have ih := mix_F ms ws (by simpa using h)
    show ((aAi ms).map (fun i => i + 1)).map (fun i => (w :: ws)[i]?) = (mF ms ws).map some
    rw [mx_e, ih]
  | false :: ms, w :: ws, h => by
    have ih := mix_F ms ws (by simpa using h)
    show some w :: ((aAi ms).map (fun i => i + 1)).map (fun i => (w :: ws)[i]?) = some w :: (mF ms ws).map some
    rw [mx_e, ih]
theorem nd_s : ∀ l : List Nat, va_nd l = true -> va_nd (l.map (fun i => i + 1)) = true
  | [], _ => rfl
  | a :: l, h => by
    simp only [va_nd, Bool.and_eq_true, decide_eq_true_eq] at h
    simp only [List.map_cons, va_nd, Bool.and_eq_true, decide_eq_true_eq]
    refine ⟨fun hm => ?_, nd_s l h.2⟩
    obtain ⟨b, hb, e⟩ := List.mem_map.mp hm
    have e2 : b = a := Nat.succ.inj e
    exact h.1 (e2 ▸ hb)
theorem nd_0 (l : List Nat) (h : va_nd l = true) : va_nd (0 :: l.map (fun i => i + 1)) = true := by
  simp only [va_nd, Bool.and_eq_true, decide_eq_true_eq]
  refine ⟨fun hm => ?_, nd_s l h⟩
  obtain ⟨b, _, e⟩ := List.mem_map.mp hm
  exact absurd e (Nat.succ_ne_zero b)
theorem aAl : ∀ ms : List Bool, va_nd (yS ms) = true
  | [] => rfl
  | true :: ms => nd_0 _ (aAl ms)
  | false :: ms => nd_s _ (aAl ms)
theorem aAk : ∀ ms : List Bool, va_nd (aAi ms) = true
  | [] => rfl
  | true :: ms => nd_s _ (aAk ms)
  | false :: ms => nd_0 _ (aAk ms)
theorem dis_FT : ∀ (ms : List Bool) (i : Nat), i ∈ aAi ms -> i ∈ yS ms -> False
  | [], _, h, _ => by cases h
  | true :: ms, i, h, h2 => by
    obtain ⟨a, ha, ea⟩ := List.mem_map.mp (show i ∈ (aAi ms).map (fun i => i + 1) from h)
    rcases List.mem_cons.mp (show i ∈ 0 :: (yS ms).map (fun i => i + 1) from h2) with e | e
    · exact absurd (ea.trans e) (Nat.succ_ne_zero a)
    · obtain ⟨b, hb, eb⟩ := List.mem_map.mp e
      have e2 : b = a := Nat.succ.inj (eb.trans ea.symm)
      exact dis_FT ms a ha (e2 ▸ hb)
  | false :: ms, i, h2, h => by
    obtain ⟨a, ha, ea⟩ := List.mem_map.mp (show i ∈ (yS ms).map (fun i => i + 1) from h)
    rcases List.mem_cons.mp (show i ∈ 0 :: (aAi ms).map (fun i => i + 1) from h2) with e | e
    · exact absurd (ea.trans e) (Nat.succ_ne_zero a)
    · obtain ⟨b, hb, eb⟩ := List.mem_map.mp e
      have e2 : b = a := Nat.succ.inj (eb.trans ea.symm)
      exact dis_FT ms a (e2 ▸ hb) ha
theorem zW (ms : List Bool) : g_dis (aAi ms) (yS ms) = true := by
  refine List.all_eq_true.mpr (fun i hi => ?_)
  have h : ¬ i ∈ yS ms := dis_FT ms i hi
  simp [h]
theorem mgk {D : va_G} {cl : List vw_C} {ws wc : va_W} {H : Heap} (hP : va_P D cl ws H) (ms : List Bool) (n : Nat) (h1 : ms.length = n) (h2 : ws.length = n) (e : mT ms ws = wc) : (yS ms).map (fun i => ws[i]?) = wc.map some /\ (aAi ms).map (fun i => ws[i]?) = (gpk ws (aAi ms)).map some := by
  have hl := h1.trans h2.symm
  have hF := mix_F ms ws hl
  refine ⟨by rw [<- e]; exact mix_T ms ws hl, ?_⟩
  rw [show gpk ws (aAi ms) = mF ms ws from g_sub hF]
  exact hF
theorem mpu_p : ∀ (ms : List Bool) (xs ws : va_W), ∃ l : va_W, (mpu ms xs ws).Sublist l /\ l.Perm (mF ms ws ++ xs)
  | [], xs, _ => ⟨xs, List.nil_sublist _, List.Perm.refl _⟩
  | _ :: _, xs, [] => ⟨xs, List.nil_sublist _, List.Perm.refl _⟩
  | true :: ms, [], _ :: ws => ⟨mF ms ws ++ [], List.nil_sublist _, List.Perm.refl _⟩
  | true :: ms, x :: xs, _ :: ws => by
    obtain ⟨l, h1, h2⟩ := mpu_p ms xs ws
    exact ⟨x :: l, List.Sublist.cons_cons x h1, (List.Perm.cons x h2).trans List.perm_middle.symm⟩
  | false :: ms, xs, w :: ws => by
    obtain ⟨l, h1, h2⟩ := mpu_p ms xs ws
    exact ⟨w :: l, List.Sublist.cons_cons w h1, List.Perm.cons w h2⟩
theorem vaP_m {D : va_G} {cl : List vw_C} {ws ws' : va_W} {H : Heap} (h : va_P D cl ws H) (hs : ∀ q, q ∈ ws' -> q ∈ ws) : va_P D cl ws' H := by
  intro k q hk
  obtain ⟨j, hj⟩ := List.mem_iff_getElem?.mp (hs q (List.mem_of_getElem? hk))
  exact h j q hj
theorem vaD_pw {A : Nat -> Prop} {ws : va_W} (h : va_D A ws) : ws.Pairwise (fun p q => p.1 ≠ q.1) := by
  rw [List.pairwise_iff_getElem]
  intro i j hi hj hij e
  have := h.1 i j ws[i] ws[j] (List.getElem?_eq_getElem hi) (List.getElem?_eq_getElem hj) e
  omega
theorem vaD_mk {A : Nat -> Prop} {ws : va_W} (h1 : ws.Pairwise (fun p q => p.1 ≠ q.1)) (h2 : ∀ q, q ∈ ws -> A q.1) : va_D A ws := by
  refine ⟨fun i j p q hi hj e => ?_, fun k q hk => h2 q (List.mem_of_getElem? hk)⟩
  obtain ⟨hi1, ei⟩ := List.getElem?_eq_some_iff.mp hi
  obtain ⟨hj1, ej⟩ := List.getElem?_eq_some_iff.mp hj
  have hp := List.pairwise_iff_getElem.mp h1
  rcases Nat.lt_trichotomy i j with c | c | c
  · exact absurd (by rw [ei, ej]; exact e) (hp i j hi1 hj1 c)
  · exact c
  · exact absurd (by rw [ei, ej]; exact e.symm) (hp j i hj1 hi1 c)
theorem PDm {D : va_G} {cl : List vw_C} {ws ws' new : va_W} {H : Heap} {A : Nat -> Prop} {ms : List Bool} (hP : va_P D cl (gpk ws (aAi ms) ++ new) H) (hD : va_D A (gpk ws (aAi ms) ++ new)) (n : Nat) (h1 : ms.length = n) (h2 : ws.length = n) (e : mpu ms new ws = ws') : va_P D cl ws' H /\ va_D A ws' := by
  rw [show gpk ws (aAi ms) = mF ms ws from g_sub (mix_F ms ws (h1.trans h2.symm))] at hP hD
  subst e
  obtain ⟨l, hs, hp⟩ := mpu_p ms new ws
  have hm : ∀ q, q ∈ mpu ms new ws -> q ∈ mF ms ws ++ new := fun q h => hp.mem_iff.mp (hs.subset h)
  refine ⟨vaP_m hP hm, vaD_mk ?_ (fun q h => ?_)⟩
  · exact (List.Perm.pairwise hp.symm (vaD_pw hD) (fun h e => h e.symm)).sublist hs
  · obtain ⟨j, hj⟩ := List.mem_iff_getElem?.mp (hm q h)
    exact hD.2 j q hj
