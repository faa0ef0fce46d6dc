/-! Throwing: 'throw new NoSuchElementException()' of the class, and its catching by the law's wrappers -/
abbrev NSE : String := "java/util/NoSuchElementException"
abbrev thrW : List Cond := vx_at0 RX9 122 NSE ["java/lang/RuntimeException", "java/lang/Exception"]
theorem thr_in : thrW.all (fun w => (goodWord w && (decide (w ∈ tables_1_5) || (decide (w ∈ tables_1_6) || (decide (w ∈ tables_1_1) || decide (w ∈ lw_tbl))))) || decide (w ∈ WN)) = true := by decide +kernel
theorem thr_ot : (Cond.classLink RX9 120 NSE :: Cond.initialized NSE :: thrW).all vx_ot = true := by decide +kernel
theorem WN_tab : WN.all Cond.onTables = true := by decide +kernel
theorem thr_hat {args : Array Value} {s : State} (hts : ∀ w ∈ W0, w.before args s = true) (hN : gN s) : ∀ w ∈ thrW, w.before args s = true := by
  intro w hw
  have h := List.all_eq_true.mp thr_in w hw
  simp only [Bool.or_eq_true, Bool.and_eq_true, decide_eq_true_eq] at h
  rcases h with h | h
  · exact hts w (xR (h.2.elim aGK fun h => h.elim aGl fun h => h.elim aFj id) h.1)
  · exact va_Nw.use (List.all_eq_true.mp WN_tab w h) (hN w h)
section GTHROW
variable {p : Program} {l : Launch} {e : Env} {R : Room} {s : State} {m : MethodId} {args : Array Value} {below : List Frame} {meth : Method} {c : Code} {H : Heap} {locs : List Loc} {D : va_G} {tys : List (ClassId × FieldType)} {A : Nat -> Prop} {ws : va_W} {Qc : Array Value -> State -> Outcome -> State -> Prop} {postx : Prop} {cc : ByteArray} {ret0 : Option FieldType} {nL pc : Nat} {ls : Array Slot} {rest : List Value}
abbrev gXC (D : va_G) (tys : List (ClassId × FieldType)) (A : Nat -> Prop) (w : va_W) (postx : Prop) : String -> State -> State -> Prop := vx_X (fun _ : Unit => postx) (fun E _ t => E = NSE /\ gB D tys A w t) A
theorem g_throw (C0 : gc cc ret0 nL RX9 D tys A p s m args meth c) (hl9 : l.stackTraces = false) (htab : ∀ x ∈ c.exceptionTable.toList, False) (hP : va_P D classes ws H) (hD : va_D A ws) (hS : va_S A s.heap H locs) (hsize : ls.size = nL)
    (d0 : decode cc pc = .ok (.new 120, 3)) (d3 : decode cc (pc + 3) = .ok (.dup, 1)) (d4 : decode cc (pc + 4) = .ok (.invokespecial 122, 3)) (d7 : decode cc (pc + 7) = .ok (.athrow, 1))
    (hR1 : 5 < R.frames) (hR2 : (rest.map fun v => v.category).sum + 81 <= R.locals) (hR3 : 1 <= R.cells) (hR4 : 6 <= R.slots) (hp : postx) :
    W p l e R s m args below meth c H locs 0 0 (vx_MQ below Qc (gXC D tys A ws postx) args s 1 6 A) (F0 m pc ls rest) := by
  obtain ⟨hx, hb, hr, hml, hown, hts, hlocks, hA, hK, hN, tL, tM, hZL, hTL, hZM, hTM, hU, hNn, hZX⟩ := C0
  exact vx_throw0 (A := A) (own := RX9) (cls := NSE) (names := ["java/lang/RuntimeException", "java/lang/Exception"]) (ik := 120) (ic := 122) (mc := 1) (ms := 6) hx hb hl9 hown (by decide) (by decide) (hts _ q_1003) (hts _ q_1004) (thr_hat hts hN) (fun w hw => List.all_eq_true.mp thr_ot w hw) hU hNn hS (hsize.trans hml.symm) d0 d3 d4 d7 (fun x hx => (htab x hx).elim) hR1 hR2 hR3 hR4 hlocks
    (fun t ha h2 h3 => ⟨(), hp, ⟨rfl, hP.kept (fun k x hx => h3 x.1 ((hP k x hx).lt)), va_K.moved ha hK, hD⟩, Nat.le_trans hS.1 h2, fun q h1 h4 => (h3 q (Nat.lt_of_lt_of_le h1 hS.1)).trans (hS.2.1 q h1 h4)⟩) hS.2.2 (Nat.le_refl _) (Nat.le_refl _)
end GTHROW
/-- a contract of a method that returns or throws, out of its walk -/
theorem g_enterX {l : Launch} {y : MethodName} {cc : ByteArray} {nL : Nat} {ret : Option FieldType} {rm : Room} {own : String} (D : va_G) (tys : List (ClassId × FieldType)) (w : va_W) (sz : Nat) (av : List Value) (Qc : (Nat -> Prop) -> Array Value -> State -> Outcome -> State -> Prop) (XC : (Nat -> Prop) -> String -> State -> State -> Prop)
    (hy : plainName y.cls = true) (hown : y.cls = own) (hlen : (lg_sl av).length <= nL)
    (body : ∀ (p : Program) (e : Env) (s : State) (m : MethodId) (args : Array Value) (below : List Frame) (meth : Method) (c : Code) (A : Nat -> Prop) (H : Heap) (locs : List Loc) (ls : Array Slot), gc cc ret nL own D tys A p s m args meth c -> (∀ x ∈ c.exceptionTable.toList, False) -> va_P D classes w H -> va_D A w -> va_S A s.heap H locs -> lv_has ls nL (lv_args 0 av) ->
      W p l e rm s m args below meth c H locs 0 0 (vx_MQ below (Qc A) (XC A) args s 1 6 A) (F0 m 0 ls [])) :
    vx_Met l y (gw y cc nL ret) rm (va_Pc av (gPre D tys w sz)) (Qc (va_A w sz)) (XC (va_A w sz)) 1 6 (va_A w sz) := by
  refine vx_ofW (cc := cc) (maxL := nL) (ret := ret) hy rfl ?_
  intro p e s m args below meth c s₁ B hml htab hv
  obtain ⟨rfl, hsz, ⟨hP, hK, hD⟩, hN, hZ⟩ := hv
  subst hsz
  have hts := atoms_spec (ws := gw y cc nL ret) B.pre
  have ho : s.vm.findClass own = some m.cls := by
    rw [<- hown]
    exact findClass_of_methodNamed B.named
  have hl := lv_entry av (n := nL) hlen
  rw [lg_entry_eq]
  exact body p e s m _ below meth c (va_A w s.heap.size) s.heap [] _ ⟨B.exec, B.bytes, B.returns, hml, ho, fun w hw => hts w (List.mem_cons_of_mem _ hw), B.notSynchronized, fun q h => Or.inr h, hK, hN, hZ⟩ htab hP hD.self va_S.rf hl
section GCATCH
variable {e : Env} {a : Addr}
theorem gk_go {Q : Handler -> Pre} {E : CtlPost} {d : Bool} {acts : List Action} {s : State} {f : JFrame} {x : ExceptionTableEntry} {t : List ExceptionTableEntry} {c : ClassId} {cell : Cell} (hx : covers x f.pc = true) (h0 : x.catchType ≠ 0)
    (hl : s.vm.ClassLinks e.platform f.method.cls x.catchType c) (hcell : s.heap[a]? = some cell) (hobj : ∀ k, cell.vm ≠ .statics k)
    (hk : ∃ k, s.vm.classes[cell.cls]? = some k) (hc : ∃ k, s.vm.classes[c]? = some k) (hfit : s.vm.assignable cell.cls c = true) :
    wp (findHandler.go f a (x :: t)) Q E e d acts s ↔ Q (.found x.handlerPc) d acts (s.setVm (s.vm.noted f.method.cls x.catchType (.cls c))) := by
  simp only [covers] at hx
  obtain ⟨ha, ht⟩ := (resolveClass_links e.toSetting hl).op (op := VmOp.resolveClass f.method.cls x.catchType) rfl
  have hal : s.vm.Alike (s.vm.noted f.method.cls x.catchType (.cls c)) := (Vm.Alike.refl s.vm).noted _ _ _
  obtain ⟨k1, hk1⟩ := hk
  obtain ⟨k2, hk2⟩ := hc
  obtain ⟨k1', hk1', -⟩ := hal.2.2 _ _ hk1
  obtain ⟨k2', hk2', -⟩ := hal.2.2 _ _ hk2
  have hfit' : (s.vm.noted f.method.cls x.catchType (.cls c)).assignable cell.cls c = true := by
    rw [hal.assignable]
    exact hfit
  simp [findHandler.go, hx, h0, ha, ht, hcell, hobj, hk1', hk2', hfit', VmOp.dirties, VmOp.acts]
theorem gk_step {s : State} {f : JFrame} {r : List Frame} {pc : Nat} {vm' : Vm} (hfind : ∀ (Q : Handler -> Pre) (E : CtlPost) (d : Bool) (acts : List Action), wp (findHandler f a) Q E e d acts s ↔ Q (.found pc) d acts (s.setVm vm')) :
    (stepThrowing e s a (.java f :: r)).Is ((s.setVm vm').setFrames (.java { f with pc := pc, stack := [.ref a] } :: r)) [] := by
  simp only [stepThrowing, searchFrame, vmDo]
  generalize hr : Sem.go _ e false [] s = res
  obtain ⟨as, rfl, ha⟩ := Sem.eq_ok_of hr (a := Handler.found pc) (s' := s.setVm vm') (acts' := []) (by simp [hfind _ _ _ _])
  exact ⟨rfl, ha⟩
theorem gk_fr (u : State) (vm' : Vm) (F G : List Frame) : ((u.setFrames F).setVm vm').setFrames G = (u.setVm vm').setFrames G := by
  have h1 : (u.setFrames F).setVm vm' = (u.setVm vm').setFrames F := rfl
  rw [h1, State.setFrames_setFrames]
theorem gk_caught {tb : Tables} {s target : State} {g : JFrame} {c : Code} {below : List Frame} (h : At s g.method c below) {pc : Nat} {vm' : Vm}
    (hfind : ∀ (Q : Handler -> Pre) (E : CtlPost) (d : Bool) (acts : List Action), wp (findHandler g a) Q E e d acts ((s.setTop g).pushFrame (.throwing a)) ↔ Q (.found pc) d acts (((s.setTop g).pushFrame (.throwing a)).setVm vm'))
    (hrest : Steps tb e below ((s.setVm vm').setTop { g with pc := pc, stack := [.ref a] }) target) :
    Steps tb e below ((s.setTop g).pushFrame (.throwing a)) target := by
  obtain ⟨hgo, hw⟩ := h.throwing a
  refine Steps.head hgo hw ?_
  rw [stepThread_throwing (frames_entered h.top _), (gk_step (s := (s.setTop g).pushFrame (.throwing a)) hfind).1]
  obtain ⟨g₀, hg⟩ := Option.isSome_iff_exists.mp h.top
  obtain ⟨r, hr⟩ := State.topJava?_eq_some.mp hg
  have hr' : (s.setVm vm').frames = .java g₀ :: r := hr
  rw [State.setTop_of_frames _ hr'] at hrest
  rw [hr, List.tail_cons, State.pushFrame, gk_fr, State.setTop_of_frames _ hr, gk_fr]
  exact hrest
variable {p : Program} {l : Launch} {R : Room} {s : State} {m : MethodId} {args : Array Value} {below : List Frame} {meth : Method} {c : Code} {H : Heap} {locs : List Loc} {cells slots : Nat} {Q : State -> Prop} {pc : Nat} {ls : Array Slot} {rest : List Value}
/-- caught by the one row of this method's table -/
theorem gk_catch {own name E : String} {ce : Cell} {q : Addr} (hown : s.vm.findClass own = some m.cls) (x : ExceptionTableEntry) (htab : c.exceptionTable.toList = [x]) (hx : covers x pc = true) (h0 : x.catchType ≠ 0)
    (hlink : (Cond.classLink own x.catchType name).before args s = true) (hcast : (Cond.castable E name).before args s = true) (hcell : H[q]? = some ce) (hv : ce.vm = .none) (hcl : s.vm.findClass E = some ce.cls)
    (kk : W p l e R s m args below meth c H locs cells slots Q (F0 m x.handlerPc ls [.ref q])) : vx_W p l e R s m args below meth c H locs cells slots Q (F0 m pc ls rest) q := by
  intro T hT X
  have hpl : e.platform.magicAccessors = ({} : Platform).magicAccessors := by rw [X.admits.platform]
  obtain ⟨c3, c4, hc3, hc4, hasg⟩ := Cond.castable_spec hcast
  cases Option.some.inj (hc3.symm.trans hcl)
  obtain ⟨c5, hc5, hcl5⟩ := Cond.classLink_spec hown hlink e.platform hpl
  cases Option.some.inj (hc4.symm.trans hc5)
  obtain ⟨dk, _, _, kt, hd, _, _, _, _, hkt, _, hopen⟩ := id hcl5.here
  obtain ⟨kt', hkt', -⟩ := X.warmed.alike.2.2 _ _ hkt
  obtain ⟨k0, hk0, -⟩ := Vm.findClass_spec hcl
  obtain ⟨k0', hk0', -⟩ := X.warmed.alike.2.2 _ _ hk0
  have hW' := X.warmed.noted hd hopen (State.rightAt_cls hcl5)
  have hfind : ∀ (Q : Handler -> Pre) (E : CtlPost) (d : Bool) (acts : List Action), wp (findHandler (F0 m pc ls rest) q) Q E e d acts ((T.setTop (F0 m pc ls rest)).pushFrame (.throwing q)) ↔ Q (.found x.handlerPc) d acts (((T.setTop (F0 m pc ls rest)).pushFrame (.throwing q)).setVm (T.vm.noted m.cls x.catchType (.cls c4))) := by
    intro Q E d acts
    rw [Jvm.W.findHandler_eq (s := (T.setTop (F0 m pc ls rest)).pushFrame (.throwing q)) (f := F0 m pc ls rest) (meth := meth) (code := c) X.method' X.code, htab]
    exact gk_go (s := (T.setTop (F0 m pc ls rest)).pushFrame (.throwing q)) (f := F0 m pc ls rest) (cell := ce) hx h0 (X.warmed.classLinks hcl5) (by show T.heap[q]? = some ce; rw [hT]; exact hcell) (VmData.ne_statics_of (by rw [hv]; rfl)) ⟨k0', hk0'⟩ ⟨kt', hkt'⟩ (by show T.vm.assignable _ _ = true; rw [X.warmed.alike.assignable]; exact hasg)
  obtain ⟨t, a1, b1⟩ := kk (T.setVm (T.vm.noted m.cls x.catchType (.cls c4))) hT (X.noted hW')
  exact ⟨t, gk_caught X.here hfind a1, b1⟩
end GCATCH
