/-! Calls that make cells, or throw; the law's room -/
theorem n_castNSE : Cond.castable "java/util/NoSuchElementException" "java/util/NoSuchElementException" ∈ WN := List.mem_of_getElem? (i := 10) rfl
section GLAW
variable {p : Program} {l : Launch} {e : Env} {R : Room} {s : State} {m : MethodId} {args : Array Value} {below : List Frame} {meth : Method} {c : Code} {H : Heap} {locs : List Loc} {cells slots mc ms : Nat} {Q : State → Prop} {pc : Nat} {ls : Array Slot} {rest st0 : List Value} {D : va_G} {tys : List (ClassId × FieldType)} {A : Nat → Prop} {ws wc : va_W} {a : Array Value}
theorem g_calliC {S : Type} {post : Int32 → S → Prop} {w1 : S → va_W} (hP : va_P D classes ws H) (hD : va_D A ws) (hS : va_S A s.heap H locs) (hA : ∀ q, s.heap.size ≤ q → A q)
    (isC isR : List Nat) (hC : isC.map (fun i => ws[i]?) = wc.map some) (hR : isR.map (fun i => ws[i]?) = (gpk ws isR).map some) (hn : va_nd isR = true) (hdis : g_dis isR isC = true)
    (hr : va_Run p l e R s m args below meth c H locs cells slots mc ms (F0 m pc ls st0) rest (va_Qi post (fun u t => gB D tys (va_A wc H.size) (w1 u) t) (va_A wc H.size) a) (va_A wc H.size))
    (kk : ∀ (r : Int32) (u : S) (H1 : Heap) (locs1 : List Loc), post r u → va_P D classes (gpk ws isR ++ w1 u) H1 → va_D A (gpk ws isR ++ w1 u) → va_S A s.heap H1 locs1 → W p l e R s m args below meth c H1 locs1 (cells + mc) (slots + ms) Q (F0 m (pc + 3) ls (.int r :: rest))) :
    W p l e R s m args below meth c H locs cells slots Q (F0 m pc ls st0) := by
  have hF := va_free (wc := wc) hD hS hA isC hC
  refine va_calli hr hS (fun q _ h => hF q h) hF (fun r u t H1 locs1 ht hvm hw hB hz hk hS1 => ?_)
  obtain ⟨hP1, hK1, hD1⟩ := hB
  rw [ht] at hP1
  obtain ⟨hP2, hD2⟩ := va_join hP hD isC isR hC hR hn (g_dis_of hdis) hk hF hP1 hD1
  exact kk r u H1 locs1 hw hP2 hD2 hS1
theorem g_calliX {S : Type} {post : Int32 → S → Prop} {w1 : S → va_W} {postx : Prop} (hP : va_P D classes ws H) (hD : va_D A ws) (hS : va_S A s.heap H locs) (hA : ∀ q, s.heap.size ≤ q → A q)
    (isC isR : List Nat) (hC : isC.map (fun i => ws[i]?) = wc.map some) (hR : isR.map (fun i => ws[i]?) = (gpk ws isR).map some) (hn : va_nd isR = true) (hdis : g_dis isR isC = true)
    (hr : vx_Run p l e R s m args below meth c H locs cells slots mc ms (F0 m pc ls st0) rest (va_Qi post (fun u t => gB D tys (va_A wc H.size) (w1 u) t) (va_A wc H.size) a) (gXC D tys (va_A wc H.size) wc postx) (va_A wc H.size))
    (kx : ∀ (ce : Cell) (q9 : Addr) (H1 : Heap) (locs1 : List Loc), postx → va_P D classes (gpk ws isR ++ wc) H1 → va_D A (gpk ws isR ++ wc) → va_S A s.heap H1 locs1 → H1[q9]? = some ce → ce.vm = .none → s.vm.findClass NSE = some ce.cls → vx_W p l e R s m args below meth c H1 locs1 (cells + mc) (slots + ms) Q (F0 m pc ls rest) q9)
    (kk : ∀ (r : Int32) (u : S) (H1 : Heap) (locs1 : List Loc), post r u → va_P D classes (gpk ws isR ++ w1 u) H1 → va_D A (gpk ws isR ++ w1 u) → va_S A s.heap H1 locs1 → W p l e R s m args below meth c H1 locs1 (cells + mc) (slots + ms) Q (F0 m (pc + 3) ls (.int r :: rest))) :
    W p l e R s m args below meth c H locs cells slots Q (F0 m pc ls st0) := by
  have hF := va_free (wc := wc) hD hS hA isC hC
  refine vx_calli hr hS (fun q _ h => hF q h) hF (fun q _ h => hF q h) (fun E ce q9 u t H1 locs1 ht hvm hw hB hz hk hS1 hq hv hcl => ?_) (fun r u t H1 locs1 ht hvm hw hB hz hk hS1 => ?_)
  · obtain ⟨rfl, hP1, hK1, hD1⟩ := hB
    rw [ht] at hP1
    obtain ⟨hP2, hD2⟩ := va_join hP hD isC isR hC hR hn (g_dis_of hdis) hk hF hP1 hD1
    exact kx ce q9 H1 locs1 hw hP2 hD2 hS1 hq hv hcl
  · obtain ⟨hP1, hK1, hD1⟩ := hB
    rw [ht] at hP1
    obtain ⟨hP2, hD2⟩ := va_join hP hD isC isR hC hR hn (g_dis_of hdis) hk hF hP1 hD1
    exact kk r u H1 locs1 hw hP2 hD2 hS1
variable {y : MethodName} {bytes cc : ByteArray} {maxL nL n index : Nat} {ret ret0 : Option FieldType} {rm : Room} {Qc : Array Value → State → Outcome → State → Prop} {XC : String → State → State → Prop} {own C : String} {b : Addr} {As : List Value} {g : JFrame}
theorem g_runVX (C0 : gc cc ret0 nL own D tys A p s m args meth c) (hP : va_P D classes ws H) (hD : va_D A ws) (hS : va_S A s.heap H locs) (isC : List Nat) (hC : isC.map (fun i => ws[i]?) = wc.map some) (hn1 : va_nd isC = true) (q0 ci : Nat) {q : vw_C} {fs : List Value} (hc : classes[ci]? = some q) (he : ws[q0]? = some (b, .inr (ci, fs)))
    (hM : vx_Met l y (gw y bytes maxL ret) rm (va_Pc (.ref b :: As) (gPre D tys wc H.size)) Qc XC mc ms (va_A wc H.size))
    (h1 : Cond.code y bytes maxL ret ∈ W0) (h2 : Cond.methodLink own index y ∈ W0) (h3 : Cond.instanceMethod y ∈ W0) (h4 : Cond.selects q.1 y y ∈ W0) (h5 : Cond.initialized y.cls ∈ W0)
    (hd : y.cls ≠ "java/lang/invoke/MethodHandle" ∧ y.cls ≠ "java/lang/invoke/VarHandle" ∧ (parseMethodDescriptor y.desc).map (fun d => d.parameters.length) = some n) (hrc : rm.cells = mc) (hrs : rm.slots = ms) (hR : rm.frames + 1 ≤ R.frames ∧ 8 + (maxL + 11) + rm.locals ≤ R.locals)
    (hg : g.method = m) (hn : As.length = n) (hsize : g.locals.size = nL) (hstack : g.stack = As.reverse ++ .ref b :: rest) (hW : 2 * g.monitorRoom + (rest.map fun v => v.category).sum ≤ 8) (hdg : decode cc g.pc = .ok (.invokevirtual index, 3)) (hf : cells + mc ≤ R.cells ∧ slots + ms ≤ R.slots) :
    vx_Run p l e R s m args below meth c H locs cells slots mc ms g rest (Qc (Value.ref b :: As).toArray) XC (va_A wc H.size) := by
  obtain ⟨hx, hb, hr, hml, hown, hts, hlocks, hA, hK, hN, hZ⟩ := C0
  exact vx_runV (Ts := W0) ⟨hx, hb, hml, hown, hts⟩ hM ⟨callB_of n hts (g0_good h1) rfl hrc hrs (hts _ h5) (hts _ h2) hd hR, hts _ h3, hts _ h4⟩ ⟨gPre.blind, va_recv hK hP hc he, fun U hU hWm => ⟨rfl, by rw [hU], ⟨by rw [hU]; exact hP.sub isC (g_sub hC), va_K.moved hWm.alike hK, (hD.sub isC hn1 hC).weaken (fun _ _ _ _ => trivial)⟩, gN.warm hWm hN, by rw [hU]; exact hZ.to hWm.alike (fun _ h9 => vk_R.warm hWm h9) hS.2.1 (va_free (wc := wc) hD hS hA isC hC)⟩⟩ hg hn hsize hstack hW hdg hf
theorem g_goodW {y2 : MethodName} {b2 : ByteArray} {n2 : Nat} {r2 : Option FieldType} {hh : List (Nat × Nat × Nat × Nat)} {own2 : String} {ix : Nat} (h : Cond.codeWith y2 b2 n2 r2 hh ∈ W0) (h2 : Cond.methodLink own2 ix y2 ∈ W0) (h3 : Cond.static y2 ∈ W0) (h5 : Cond.initialized y2.cls ∈ W0) : GoodIn W0 (va_wsS own2 ix y2 (.codeWith y2 b2 n2 r2 hh :: W0)) := by
  have gd : ∀ w ∈ W0, w ∈ W0 ∧ ((w.onTables && w.keeps) = true ∨ ∃ ty, w = .arrayClass ty) := fun w e => ⟨e, good_of_word (List.all_eq_true.mp W0_good w e)⟩
  intro w hw
  unfold va_wsS at hw
  rcases List.mem_append.mp hw with e | e
  · rcases List.mem_cons.mp e with rfl | e
    · exact gd _ h2
    · rcases List.mem_cons.mp e with rfl | e
      · exact gd _ h3
      · rcases List.mem_cons.mp e with rfl | e
        · exact gd _ h5
        · cases e
  · rcases List.mem_cons.mp e with rfl | e
    · exact gd _ h
    · exact gd w e
theorem g_runSW {hh : List (Nat × Nat × Nat × Nat)} (C0 : gc cc ret0 nL own D tys A p s m args meth c) (hP : va_P D classes ws H) (hD : va_D A ws) (hS : va_S A s.heap H locs) (isC : List Nat) (hC : isC.map (fun i => ws[i]?) = wc.map some) (hn1 : va_nd isC = true)
    (hM : Met l y (.codeWith y bytes maxL ret hh :: W0) rm (va_Pc As (gPre D tys wc H.size)) Qc mc ms (va_A wc H.size))
    (h1 : Cond.codeWith y bytes maxL ret hh ∈ W0) (h2 : Cond.methodLink own index y ∈ W0) (h3 : Cond.static y ∈ W0) (h5 : Cond.initialized y.cls ∈ W0)
    (hd : y.cls ≠ "java/lang/invoke/MethodHandle" ∧ y.cls ≠ "java/lang/invoke/VarHandle" ∧ (parseMethodDescriptor y.desc).map (fun d => d.parameters.length) = some n) (hrc : rm.cells = mc) (hrs : rm.slots = ms) (hR : rm.frames + 1 ≤ R.frames ∧ 8 + (maxL + 11) + rm.locals ≤ R.locals)
    (hg : g.method = m) (hn : As.length = n) (hsize : g.locals.size = nL) (hstack : g.stack = As.reverse ++ rest) (hW : 2 * g.monitorRoom + (rest.map fun v => v.category).sum ≤ 8) (hdg : decode cc g.pc = .ok (.invokestatic index, 3)) (hf : cells + mc ≤ R.cells ∧ slots + ms ≤ R.slots) :
    va_Run p l e R s m args below meth c H locs cells slots mc ms g rest (Qc As.toArray) (va_A wc H.size) := by
  obtain ⟨hx, hb, hr, hml, hown, hts, hlocks, hA, hK, hN, hZ⟩ := C0
  exact vx_runSW (Ts := W0) (hh := hh) ⟨hx, hb, hml, hown, hts⟩ hM (vx_cwSW n hts (g_goodW h1 h2 h3 h5) rfl hrc hrs hd hR) ⟨gPre.blind, fun U hU hWm => ⟨rfl, by rw [hU], ⟨by rw [hU]; exact hP.sub isC (g_sub hC), va_K.moved hWm.alike hK, (hD.sub isC hn1 hC).weaken (fun _ _ _ _ => trivial)⟩, gN.warm hWm hN, by rw [hU]; exact hZ.to hWm.alike (fun _ h9 => vk_R.warm hWm h9) hS.2.1 (va_free (wc := wc) hD hS hA isC hC)⟩⟩ hg hn hsize hstack hW hdg hf
end GLAW
theorem g_room1 {j : Nat} (h : j ≤ 600) : (62 + j) + 1 ≤ room_1.cells := Nat.le_trans (show (62 + j) + 1 ≤ 700 by omega) (Nat.le_of_ble_eq_true rfl)
theorem g_room2 {j : Nat} (h : j ≤ 600) : (4445 + 6 * j) + 6 ≤ room_1.slots := Nat.le_trans (show (4445 + 6 * j) + 6 ≤ 10000 by omega) (Nat.le_of_ble_eq_true rfl)
theorem g_room3 {j : Nat} (h : j ≤ 600) : (62 + j) + 0 ≤ room_1.cells := Nat.le_trans (show (62 + j) + 0 ≤ 700 by omega) (Nat.le_of_ble_eq_true rfl)
theorem g_room4 {j : Nat} (h : j ≤ 600) : (4445 + 6 * j) + 0 ≤ room_1.slots := Nat.le_trans (show (4445 + 6 * j) + 0 ≤ 10000 by omega) (Nat.le_of_ble_eq_true rfl)
theorem g_room5 {j : Nat} (h : j ≤ 600) : (62 + (j + 1)) + 0 ≤ room_1.cells := Nat.le_trans (show (62 + (j + 1)) + 0 ≤ 700 by omega) (Nat.le_of_ble_eq_true rfl)
theorem g_room6 {j : Nat} (h : j ≤ 600) : (4445 + 6 * (j + 1)) + 0 ≤ room_1.slots := Nat.le_trans (show (4445 + 6 * (j + 1)) + 0 ≤ 10000 by omega) (Nat.le_of_ble_eq_true rfl)
