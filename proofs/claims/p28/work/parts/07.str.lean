/-! The one String constant: its length -/
theorem g_tS {a b : Nat} {U : State} (h : vk_R RX7 11 "duywsko" a U) (h2 : vk_R RX7 11 "duywsko" b U) : a = b := by
  have h3 := h.2.symm.trans h2.2
  injection h3 with h4
  injection h4
def gPreR (D : va_G) (tys : List (ClassId × FieldType)) (sz tS : Nat) (U : State) : Prop := gPre D tys [] sz U /\ vk_R RX7 11 "duywsko" tS U
theorem gPreR.blind {D : va_G} {tys : List (ClassId × FieldType)} {sz tS : Nat} {av : List Value} : FrameBlind (va_Pc av (gPreR D tys sz tS)) := by
  intro a U g mk h
  obtain ⟨h0, h1, h2⟩ := h
  exact ⟨h0, (gPre.blind (av := av) a U g mk ⟨h0, h1⟩).2, vk_R.same (u := U) (U := U.calling g mk a) rfl h2⟩
theorem g_nilP {D : va_G} {H : Heap} : va_P D classes [] H := fun k q h => by simp at h
theorem g_nilD {A : Nat -> Prop} : va_D A [] := ⟨fun i j p q h => by simp at h, fun k q h => by simp at h⟩
theorem g_nilA {sz q : Nat} (h : va_A [] sz q) : sz <= q := by
  rcases h with ⟨k, e, h⟩ | h
  · simp at h
  · exact h
section GSTR
variable {p : Program} {l : Launch} {e : Env} {R : Room} {s : State} {m : MethodId} {args : Array Value} {below : List Frame} {meth : Method} {c : Code} {H : Heap} {locs : List Loc} {cells slots : Nat} {D : va_G} {tys : List (ClassId × FieldType)} {A : Nat -> Prop} {ws : va_W}
variable {y : MethodName} {bytes cc : ByteArray} {maxL nL n index tS : Nat} {ret ret0 : Option FieldType} {rm : Room} {Qc : Array Value -> State -> Outcome -> State -> Prop} {own : String} {rest : List Value} {g : JFrame}
theorem g_runStr (C0 : gc cc ret0 nL own D tys A p s m args meth c) (hS : va_S A s.heap H locs) (hRf : vk_R RX7 11 "duywsko" tS s) (hO : va_O "java/lang/String" tS A s s.heap)
    (hM : Met l y (gw y bytes maxL ret) rm (va_Pc [.ref tS] (gPreR D tys H.size tS)) Qc 0 0 (va_A [] H.size))
    (h1 : Cond.code y bytes maxL ret ∈ W0) (h2 : Cond.methodLink own index y ∈ W0) (h3 : Cond.instanceMethod y ∈ W0) (h4 : Cond.selects "java/lang/String" y y ∈ W0) (h5 : Cond.initialized y.cls ∈ W0)
    (hd : y.cls ≠ "java/lang/invoke/MethodHandle" /\ y.cls ≠ "java/lang/invoke/VarHandle" /\ (parseMethodDescriptor y.desc).map (fun d => d.parameters.length) = some 0) (hrc : rm.cells = 0) (hrs : rm.slots = 0) (hR : rm.frames + 1 <= R.frames /\ 8 + (maxL + 11) + rm.locals <= R.locals)
    (hg : g.method = m) (hsize : g.locals.size = nL) (hstack : g.stack = .ref tS :: rest) (hW : 2 * g.monitorRoom + (rest.map fun v => v.category).sum <= 8) (hdg : decode cc g.pc = .ok (.invokevirtual index, 3)) (hf : cells + 0 <= R.cells /\ slots + 0 <= R.slots) :
    va_Run p l e R s m args below meth c H locs cells slots 0 0 g rest (Qc ([Value.ref tS] : List Value).toArray) (va_A [] H.size) := by
  obtain ⟨hx, hb, hr, hml, hown, hts, hlocks, hA, hK, hN, hZ⟩ := C0
  obtain ⟨cell, o1, o2, o3, -⟩ := hO.kept hS.2.1
  refine va_runV (Ts := W0) (As := []) (C := "java/lang/String") ⟨hx, hb, hml, hown, hts⟩ hM ⟨callB_of 0 hts (g0_good h1) rfl hrc hrs (hts _ h5) (hts _ h2) hd hR, hts _ h3, hts _ h4⟩ ⟨gPreR.blind, ⟨cell, o1, o2, o3⟩, fun U hU hWm => ⟨rfl, ⟨by rw [hU], ⟨g_nilP, va_K.moved hWm.alike hK, g_nilD⟩, gN.warm hWm hN, by rw [hU]; exact hZ.to hWm.alike (fun _ h9 => vk_R.warm hWm h9) hS.2.1 (fun q h => hA q (Nat.le_trans hS.1 (g_nilA h)))⟩, vk_R.warm hWm hRf⟩⟩ hg rfl hsize hstack hW hdg hf
end GSTR
set_option maxHeartbeats 4000000 in
theorem c_J0_coder (l : Launch) (dC : Nat -> ClassId) (dI : Nat -> Nat -> Nat) (cI cC cZ cB cJ : ClassId) (tS sz : Nat) : Met l aZB (gw aZB aYn 1 (some .byte)) { frames := 0, cells := 0, slots := 0, locals := 0 } (va_Pc [.ref tS] (gPreR (dC, dI) (tyl cI cC cZ cB cJ) sz tS)) (va_Qi (fun (r : Int32) (_ : Unit) => r = 0) (fun _ _ => True) (va_A [] sz)) 0 0 (va_A [] sz) := by
  refine Met.ofW (cc := aYn) (maxL := 1) (ret := some .byte) (by decide) rfl ?_
  intro p e s m args below meth c s₁ B hml hv
  obtain ⟨rfl, ⟨hsz, ⟨hP, hK, hD⟩, hN, hZ⟩, hR⟩ := hv
  subst hsz
  have hts0 := atoms_spec (ws := gw aZB aYn 1 (some .byte)) B.pre
  have hts : ∀ w ∈ W0, w.before _ s = true := fun w hw => hts0 w (List.mem_cons_of_mem _ hw)
  have hx := B.exec
  have hb := B.bytes
  have hr := B.returns
  have hlocks := B.notSynchronized
  have hown : s.vm.findClass RJ0 = some m.cls := findClass_of_methodNamed B.named
  obtain ⟨tL, tM, -, -, -, -, -, -, hZc, tS2, tV, g1, g2, g3, g4, g5⟩ := hZ
  obtain rfl := g_tS g1 hR
  have hS : va_S (va_A [] s.heap.size) s.heap s.heap [] := va_S.rf
  have hl := lv_entry [.ref tS2] (n := 1) (lbz rfl)
  rw [lg_entry_eq]
  have hl : lv_has _ 1 [(0, .ref tS2)] := hl
  refine va_gets hx hb hZc hS hown (hts _ q_968) (fun _ h9 => h9) eJ0_coder_7d493_0.1 ?_
  refine lv_if_eq (tgt := 13) hx hb eJ0_coder_7d493_0.2.1 (by decide) (fun hc => absurd hc (by decide)) (fun hc => ?_)
  refine lv_aload_n hx hb eJ0_coder_7d493_0.2.2.1 rfl (lv_at hl 0 rfl) ?_
  refine vk_getf hx hb g3 hS hown (hts _ q_969) (fun _ h9 => h9) eJ0_coder_7d493_0.2.2.2.1 ?_
  refine lv_goto (tgt := 14) hx hb eJ0_coder_7d493_0.2.2.2.2.1 (by decide) ?_
  exact W.zret (v := 0) hx hb hr rfl (fun t ht hW => ⟨⟨0, (), rfl, rfl, trivial⟩, hS.F ht⟩) hS.2.2 eJ0_coder_7d493_0.2.2.2.2.2.2
set_option maxHeartbeats 4000000 in
theorem c_J0_length (l : Launch) (dC : Nat -> ClassId) (dI : Nat -> Nat -> Nat) (cI cC cZ cB cJ : ClassId) (tS sz : Nat) : Met l aRh (gw aRh aUN 1 (some .int)) { frames := 1, cells := 0, slots := 0, locals := 20 } (va_Pc [.ref tS] (gPreR (dC, dI) (tyl cI cC cZ cB cJ) sz tS)) (va_Qi (fun (r : Int32) (_ : Unit) => r = 7) (fun _ _ => True) (va_A [] sz)) 0 0 (va_A [] sz) := by
  refine Met.ofW (cc := aUN) (maxL := 1) (ret := some .int) (by decide) rfl ?_
  intro p e s m args below meth c s₁ B hml hv
  obtain ⟨rfl, ⟨hsz, ⟨hP, hK, hD⟩, hN, hZ⟩, hR⟩ := hv
  subst hsz
  have hts0 := atoms_spec (ws := gw aRh aUN 1 (some .int)) B.pre
  have hts : ∀ w ∈ W0, w.before _ s = true := fun w hw => hts0 w (List.mem_cons_of_mem _ hw)
  have hx := B.exec
  have hb := B.bytes
  have hr := B.returns
  have hlocks := B.notSynchronized
  have hown : s.vm.findClass RJ0 = some m.cls := findClass_of_methodNamed B.named
  have hA : ∀ q, s.heap.size <= q -> (va_A [] s.heap.size) q := fun q h => Or.inr h
  have C0 : gc aUN (some .int) 1 RJ0 (dC, dI) (tyl cI cC cZ cB cJ) (va_A [] s.heap.size) p s m ([.ref tS] : List Value).toArray meth c := ⟨hx, hb, hr, hml, hown, hts, hlocks, hA, hK, hN, hZ⟩
  obtain ⟨tL, tM, -, -, -, -, -, -, hZc, tS2, tV, g1, g2, g3, g4, g5⟩ := hZ
  obtain rfl := g_tS g1 hR
  have hS : va_S (va_A [] s.heap.size) s.heap s.heap [] := va_S.rf
  have hl := lv_entry [.ref tS2] (n := 1) (lbz rfl)
  rw [lg_entry_eq]
  have hl : lv_has _ 1 [(0, .ref tS2)] := hl
  refine lv_aload_n hx hb eJ0_length_8abf5_0.1 rfl (lv_at hl 0 rfl) ?_
  refine vk_getf hx hb g4 hS hown (hts _ q_970) (fun _ h9 => h9) eJ0_length_8abf5_0.2.1 ?_
  refine va_tlen (v := 7) hx hb g5 hS rfl eJ0_length_8abf5_0.2.2.1 ?_
  refine lv_aload_n hx hb eJ0_length_8abf5_0.2.2.2.1 rfl (lv_at hl 0 rfl) ?_
  refine va_calli (g_runStr (rest := [.int 7]) C0 hS hR g2 (c_J0_coder l dC dI cI cC cZ cB cJ tS2 s.heap.size) q_971 q_972 q_973 q_974 q_975 h_J0_coder_7d493 rfl rfl ⟨lbz rfl, lbz rfl⟩ rfl hl.1 rfl (lv_room (lbz rfl)) eJ0_length_8abf5_0.2.2.2.2.1 ⟨Nat.zero_le _, Nat.zero_le _⟩) hS (fun q _ h => h) (fun q h => h) (fun r u t H1 locs1 ht hvm hw hB hz hk hS1 => ?_)
  refine lv_ishr hx hb eJ0_length_8abf5_0.2.2.2.2.2.1 ?_
  have hw : r = 0 := hw
  subst hw
  exact W.iret (v := 7 >>> ((0 : Int32) &&& 31)) hx hb hr (fun t ht hW => ⟨⟨_, (), rfl, by decide, trivial⟩, hS1.F ht⟩) hS1.2.2 eJ0_length_8abf5_0.2.2.2.2.2.2
section GSTRL
variable {p : Program} {l : Launch} {e : Env} {R : Room} {s : State} {m : MethodId} {args : Array Value} {below : List Frame} {meth : Method} {c : Code} {H : Heap} {locs : List Loc} {cells slots : Nat} {Q : State -> Prop} {dC : Nat -> ClassId} {dI : Nat -> Nat -> Nat} {cI cC cZ cB cJ : ClassId} {A : Nat -> Prop} {ws : va_W} {cc : ByteArray} {nL index tS pc : Nat} {ret0 : Option FieldType} {own : String} {rest : List Value} {ls : Array Slot}
/-- LETTERS.length() -/
theorem g_strlen (C0 : gc cc ret0 nL own (dC, dI) (tyl cI cC cZ cB cJ) A p s m args meth c) (hP : va_P (dC, dI) classes ws H) (hD : va_D A ws) (hS : va_S A s.heap H locs) (hRf : vk_R RX7 11 "duywsko" tS s) (hO : va_O "java/lang/String" tS A s s.heap)
    (h2 : Cond.methodLink own index aRh ∈ W0) (hsize : ls.size = nL) (hW : 2 * (F0 m pc ls (.ref tS :: rest)).monitorRoom + (rest.map fun v => v.category).sum <= 8) (hdg : decode cc pc = .ok (.invokevirtual index, 3)) (hR1 : 2 <= R.frames) (hR2 : 40 <= R.locals) (hc1 : cells <= R.cells) (hc2 : slots <= R.slots)
    (kk : ∀ (H1 : Heap) (locs1 : List Loc), va_P (dC, dI) classes ws H1 -> va_D A ws -> va_S A s.heap H1 locs1 -> W p l e R s m args below meth c H1 locs1 cells slots Q (F0 m (pc + 3) ls (.int 7 :: rest))) :
    W p l e R s m args below meth c H locs cells slots Q (F0 m pc ls (.ref tS :: rest)) := by
  have hF : ∀ q, va_A [] H.size q -> A q := fun q h => C0.2.2.2.2.2.2.2.1 q (Nat.le_trans hS.1 (g_nilA h))
  refine va_calli (g_runStr (rest := rest) (g := F0 m pc ls (.ref tS :: rest)) C0 hS hRf hO (c_J0_length l dC dI cI cC cZ cB cJ tS H.size) q_976 h2 q_977 q_978 q_975 h_J0_length_8abf5 rfl rfl ⟨hR1, hR2⟩ rfl hsize rfl hW hdg ⟨hc1, hc2⟩) hS (fun q _ h => hF q h) hF (fun r u t H1 locs1 ht hvm hw hB hz hk hS1 => ?_)
  have hw : r = 7 := hw
  subst hw
  exact kk H1 locs1 (hP.kept (fun k x hx => hk x.1 ((hP k x hx).lt) (fun h => absurd ((hP k x hx).lt) (Nat.not_lt.mpr (g_nilA h))))) hD hS1
end GSTRL
