abbrev zXR : Type := String → Nat → (Nat → Nat) → (Nat → va_E) → Prop
def zX (D : va_G) (A : Nat → Prop) (Xr : zXR) : String → State → State → Prop := fun E st t => ∃ (N' : Nat) (ad' : Nat → Nat) (g' : Nat → va_E), Xr E N' ad' g' ∧ va_P D vwCl (wl N' ad' g') t.heap ∧ va_D A (wl N' ad' g') ∧ va_F A st t
def zMX (l : Launch) (y : MethodName) (cc : ByteArray) (mL : Nat) (ret : Option FieldType) (rm : Room) (D : va_G) (A : Nat → Prop) (cs : Nat → ClassId) (tt : Nat) (N : Nat) (ad : Nat → Nat) (g : Nat → va_E) (avs : List Value) (Qr : zR) (Xr : zXR) : Prop := vx_Met l y (.code y cc mL ret :: AW) rm (zPre D A cs tt N ad g avs) (zPost D A Qr) (zX D A Xr) rm.cells rm.slots A
def zMW (l : Launch) (y : MethodName) (cc : ByteArray) (mL : Nat) (ret : Option FieldType) (hh : List (Nat × Nat × Nat × Nat)) (rm : Room) (D : va_G) (A : Nat → Prop) (cs : Nat → ClassId) (tt : Nat) (N : Nat) (ad : Nat → Nat) (g : Nat → va_E) (avs : List Value) (Qr : zR) : Prop := vx_Met l y (.codeWith y cc mL ret hh :: AW) rm (zPre D A cs tt N ad g avs) (zPost D A Qr) (fun _ _ _ => False) rm.cells rm.slots A
abbrev xE (N : Nat) (ad : Nat → Nat) (g : Nat → va_E) (E0 : String) : zXR := fun E N' ad' g' => E = E0 ∧ N' = N ∧ ad' = ad ∧ g' = g
def eNS : String := "java/util/NoSuchElementException"
def eIA : String := "java/lang/IllegalArgumentException"
def xNames : List String := ["java/lang/RuntimeException", "java/lang/Exception"]
theorem z_ofX {l : Launch} {y : MethodName} {cc : ByteArray} {mL : Nat} {ret : Option FieldType} {rm : Room} {D : va_G} {A : Nat → Prop} {cs : Nat → ClassId} {tt N : Nat} {ad : Nat → Nat} {g : Nat → va_E} {avs : List Value} {Qr : zR} {Xr : zXR} (hy : plainName y.cls = true) (hlen : (lg_sl avs).length ≤ mL)
    (body : ∀ (p : Program) (e : Env) (s : State) (m : MethodId) (below : List Frame) (meth : Method) (c : Code), zC p s m avs.toArray c cc mL y.cls D A cs tt → meth.sig.returnType = ret → meth.locks = false → (∀ x ∈ c.exceptionTable.toList, False) →
      zV p l e rm s m avs.toArray below meth c (vx_MQ below (zPost D A Qr) (zX D A Xr) avs.toArray s rm.cells rm.slots A) D A mL N ad g 0 0 0 (lv_args 0 avs) []) : zMX l y cc mL ret rm D A cs tt N ad g avs Qr Xr := by
  refine vx_ofW (cc := cc) (maxL := mL) (ret := ret) hy rfl ?_
  intro p e s m args below meth c s₁ B hml hxt hv
  obtain ⟨rfl, hE, hP, hD⟩ := hv
  have hts := atoms_spec (ws := Cond.code y cc mL ret :: AW) B.pre
  have hl := lv_entry avs (n := mL) hlen
  rw [lg_entry_eq]
  exact body p e s m below meth c ⟨B.exec, B.bytes, hml, findClass_of_methodNamed B.named, fun w h => hts w (List.mem_cons_of_mem _ h), hE⟩ B.returns B.notSynchronized hxt s.heap [] _ hP hD va_S.rf hl
theorem z_ofW {l : Launch} {y : MethodName} {cc : ByteArray} {mL : Nat} {ret : Option FieldType} {hh : List (Nat × Nat × Nat × Nat)} {rm : Room} {D : va_G} {A : Nat → Prop} {cs : Nat → ClassId} {tt N : Nat} {ad : Nat → Nat} {g : Nat → va_E} {avs : List Value} {Qr : zR} (hy : plainName y.cls = true) (hlen : (lg_sl avs).length ≤ mL)
    (body : ∀ (p : Program) (e : Env) (s : State) (m : MethodId) (below : List Frame) (meth : Method) (c : Code), zC p s m avs.toArray c cc mL y.cls D A cs tt → meth.sig.returnType = ret → meth.locks = false → c.exceptionTable.toList = tableOf hh →
      zV p l e rm s m avs.toArray below meth c (MQ below (zPost D A Qr) avs.toArray s rm.cells rm.slots A) D A mL N ad g 0 0 0 (lv_args 0 avs) []) : zMW l y cc mL ret hh rm D A cs tt N ad g avs Qr := by
  refine vx_ofWH (cc := cc) (maxL := mL) (ret := ret) (hh := hh) hy rfl ?_
  intro p e s m args below meth c s₁ B hml hv
  obtain ⟨rfl, hE, hP, hD⟩ := hv
  have hts := atoms_spec (ws := Cond.codeWith y cc mL ret hh :: AW) B.pre
  have hl := lv_entry avs (n := mL) hlen
  rw [lg_entry_eq]
  exact vx_ret (body p e s m below meth c ⟨B.exec, B.bytes, hml, findClass_of_methodNamed B.named, fun w h => hts w (List.mem_cons_of_mem _ h), hE⟩ B.returns B.notSynchronized (vx_table (x := y) (y := y) B (hts _ List.mem_cons_self)) s.heap [] _ hP hD va_S.rf hl)
section ZX
variable {p : Program} {l : Launch} {e : Env} {R : Room} {s : State} {m : MethodId} {args : Array Value} {below : List Frame} {meth : Method} {c : Code} {Q : State → Prop} {D : va_G} {A : Nat → Prop} {cs : Nat → ClassId} {tt : Nat} {cc : ByteArray} {nL : Nat} {own : String} {N : Nat} {ad : Nat → Nat} {g : Nat → va_E} {k n pc : Nat} {lv lv' : List (Nat × Value)} {rest st : List Value} {Qr : zR} {Xr Xr2 : zXR} {mc ms : Nat} {E : String}
theorem z_rX (kk : zV p l e R s m args below meth c (MQ below (zPost D A Qr) args s mc ms A) D A nL N ad g k n (pc) (lv) (st)) : zV p l e R s m args below meth c (vx_MQ below (zPost D A Qr) (zX D A Xr) args s mc ms A) D A nL N ad g k n (pc) (lv) (st) := fun H locs ls hP hD hS hl => vx_ret (kk H locs ls hP hD hS hl)
/-- at pc something was thrown: the world, the locals, what is left of the stack -/
def zU (p : Program) (l : Launch) (e : Env) (R : Room) (s : State) (m : MethodId) (args : Array Value) (below : List Frame) (meth : Method) (c : Code) (Q : State → Prop) (D : va_G) (A : Nat → Prop) (nL : Nat) (N : Nat) (ad : Nat → Nat) (g : Nat → va_E) (k n pc : Nat) (lv : List (Nat × Value)) (rest : List Value) (E : String) : Prop :=
  ∀ (H : Heap) (locs : List Loc) (ls : Array Slot) (q : Addr) (ce : Cell), va_P D vwCl (wl N ad g) H → va_D A (wl N ad g) → va_S A s.heap H locs → lv_has ls nL lv → H[q]? = some ce → ce.vm = .none → s.vm.findClass E = some ce.cls → vx_W p l e R s m args below meth c H locs k n Q (F0 m pc ls rest) q
theorem z_uout (C : zC p s m args c cc nL own D A cs tt) (hxt : ∀ x ∈ c.exceptionTable.toList, False) (hlocks : meth.locks = false) (hk : k ≤ mc) (hn : n ≤ ms) (hq : Xr E N ad g) : zU p l e R s m args below meth c (vx_MQ below (zPost D A Qr) (zX D A Xr) args s mc ms A) D A nL N ad g k n pc lv rest E :=
  fun H locs ls q ce hP hD hS hl hce hcv hcl => vx_out (fun x hx => (hxt x hx).elim) hlocks hce hcv hcl (fun t ht hal => ⟨N, ad, g, hq, by rw [ht]; exact hP, hD, hS.F ht⟩) hS.2.2 hk hn
theorem z_ucatch (C : zC p s m args c cc nL own D A cs tt) {name : String} (pre : List ExceptionTableEntry) (x : ExceptionTableEntry) (suf : List ExceptionTableEntry) (hsplit : c.exceptionTable.toList = pre ++ x :: suf) (hpass : ∀ z ∈ pre, covers z pc = false ∨ (z.catchType ≠ 0 ∧ ∃ nm : String, Cond.classLink own z.catchType nm ∈ AW ∧ va_Nc E nm s)) (hx : covers x pc = true) (h0 : x.catchType ≠ 0) (hlink : Cond.classLink own x.catchType name ∈ AW) (hcast : Cond.castable E name ∈ NW)
    (kk : ∀ q : Nat, zV p l e R s m args below meth c Q D A nL N ad g k n (x.handlerPc) (lv) ([.ref q])) : zU p l e R s m args below meth c Q D A nL N ad g k n pc lv rest E :=
  fun H locs ls q ce hP hD hS hl hce hcv hcl => vx_catch C.2.2.2.1 pre x suf hsplit (fun z hz => (hpass z hz).imp id (fun h => ⟨h.1, h.2.imp fun nm q => ⟨C.2.2.2.2.1 _ q.1, q.2⟩⟩)) hx h0 (C.2.2.2.2.1 _ hlink) (NW_use hcast (C.2.2.2.2.2.2.1 _ hcast)) hce hcv hcl (kk q H locs ls hP hD hS hl)
theorem z_runX {As : Array Value} {H : Heap} {locs : List Loc} {ls : Array Slot} {rm : Room} (hr : vx_Run p l e R s m args below meth c H locs k n rm.cells rm.slots (F0 m pc ls st) rest (zPost D A Qr As) (zX D A Xr) A) (hS : va_S A s.heap H locs) (hl : lv_has ls nL lv)
    (kk : ∀ (r : Option Value) (N' : Nat) (ad' : Nat → Nat) (g' : Nat → va_E), Qr r N' ad' g' → zV p l e R s m args below meth c Q D A nL N' ad' g' (k + rm.cells) (n + rm.slots) (pc + 3) (lv) (r.toList ++ rest))
    (kx : ∀ (E : String) (N' : Nat) (ad' : Nat → Nat) (g' : Nat → va_E), Xr E N' ad' g' → zU p l e R s m args below meth c Q D A nL N' ad' g' (k + rm.cells) (n + rm.slots) pc lv rest E) : W p l e R s m args below meth c H locs k n Q (F0 m pc ls st) := by
  intro T hT X
  rcases hr T hT X with ⟨v, st₀, t, T', L, h0, X', hL, e1, e2, ⟨r, N', ad', g', hv, hq, hP, hD, hF⟩, st9⟩ | ⟨q, st₀, t, T', L, E, ce, h0, X', hL, e1, e2, ⟨N', ad', g', hq, hP, hD, hF⟩, hce, hcv, hcl, st9⟩
  · cases hv
    obtain ⟨k1, k2, k3⟩ := vx_keep h0 e1 hS (fun q _ h => h) (fun q h => h) hL hF
    obtain ⟨t2, a1, b1⟩ := kk v N' ad' g' hq T'.heap (locs ++ L) ls (by rw [e1]; exact hP) hD k3 hl T' rfl X'
    exact ⟨t2, st9 t2 a1, b1⟩
  · obtain ⟨k1, k2, k3⟩ := vx_keep h0 e1 hS (fun q _ h => h) (fun q h => h) hL hF
    obtain ⟨t2, a1, b1⟩ := kx E N' ad' g' hq T'.heap (locs ++ L) ls q ce (by rw [e1]; exact hP) hD k3 hl (by rw [e1]; exact hce) hcv hcl T' rfl X'
    exact ⟨t2, st9.trans a1, b1⟩
theorem z_cVX (C : zC p s m args c cc nL own D A cs tt) {y : MethodName} {cb : ByteArray} {mL index : Nat} {ret : Option FieldType} {rm : Room} {As : List Value} {i a ci : Nat} {fs : List Value} {q : vw_C} (hM : zMX l y cb mL ret rm D A cs tt N ad g (.ref a :: As) Qr Xr) (hi : i < N) (ha : ad i = a) (hg : g i = oC ci fs) (hc : vwCl[ci]? = some q) (hq : q.1 = y.cls) (hw : zWv y cb mL ret) (hlk : Cond.methodLink own index y ∈ AW) (hd : y.cls ≠ "java/lang/invoke/MethodHandle" ∧ y.cls ≠ "java/lang/invoke/VarHandle" ∧ (parseMethodDescriptor y.desc).map (fun d => d.parameters.length) = some As.length) (hR : rm.frames + 1 ≤ R.frames ∧ 8 + (mL + 11) + rm.locals ≤ R.locals) (hrest : (rest.map fun v => v.category).sum ≤ 8) (hf : k + rm.cells ≤ R.cells ∧ n + rm.slots ≤ R.slots) (hdg : decode cc pc = .ok (.invokevirtual index, 3)) (hst : st = As.reverse ++ .ref a :: rest)
    (kx : ∀ (E : String) (N' : Nat) (ad' : Nat → Nat) (g' : Nat → va_E), Xr E N' ad' g' → zU p l e R s m args below meth c Q D A nL N' ad' g' (k + rm.cells) (n + rm.slots) pc lv rest E)
    (kk : ∀ (r : Option Value) (N' : Nat) (ad' : Nat → Nat) (g' : Nat → va_E), Qr r N' ad' g' → zV p l e R s m args below meth c Q D A nL N' ad' g' (k + rm.cells) (n + rm.slots) (pc + 3) (lv) (r.toList ++ rest)) : zV p l e R s m args below meth c Q D A nL N ad g k n (pc) (lv) (st) := fun H locs ls hP hD hS hl => by
  have hG : GoodIn AW (wsV own index y.cls y (Cond.code y cb mL ret :: AW)) := AW_in (fun w h => by
    rcases List.mem_append.mp h with h | h
    · rcases List.mem_cons.mp h with rfl | h
      · exact hlk
      · rcases List.mem_cons.mp h with rfl | h
        · exact hw.1
        · rcases List.mem_cons.mp h with rfl | h
          · exact hw.2.1
          · rcases List.mem_cons.mp h with rfl | h
            · exact hw.2.2.1
            · exact absurd h List.not_mem_nil
    · rcases List.mem_cons.mp h with rfl | h
      · exact hw.2.2.2
      · exact h)
  have hrc : ∃ cell : Cell, H[a]? = some cell ∧ cell.vm.isStatics = false ∧ s.vm.findClass y.cls = some cell.cls := by
    rw [← hq]; exact va_recv C.2.2.2.2.2.1 hP hc ((wl_at hi).trans (by rw [hg, ha]))
  exact z_runX (vx_runV (As := As) (rest := rest) ⟨C.1, C.2.1, C.2.2.1, C.2.2.2.1, C.2.2.2.2.1⟩ hM (cwV As.length C.2.2.2.2.1 hG rfl rfl rfl ⟨rfl, hd⟩ hR) ⟨zPre.blind, hrc, (z_preS C hP hD hS).2⟩ rfl rfl hl.1 hst (lv_room hrest) hdg hf) hS hl kk kx
theorem z_cSX (C : zC p s m args c cc nL own D A cs tt) {y : MethodName} {cb : ByteArray} {mL index : Nat} {ret : Option FieldType} {rm : Room} {As : List Value} (hM : zMX l y cb mL ret rm D A cs tt N ad g As Qr Xr) (hw : zWs y cb mL ret) (hlk : Cond.methodLink own index y ∈ AW) (hd : y.cls ≠ "java/lang/invoke/MethodHandle" ∧ y.cls ≠ "java/lang/invoke/VarHandle" ∧ (parseMethodDescriptor y.desc).map (fun d => d.parameters.length) = some As.length) (hR : rm.frames + 1 ≤ R.frames ∧ 8 + (mL + 11) + rm.locals ≤ R.locals) (hrest : (rest.map fun v => v.category).sum ≤ 8) (hf : k + rm.cells ≤ R.cells ∧ n + rm.slots ≤ R.slots) (hdg : decode cc pc = .ok (.invokestatic index, 3)) (hst : st = As.reverse ++ rest)
    (kx : ∀ (E : String) (N' : Nat) (ad' : Nat → Nat) (g' : Nat → va_E), Xr E N' ad' g' → zU p l e R s m args below meth c Q D A nL N' ad' g' (k + rm.cells) (n + rm.slots) pc lv rest E)
    (kk : ∀ (r : Option Value) (N' : Nat) (ad' : Nat → Nat) (g' : Nat → va_E), Qr r N' ad' g' → zV p l e R s m args below meth c Q D A nL N' ad' g' (k + rm.cells) (n + rm.slots) (pc + 3) (lv) (r.toList ++ rest)) : zV p l e R s m args below meth c Q D A nL N ad g k n (pc) (lv) (st) := fun H locs ls hP hD hS hl => by
  have hG : GoodIn AW (va_wsS own index y (Cond.code y cb mL ret :: AW)) := AW_in (fun w h => by
    rcases List.mem_append.mp h with h | h
    · rcases List.mem_cons.mp h with rfl | h
      · exact hlk
      · rcases List.mem_cons.mp h with rfl | h
        · exact hw.1
        · rcases List.mem_cons.mp h with rfl | h
          · exact hw.2.1
          · exact absurd h List.not_mem_nil
    · rcases List.mem_cons.mp h with rfl | h
      · exact hw.2.2
      · exact h)
  exact z_runX (vx_runS (As := As) (rest := rest) ⟨C.1, C.2.1, C.2.2.1, C.2.2.2.1, C.2.2.2.2.1⟩ hM (va_cwS As.length C.2.2.2.2.1 hG rfl rfl rfl hd hR) (z_preS C hP hD hS) rfl rfl hl.1 hst (lv_room hrest) hdg hf) hS hl kk kx
def zWw (y : MethodName) (cb : ByteArray) (mL : Nat) (ret : Option FieldType) (hh : List (Nat × Nat × Nat × Nat)) : Prop := Cond.static y ∈ AW ∧ Cond.initialized y.cls ∈ AW ∧ Cond.codeWith y cb mL ret hh ∈ AW
theorem z_cSW (C : zC p s m args c cc nL own D A cs tt) {y : MethodName} {cb : ByteArray} {mL index : Nat} {ret : Option FieldType} {rm : Room} {As : List Value} {hh : List (Nat × Nat × Nat × Nat)} (hM : zMW l y cb mL ret hh rm D A cs tt N ad g As Qr) (hw : zWw y cb mL ret hh) (hlk : Cond.methodLink own index y ∈ AW) (hd : y.cls ≠ "java/lang/invoke/MethodHandle" ∧ y.cls ≠ "java/lang/invoke/VarHandle" ∧ (parseMethodDescriptor y.desc).map (fun d => d.parameters.length) = some As.length) (hR : rm.frames + 1 ≤ R.frames ∧ 8 + (mL + 11) + rm.locals ≤ R.locals) (hrest : (rest.map fun v => v.category).sum ≤ 8) (hf : k + rm.cells ≤ R.cells ∧ n + rm.slots ≤ R.slots) (hdg : decode cc pc = .ok (.invokestatic index, 3)) (hst : st = As.reverse ++ rest)
    (kk : ∀ (r : Option Value) (N' : Nat) (ad' : Nat → Nat) (g' : Nat → va_E), Qr r N' ad' g' → zV p l e R s m args below meth c Q D A nL N' ad' g' (k + rm.cells) (n + rm.slots) (pc + 3) (lv) (r.toList ++ rest)) : zV p l e R s m args below meth c Q D A nL N ad g k n (pc) (lv) (st) := fun H locs ls hP hD hS hl => by
  have hG : GoodIn AW (va_wsS own index y (Cond.codeWith y cb mL ret hh :: AW)) := AW_in (fun w h => by
    rcases List.mem_append.mp h with h | h
    · rcases List.mem_cons.mp h with rfl | h
      · exact hlk
      · rcases List.mem_cons.mp h with rfl | h
        · exact hw.1
        · rcases List.mem_cons.mp h with rfl | h
          · exact hw.2.1
          · exact absurd h List.not_mem_nil
    · rcases List.mem_cons.mp h with rfl | h
      · exact hw.2.2
      · exact h)
  intro T hT X
  rcases vx_runSX (As := As) (rest := rest) ⟨C.1, C.2.1, C.2.2.1, C.2.2.2.1, C.2.2.2.2.1⟩ hM (vx_cwSW As.length C.2.2.2.2.1 hG rfl rfl rfl hd hR) (z_preS C hP hD hS) rfl rfl hl.1 hst (lv_room hrest) hdg hf T hT X with h | ⟨_, _, _, _, _, _, _, _, _, _, _, _, hF, _⟩
  · exact z_run (k := k) (n := n) (rm := rm) (As := As.toArray) (Qr := Qr) (fun T2 hT2 X2 => (vx_runSX (As := As) (rest := rest) ⟨C.1, C.2.1, C.2.2.1, C.2.2.2.1, C.2.2.2.2.1⟩ hM (vx_cwSW As.length C.2.2.2.2.1 hG rfl rfl rfl hd hR) (z_preS C hP hD hS) rfl rfl hl.1 hst (lv_room hrest) hdg hf T2 hT2 X2).elim (fun h => h) (fun ⟨_, _, _, _, _, _, _, _, _, _, _, _, hF, _⟩ => hF.elim)) hS hl kk T hT X
  · exact hF.elim
theorem z_thr (C : zC p s m args c cc nL own D A cs tt) (hl0 : l.stackTraces = false) {cls text : String} {ik is ic : Nat} (hcls : Bundle.fit cls = true) (hk : Cond.classLink own ik cls ∈ AW) (hini : Cond.initialized cls ∈ AW) (hstr : (own, is, text) ∈ SRL) (hat : ∀ w ∈ vx_atS own ic cls xNames, w ∈ AW ∨ w ∈ NW)
    (hgood : ∀ w ∈ Cond.classLink own ik cls :: Cond.initialized cls :: vx_atS own ic cls xNames, vx_ot w = true)
    (d0 : decode cc pc = .ok (.new ik, 3)) (d3 : decode cc (pc + 3) = .ok (.dup, 1)) (d4 : decode cc (pc + 4) = .ok (.ldc is, 2)) (d6 : decode cc (pc + 6) = .ok (.invokespecial ic, 3)) (d9 : decode cc (pc + 9) = .ok (.athrow, 1))
    (hxt : ∀ x ∈ c.exceptionTable.toList, False) (hRframes : 5 < R.frames) (hRlocals : (rest.map fun v => v.category).sum + 82 ≤ R.locals) (hRcells : k + 1 ≤ R.cells) (hRslots : n + 6 ≤ R.slots) (hlocks : meth.locks = false) (hmc : k + 1 ≤ mc) (hms : n + 6 ≤ ms) (hq : Xr cls N ad g) : zV p l e R s m args below meth c (vx_MQ below (zPost D A Qr) (zX D A Xr) args s mc ms A) D A nL N ad g k n (pc) (lv) (rest) := fun H locs ls hP hD hS hl => by
  obtain ⟨sa, hs⟩ := C.2.2.2.2.2.2.2.2.2.2.2.1 _ hstr
  exact vx_throwS C.1 C.2.1 hl0 C.2.2.2.1 hcls (by decide +kernel : ∀ n ∈ xNames, Bundle.fit n = true) (C.2.2.2.2.1 _ hk) (C.2.2.2.2.1 _ hini) hs (fun w h => (hat w h).elim (C.2.2.2.2.1 w) (fun q => NW_use q (C.2.2.2.2.2.2.1 _ q))) hgood C.2.2.2.2.2.2.2.2.2.2.1.1 C.2.2.2.2.2.2.2.2.2.2.1.2 hS (hl.1.trans C.2.2.1.symm) d0 d3 d4 d6 d9 (fun x hx => (hxt x hx).elim) hRframes hRlocals hRcells hRslots hlocks (fun t hal hz hold => ⟨N, ad, g, hq, hP.kept (fun k9 q9 h9 => hold q9.1 ((hP k9 q9 h9).lt)), hD, ⟨Nat.le_trans hS.1 hz, fun q h1 h2 => (hold q (Nat.lt_of_lt_of_le h1 hS.1)).trans (hS.2.1 q h1 h2)⟩⟩) hS.2.2 hmc hms
theorem z_thrW (C : zC p s m args c cc nL own D A cs tt) (hl0 : l.stackTraces = false) {cls text : String} {ik is ic : Nat} (hcls : Bundle.fit cls = true) (hk : Cond.classLink own ik cls ∈ AW) (hini : Cond.initialized cls ∈ AW) (hstr : (own, is, text) ∈ SRL) (hat : ∀ w ∈ vx_atS own ic cls xNames, w ∈ AW ∨ w ∈ NW)
    (hgood : ∀ w ∈ Cond.classLink own ik cls :: Cond.initialized cls :: vx_atS own ic cls xNames, vx_ot w = true)
    (d0 : decode cc pc = .ok (.new ik, 3)) (d3 : decode cc (pc + 3) = .ok (.dup, 1)) (d4 : decode cc (pc + 4) = .ok (.ldc_w is, 3)) (d6 : decode cc (pc + 7) = .ok (.invokespecial ic, 3)) (d9 : decode cc (pc + 10) = .ok (.athrow, 1))
    (hxt : ∀ x ∈ c.exceptionTable.toList, False) (hRframes : 5 < R.frames) (hRlocals : (rest.map fun v => v.category).sum + 82 ≤ R.locals) (hRcells : k + 1 ≤ R.cells) (hRslots : n + 6 ≤ R.slots) (hlocks : meth.locks = false) (hmc : k + 1 ≤ mc) (hms : n + 6 ≤ ms) (hq : Xr cls N ad g) : zV p l e R s m args below meth c (vx_MQ below (zPost D A Qr) (zX D A Xr) args s mc ms A) D A nL N ad g k n (pc) (lv) (rest) := fun H locs ls hP hD hS hl => by
  obtain ⟨sa, hs⟩ := C.2.2.2.2.2.2.2.2.2.2.2.1 _ hstr
  exact vx_throwSW C.1 C.2.1 hl0 C.2.2.2.1 hcls (by decide +kernel : ∀ n ∈ xNames, Bundle.fit n = true) (C.2.2.2.2.1 _ hk) (C.2.2.2.2.1 _ hini) hs (fun w h => (hat w h).elim (C.2.2.2.2.1 w) (fun q => NW_use q (C.2.2.2.2.2.2.1 _ q))) hgood C.2.2.2.2.2.2.2.2.2.2.1.1 C.2.2.2.2.2.2.2.2.2.2.1.2 hS (hl.1.trans C.2.2.1.symm) d0 d3 d4 d6 d9 (fun x hx => (hxt x hx).elim) hRframes hRlocals hRcells hRslots hlocks (fun t hal hz hold => ⟨N, ad, g, hq, hP.kept (fun k9 q9 h9 => hold q9.1 ((hP k9 q9 h9).lt)), hD, ⟨Nat.le_trans hS.1 hz, fun q h1 h2 => (hold q (Nat.lt_of_lt_of_le h1 hS.1)).trans (hS.2.1 q h1 h2)⟩⟩) hS.2.2 hmc hms
theorem z_thrN (C : zC p s m args c cc nL own D A cs tt) (hl0 : l.stackTraces = false) {cls text : String} {ik is ic : Nat} {ix : Nat} {rx : ByteArray} (x0 : decode rx 0 = .ok (.aload_n 0, 1)) (x1 : decode rx 1 = .ok (.aload_n 1, 1)) (x2 : decode rx 2 = .ok (.invokespecial ix, 3)) (x5 : decode rx 5 = .ok (.return_, 1)) (hcls : Bundle.fit cls = true) (hk : Cond.classLink own ik cls ∈ AW) (hini : Cond.initialized cls ∈ AW) (hstr : (own, is, text) ∈ SRL) (hat : ∀ w ∈ zx_at own ic cls ix rx xNames, w ∈ AW ∨ w ∈ NW)
    (hgood : ∀ w ∈ Cond.classLink own ik cls :: Cond.initialized cls :: zx_at own ic cls ix rx xNames, vx_ot w = true)
    (d0 : decode cc pc = .ok (.new ik, 3)) (d3 : decode cc (pc + 3) = .ok (.dup, 1)) (d4 : decode cc (pc + 4) = .ok (.ldc is, 2)) (d6 : decode cc (pc + 6) = .ok (.invokespecial ic, 3)) (d9 : decode cc (pc + 9) = .ok (.athrow, 1))
    (hxt : ∀ x ∈ c.exceptionTable.toList, False) (hRframes : 5 < R.frames) (hRlocals : (rest.map fun v => v.category).sum + 82 ≤ R.locals) (hRcells : k + 1 ≤ R.cells) (hRslots : n + 6 ≤ R.slots) (hlocks : meth.locks = false) (hmc : k + 1 ≤ mc) (hms : n + 6 ≤ ms) (hq : Xr cls N ad g) : zV p l e R s m args below meth c (vx_MQ below (zPost D A Qr) (zX D A Xr) args s mc ms A) D A nL N ad g k n (pc) (lv) (rest) := fun H locs ls hP hD hS hl => by
  obtain ⟨sa, hs⟩ := C.2.2.2.2.2.2.2.2.2.2.2.1 _ hstr
  exact zx_throwS C.1 C.2.1 hl0 x0 x1 x2 x5 C.2.2.2.1 hcls (by decide +kernel : ∀ n ∈ xNames, Bundle.fit n = true) (C.2.2.2.2.1 _ hk) (C.2.2.2.2.1 _ hini) hs (fun w h => (hat w h).elim (C.2.2.2.2.1 w) (fun q => NW_use q (C.2.2.2.2.2.2.1 _ q))) hgood C.2.2.2.2.2.2.2.2.2.2.1.1 C.2.2.2.2.2.2.2.2.2.2.1.2 hS (hl.1.trans C.2.2.1.symm) d0 d3 d4 d6 d9 (fun x hx => (hxt x hx).elim) hRframes hRlocals hRcells hRslots hlocks (fun t hal hz hold => ⟨N, ad, g, hq, hP.kept (fun k9 q9 h9 => hold q9.1 ((hP k9 q9 h9).lt)), hD, ⟨Nat.le_trans hS.1 hz, fun q h1 h2 => (hold q (Nat.lt_of_lt_of_le h1 hS.1)).trans (hS.2.1 q h1 h2)⟩⟩) hS.2.2 hmc hms
theorem z_thrNW (C : zC p s m args c cc nL own D A cs tt) (hl0 : l.stackTraces = false) {cls text : String} {ik is ic : Nat} {ix : Nat} {rx : ByteArray} (x0 : decode rx 0 = .ok (.aload_n 0, 1)) (x1 : decode rx 1 = .ok (.aload_n 1, 1)) (x2 : decode rx 2 = .ok (.invokespecial ix, 3)) (x5 : decode rx 5 = .ok (.return_, 1)) (hcls : Bundle.fit cls = true) (hk : Cond.classLink own ik cls ∈ AW) (hini : Cond.initialized cls ∈ AW) (hstr : (own, is, text) ∈ SRL) (hat : ∀ w ∈ zx_at own ic cls ix rx xNames, w ∈ AW ∨ w ∈ NW)
    (hgood : ∀ w ∈ Cond.classLink own ik cls :: Cond.initialized cls :: zx_at own ic cls ix rx xNames, vx_ot w = true)
    (d0 : decode cc pc = .ok (.new ik, 3)) (d3 : decode cc (pc + 3) = .ok (.dup, 1)) (d4 : decode cc (pc + 4) = .ok (.ldc_w is, 3)) (d6 : decode cc (pc + 7) = .ok (.invokespecial ic, 3)) (d9 : decode cc (pc + 10) = .ok (.athrow, 1))
    (hxt : ∀ x ∈ c.exceptionTable.toList, False) (hRframes : 5 < R.frames) (hRlocals : (rest.map fun v => v.category).sum + 82 ≤ R.locals) (hRcells : k + 1 ≤ R.cells) (hRslots : n + 6 ≤ R.slots) (hlocks : meth.locks = false) (hmc : k + 1 ≤ mc) (hms : n + 6 ≤ ms) (hq : Xr cls N ad g) : zV p l e R s m args below meth c (vx_MQ below (zPost D A Qr) (zX D A Xr) args s mc ms A) D A nL N ad g k n (pc) (lv) (rest) := fun H locs ls hP hD hS hl => by
  obtain ⟨sa, hs⟩ := C.2.2.2.2.2.2.2.2.2.2.2.1 _ hstr
  exact zx_throwSW C.1 C.2.1 hl0 x0 x1 x2 x5 C.2.2.2.1 hcls (by decide +kernel : ∀ n ∈ xNames, Bundle.fit n = true) (C.2.2.2.2.1 _ hk) (C.2.2.2.2.1 _ hini) hs (fun w h => (hat w h).elim (C.2.2.2.2.1 w) (fun q => NW_use q (C.2.2.2.2.2.2.1 _ q))) hgood C.2.2.2.2.2.2.2.2.2.2.1.1 C.2.2.2.2.2.2.2.2.2.2.1.2 hS (hl.1.trans C.2.2.1.symm) d0 d3 d4 d6 d9 (fun x hx => (hxt x hx).elim) hRframes hRlocals hRcells hRslots hlocks (fun t hal hz hold => ⟨N, ad, g, hq, hP.kept (fun k9 q9 h9 => hold q9.1 ((hP k9 q9 h9).lt)), hD, ⟨Nat.le_trans hS.1 hz, fun q h1 h2 => (hold q (Nat.lt_of_lt_of_le h1 hS.1)).trans (hS.2.1 q h1 h2)⟩⟩) hS.2.2 hmc hms
end ZX
theorem at_IA : ∀ w ∈ vx_atS RX9 90 eIA xNames, w ∈ AW ∨ w ∈ NW := by decide +kernel
abbrev nsB : ByteArray := prog_34_method_4_code
theorem ns0 : decode nsB 0 = .ok (.aload_n 0, 1) := by decide +kernel
theorem ns1 : decode nsB 1 = .ok (.aload_n 1, 1) := by decide +kernel
theorem ns2 : decode nsB 2 = .ok (.invokespecial 13, 3) := by decide +kernel
theorem ns5 : decode nsB 5 = .ok (.return_, 1) := by decide +kernel
theorem at_NS : ∀ w ∈ zx_at RX9 169 eNS 13 nsB xNames, w ∈ AW ∨ w ∈ NW := by decide +kernel
theorem gd_IA : ∀ w ∈ Cond.classLink RX9 86 eIA :: Cond.initialized eIA :: vx_atS RX9 90 eIA xNames, vx_ot w = true := by decide +kernel
theorem gd_NS : ∀ w ∈ Cond.classLink RX9 165 eNS :: Cond.initialized eNS :: zx_at RX9 169 eNS 13 nsB xNames, vx_ot w = true := by decide +kernel
