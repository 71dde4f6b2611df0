section
-- 15.exc.lean.txt
abbrev zXR : Type := String → Nat → (Nat → Nat) → (Nat → va_E) → Prop
def zX (D : va_G) (A : Nat → Prop) (Xr : zXR) : String → State → State → Prop := fun E st t => ∃ (N' : Nat) (ad' : Nat → Nat) (g' : Nat → va_E), Xr E N' ad' g' ∧ va_P D vwCl (wl N' ad' g') t.heap ∧ va_D A (wl N' ad' g') ∧ va_F A st t
def zMX (l : Launch) (y : MethodName) (cc : ByteArray) (mL : Nat) (ret : Option FieldType) (rm : Room) (D : va_G) (A : Nat → Prop) (cs : Nat → ClassId) (tt : Nat) (N : Nat) (ad : Nat → Nat) (g : Nat → va_E) (avs : List Value) (Qr : zR) (Xr : zXR) : Prop := vx_Met l y (.code y cc mL ret :: AW) rm (zPre D A cs tt N ad g avs) (zPost D A Qr) (zX D A Xr) rm.cells rm.slots A
def zMW (l : Launch) (y : MethodName) (cc : ByteArray) (mL : Nat) (ret : Option FieldType) (hh : List (Nat × Nat × Nat × Nat)) (rm : Room) (D : va_G) (A : Nat → Prop) (cs : Nat → ClassId) (tt : Nat) (N : Nat) (ad : Nat → Nat) (g : Nat → va_E) (avs : List Value) (Qr : zR) : Prop := vx_Met l y (.codeWith y cc mL ret hh :: AW) rm (zPre D A cs tt N ad g avs) (zPost D A Qr) (fun _ _ _ => False) rm.cells rm.slots A
def eNS : String := "java/util/NoSuchElementException"
def eIA : String := "java/lang/IllegalArgumentException"
def xNames : List String := ["java/lang/RuntimeException", "java/lang/Exception"]
theorem z_ofX {l : Launch} {y : MethodName} {cc : ByteArray} {mL : Nat} {ret : Option FieldType} {rm : Room} {D : va_G} {A : Nat → Prop} {cs : Nat → ClassId} {tt N : Nat} {ad : Nat → Nat} {g : Nat → va_E} {avs : List Value} {Qr : zR} {Xr : zXR} (hy : plainName y.cls = true) (hlen : (lg_sl avs).length ≤ mL)
    (body : ∀ (p : Program) (e : Env) (s : State) (m : MethodId) (below : List Frame) (meth : Method) (c : Code), zC p s m avs.toArray c cc mL y.cls D A cs tt → meth.sig.returnType = ret → meth.locks = false → (∀ x ∈ c.exceptionTable.toList, False) →
      zV p l e rm s m avs.toArray below meth c (vx_MQ below (zPost D A Qr) (zX D A Xr) avs.toArray s rm.cells rm.slots A) D A mL N ad g 0 0 0 (lv_args 0 avs) []) : zMX l y cc mL ret rm D A cs tt N ad g avs Qr Xr := by
  refine vx_ofW (cc := cc) (maxL := mL) (ret := ret) hy rfl ?_
  intro p e s m args below meth c s₁ B hml hxt hv
  obtain ⟨rfl, hE, hP, hD⟩ := hv
  have hts := atoms_spec (ws := Cond.code y cc mL ret :: AW) B.pre
  have hl := lv_entry avs (n := mL) hlen
  rw [lg_entry_eq]
  exact body p e s m below meth c ⟨B.exec, B.bytes, hml, findClass_of_methodNamed B.named, fun w h => hts w (List.mem_cons_of_mem _ h), hE⟩ B.returns B.notSynchronized hxt s.heap [] _ hP hD va_S.rf hl
theorem z_ofW {l : Launch} {y : MethodName} {cc : ByteArray} {mL : Nat} {ret : Option FieldType} {hh : List (Nat × Nat × Nat × Nat)} {rm : Room} {D : va_G} {A : Nat → Prop} {cs : Nat → ClassId} {tt N : Nat} {ad : Nat → Nat} {g : Nat → va_E} {avs : List Value} {Qr : zR} (hy : plainName y.cls = true) (hlen : (lg_sl avs).length ≤ mL)
    (body : ∀ (p : Program) (e : Env) (s : State) (m : MethodId) (below : List Frame) (meth : Method) (c : Code), zC p s m avs.toArray c cc mL y.cls D A cs tt → meth.sig.returnType = ret → meth.locks = false → c.exceptionTable.toList = tableOf hh →
      zV p l e rm s m avs.toArray below meth c (MQ below (zPost D A Qr) avs.toArray s rm.cells rm.slots A) D A mL N ad g 0 0 0 (lv_args 0 avs) []) : zMW l y cc mL ret hh rm D A cs tt N ad g avs Qr := by
  refine vx_ofWH (cc := cc) (maxL := mL) (ret := ret) (hh := hh) hy rfl ?_
  intro p e s m args below meth c s₁ B hml hv
  obtain ⟨rfl, hE, hP, hD⟩ := hv
  have hts := atoms_spec (ws := Cond.codeWith y cc mL ret hh :: AW) B.pre
  have hl := lv_entry avs (n := mL) hlen
  rw [lg_entry_eq]
  exact vx_ret (body p e s m below meth c ⟨B.exec, B.bytes, hml, findClass_of_methodNamed B.named, fun w h => hts w (List.mem_cons_of_mem _ h), hE⟩ B.returns B.notSynchronized (vx_table (x := y) (y := y) B (hts _ List.mem_cons_self)) s.heap [] _ hP hD va_S.rf hl)
section ZX
variable {p : Program} {l : Launch} {e : Env} {R : Room} {s : State} {m : MethodId} {args : Array Value} {below : List Frame} {meth : Method} {c : Code} {Q : State → Prop} {D : va_G} {A : Nat → Prop} {cs : Nat → ClassId} {tt : Nat} {cc : ByteArray} {nL : Nat} {own : String} {N : Nat} {ad : Nat → Nat} {g : Nat → va_E} {k n pc : Nat} {lv lv' : List (Nat × Value)} {rest st : List Value} {Qr : zR} {Xr Xr2 : zXR} {mc ms : Nat} {E : String}
theorem z_rX (kk : zV p l e R s m args below meth c (MQ below (zPost D A Qr) args s mc ms A) D A nL N ad g k n (pc) (lv) (st)) : zV p l e R s m args below meth c (vx_MQ below (zPost D A Qr) (zX D A Xr) args s mc ms A) D A nL N ad g k n (pc) (lv) (st) := fun H locs ls hP hD hS hl => vx_ret (kk H locs ls hP hD hS hl)
/-- at pc something was thrown: the world, the locals, what is left of the stack -/
def zU (p : Program) (l : Launch) (e : Env) (R : Room) (s : State) (m : MethodId) (args : Array Value) (below : List Frame) (meth : Method) (c : Code) (Q : State → Prop) (D : va_G) (A : Nat → Prop) (nL : Nat) (N : Nat) (ad : Nat → Nat) (g : Nat → va_E) (k n pc : Nat) (lv : List (Nat × Value)) (rest : List Value) (E : String) : Prop :=
  ∀ (H : Heap) (locs : List Loc) (ls : Array Slot) (q : Addr) (ce : Cell), va_P D vwCl (wl N ad g) H → va_D A (wl N ad g) → va_S A s.heap H locs → lv_has ls nL lv → H[q]? = some ce → ce.vm = .none → s.vm.findClass E = some ce.cls → vx_W p l e R s m args below meth c H locs k n Q (F0 m pc ls rest) q
theorem z_uout (C : zC p s m args c cc nL own D A cs tt) (hxt : ∀ x ∈ c.exceptionTable.toList, False) (hlocks : meth.locks = false) (hk : k ≤ mc) (hn : n ≤ ms) (hq : Xr E N ad g) : zU p l e R s m args below meth c (vx_MQ below (zPost D A Qr) (zX D A Xr) args s mc ms A) D A nL N ad g k n pc lv rest E :=
  fun H locs ls q ce hP hD hS hl hce hcv hcl => vx_out (fun x hx => (hxt x hx).elim) hlocks hce hcv hcl (fun t ht hal => ⟨N, ad, g, hq, by rw [ht]; exact hP, hD, hS.F ht⟩) hS.2.2 hk hn
theorem z_ucatch (C : zC p s m args c cc nL own D A cs tt) {name : String} (pre : List ExceptionTableEntry) (x : ExceptionTableEntry) (suf : List ExceptionTableEntry) (hsplit : c.exceptionTable.toList = pre ++ x :: suf) (hpass : ∀ z ∈ pre, covers z pc = false ∨ (z.catchType ≠ 0 ∧ ∃ nm : String, Cond.classLink own z.catchType nm ∈ AW ∧ va_Nc E nm s)) (hx : covers x pc = true) (h0 : x.catchType ≠ 0) (hlink : Cond.classLink own x.catchType name ∈ AW) (hcast : Cond.castable E name ∈ NW)
    (kk : ∀ q : Nat, zV p l e R s m args below meth c Q D A nL N ad g k n (x.handlerPc) (lv) ([.ref q])) : zU p l e R s m args below meth c Q D A nL N ad g k n pc lv rest E :=
  fun H locs ls q ce hP hD hS hl hce hcv hcl => vx_catch C.2.2.2.1 pre x suf hsplit (fun z hz => (hpass z hz).imp id (fun h => ⟨h.1, h.2.imp fun nm q => ⟨C.2.2.2.2.1 _ q.1, q.2⟩⟩)) hx h0 (C.2.2.2.2.1 _ hlink) (NW_use hcast (C.2.2.2.2.2.2.1 _ hcast)) hce hcv hcl (kk q H locs ls hP hD hS hl)
theorem z_runX {As : Array Value} {H : Heap} {locs : List Loc} {ls : Array Slot} {rm : Room} (hr : vx_Run p l e R s m args below meth c H locs k n rm.cells rm.slots (F0 m pc ls st) rest (zPost D A Qr As) (zX D A Xr) A) (hS : va_S A s.heap H locs) (hl : lv_has ls nL lv)
    (kk : ∀ (r : Option Value) (N' : Nat) (ad' : Nat → Nat) (g' : Nat → va_E), Qr r N' ad' g' → zV p l e R s m args below meth c Q D A nL N' ad' g' (k + rm.cells) (n + rm.slots) (pc + 3) (lv) (r.toList ++ rest))
    (kx : ∀ (E : String) (N' : Nat) (ad' : Nat → Nat) (g' : Nat → va_E), Xr E N' ad' g' → zU p l e R s m args below meth c Q D A nL N' ad' g' (k + rm.cells) (n + rm.slots) pc lv rest E) : W p l e R s m args below meth c H locs k n Q (F0 m pc ls st) := by
  intro T hT X
  rcases hr T hT X with ⟨v, st₀, t, T', L, h0, X', hL, e1, e2, ⟨r, N', ad', g', hv, hq, hP, hD, hF⟩, st9⟩ | ⟨q, st₀, t, T', L, E, ce, h0, X', hL, e1, e2, ⟨N', ad', g', hq, hP, hD, hF⟩, hce, hcv, hcl, st9⟩
  · cases hv
    obtain ⟨k1, k2, k3⟩ := vx_keep h0 e1 hS (fun q _ h => h) (fun q h => h) hL hF
    obtain ⟨t2, a1, b1⟩ := kk v N' ad' g' hq T'.heap (locs ++ L) ls (by rw [e1]; exact hP) hD k3 hl T' rfl X'
    exact ⟨t2, st9 t2 a1, b1⟩
  · obtain ⟨k1, k2, k3⟩ := vx_keep h0 e1 hS (fun q _ h => h) (fun q h => h) hL hF
    obtain ⟨t2, a1, b1⟩ := kx E N' ad' g' hq T'.heap (locs ++ L) ls q ce (by rw [e1]; exact hP) hD k3 hl (by rw [e1]; exact hce) hcv hcl T' rfl X'
    exact ⟨t2, st9.trans a1, b1⟩
theorem z_cVX (C : zC p s m args c cc nL own D A cs tt) {y : MethodName} {cb : ByteArray} {mL index : Nat} {ret : Option FieldType} {rm : Room} {As : List Value} {i a ci : Nat} {fs : List Value} {q : vw_C} (hM : zMX l y cb mL ret rm D A cs tt N ad g (.ref a :: As) Qr Xr) (hi : i < N) (ha : ad i = a) (hg : g i = oC ci fs) (hc : vwCl[ci]? = some q) (hq : q.1 = y.cls) (hw : zWv y cb mL ret) (hlk : Cond.methodLink own index y ∈ AW) (hd : y.cls ≠ "java/lang/invoke/MethodHandle" ∧ y.cls ≠ "java/lang/invoke/VarHandle" ∧ (parseMethodDescriptor y.desc).map (fun d => d.parameters.length) = some As.length) (hR : rm.frames + 1 ≤ R.frames ∧ 8 + (mL + 11) + rm.locals ≤ R.locals) (hrest : (rest.map fun v => v.category).sum ≤ 8) (hf : k + rm.cells ≤ R.cells ∧ n + rm.slots ≤ R.slots) (hdg : decode cc pc = .ok (.invokevirtual index, 3)) (hst : st = As.reverse ++ .ref a :: rest)
    (kx : ∀ (E : String) (N' : Nat) (ad' : Nat → Nat) (g' : Nat → va_E), Xr E N' ad' g' → zU p l e R s m args below meth c Q D A nL N' ad' g' (k + rm.cells) (n + rm.slots) pc lv rest E)
    (kk : ∀ (r : Option Value) (N' : Nat) (ad' : Nat → Nat) (g' : Nat → va_E), Qr r N' ad' g' → zV p l e R s m args below meth c Q D A nL N' ad' g' (k + rm.cells) (n + rm.slots) (pc + 3) (lv) (r.toList ++ rest)) : zV p l e R s m args below meth c Q D A nL N ad g k n (pc) (lv) (st) := fun H locs ls hP hD hS hl => by
  have hG : GoodIn AW (wsV own index y.cls y (Cond.code y cb mL ret :: AW)) := AW_in (fun w h => by
    rcases List.mem_append.mp h with h | h
    · rcases List.mem_cons.mp h with rfl | h
      · exact hlk
      · rcases List.mem_cons.mp h with rfl | h
        · exact hw.1
        · rcases List.mem_cons.mp h with rfl | h
          · exact hw.2.1
          · rcases List.mem_cons.mp h with rfl | h
            · exact hw.2.2.1
            · exact absurd h List.not_mem_nil
    · rcases List.mem_cons.mp h with rfl | h
      · exact hw.2.2.2
      · exact h)
  have hrc : ∃ cell : Cell, H[a]? = some cell ∧ cell.vm.isStatics = false ∧ s.vm.findClass y.cls = some cell.cls := by
    rw [← hq]; exact va_recv C.2.2.2.2.2.1 hP hc ((wl_at hi).trans (by rw [hg, ha]))
  exact z_runX (vx_runV (As := As) (rest := rest) ⟨C.1, C.2.1, C.2.2.1, C.2.2.2.1, C.2.2.2.2.1⟩ hM (cwV As.length C.2.2.2.2.1 hG rfl rfl rfl ⟨rfl, hd⟩ hR) ⟨zPre.blind, hrc, (z_preS C hP hD hS).2⟩ rfl rfl hl.1 hst (lv_room hrest) hdg hf) hS hl kk kx
theorem z_cSX (C : zC p s m args c cc nL own D A cs tt) {y : MethodName} {cb : ByteArray} {mL index : Nat} {ret : Option FieldType} {rm : Room} {As : List Value} (hM : zMX l y cb mL ret rm D A cs tt N ad g As Qr Xr) (hw : zWs y cb mL ret) (hlk : Cond.methodLink own index y ∈ AW) (hd : y.cls ≠ "java/lang/invoke/MethodHandle" ∧ y.cls ≠ "java/lang/invoke/VarHandle" ∧ (parseMethodDescriptor y.desc).map (fun d => d.parameters.length) = some As.length) (hR : rm.frames + 1 ≤ R.frames ∧ 8 + (mL + 11) + rm.locals ≤ R.locals) (hrest : (rest.map fun v => v.category).sum ≤ 8) (hf : k + rm.cells ≤ R.cells ∧ n + rm.slots ≤ R.slots) (hdg : decode cc pc = .ok (.invokestatic index, 3)) (hst : st = As.reverse ++ rest)
    (kx : ∀ (E : String) (N' : Nat) (ad' : Nat → Nat) (g' : Nat → va_E), Xr E N' ad' g' → zU p l e R s m args below meth c Q D A nL N' ad' g' (k + rm.cells) (n + rm.slots) pc lv rest E)
    (kk : ∀ (r : Option Value) (N' : Nat) (ad' : Nat → Nat) (g' : Nat → va_E), Qr r N' ad' g' → zV p l e R s m args below meth c Q D A nL N' ad' g' (k + rm.cells) (n + rm.slots) (pc + 3) (lv) (r.toList ++ rest)) : zV p l e R s m args below meth c Q D A nL N ad g k n (pc) (lv) (st) := fun H locs ls hP hD hS hl => by
  have hG : GoodIn AW (va_wsS own index y (Cond.code y cb mL ret :: AW)) := AW_in (fun w h => by
    rcases List.mem_append.mp h with h | h
    · rcases List.mem_cons.mp h with rfl | h
      · exact hlk
      · rcases List.mem_cons.mp h with rfl | h
        · exact hw.1
        · rcases List.mem_cons.mp h with rfl | h
          · exact hw.2.1
          · exact absurd h List.not_mem_nil
    · rcases List.mem_cons.mp h with rfl | h
      · exact hw.2.2
      · exact h)
  exact z_runX (vx_runS (As := As) (rest := rest) ⟨C.1, C.2.1, C.2.2.1, C.2.2.2.1, C.2.2.2.2.1⟩ hM (va_cwS As.length C.2.2.2.2.1 hG rfl rfl rfl hd hR) (z_preS C hP hD hS) rfl rfl hl.1 hst (lv_room hrest) hdg hf) hS hl kk kx
def zWw (y : MethodName) (cb : ByteArray) (mL : Nat) (ret : Option FieldType) (hh : List (Nat × Nat × Nat × Nat)) : Prop := Cond.static y ∈ AW ∧ Cond.initialized y.cls ∈ AW ∧ Cond.codeWith y cb mL ret hh ∈ AW
theorem z_cSW (C : zC p s m args c cc nL own D A cs tt) {y : MethodName} {cb : ByteArray} {mL index : Nat} {ret : Option FieldType} {rm : Room} {As : List Value} {hh : List (Nat × Nat × Nat × Nat)} (hM : zMW l y cb mL ret hh rm D A cs tt N ad g As Qr) (hw : zWw y cb mL ret hh) (hlk : Cond.methodLink own index y ∈ AW) (hd : y.cls ≠ "java/lang/invoke/MethodHandle" ∧ y.cls ≠ "java/lang/invoke/VarHandle" ∧ (parseMethodDescriptor y.desc).map (fun d => d.parameters.length) = some As.length) (hR : rm.frames + 1 ≤ R.frames ∧ 8 + (mL + 11) + rm.locals ≤ R.locals) (hrest : (rest.map fun v => v.category).sum ≤ 8) (hf : k + rm.cells ≤ R.cells ∧ n + rm.slots ≤ R.slots) (hdg : decode cc pc = .ok (.invokestatic index, 3)) (hst : st = As.reverse ++ rest)
    (kk : ∀ (r : Option Value) (N' : Nat) (ad' : Nat → Nat) (g' : Nat → va_E), Qr r N' ad' g' → zV p l e R s m args below meth c Q D A nL N' ad' g' (k + rm.cells) (n + rm.slots) (pc + 3) (lv) (r.toList ++ rest)) : zV p l e R s m args below meth c Q D A nL N ad g k n (pc) (lv) (st) := fun H locs ls hP hD hS hl => by
  have hG : GoodIn AW (va_wsS own index y (Cond.codeWith y cb mL ret hh :: AW)) := AW_in (fun w h => by
    rcases List.mem_append.mp h with h | h
    · rcases List.mem_cons.mp h with rfl | h
      · exact hlk
      · rcases List.mem_cons.mp h with rfl | h
        · exact hw.1
        · rcases List.mem_cons.mp h with rfl | h
          · exact hw.2.1
          · exact absurd h List.not_mem_nil
    · rcases List.mem_cons.mp h with rfl | h
      · exact hw.2.2
      · exact h)
  intro T hT X
  rcases vx_runSX (As := As) (rest := rest) ⟨C.1, C.2.1, C.2.2.1, C.2.2.2.1, C.2.2.2.2.1⟩ hM (vx_cwSW As.length C.2.2.2.2.1 hG rfl rfl rfl hd hR) (z_preS C hP hD hS) rfl rfl hl.1 hst (lv_room hrest) hdg hf T hT X with h | ⟨_, _, _, _, _, _, _, _, _, _, _, _, hF, _⟩
  · exact z_run (k := k) (n := n) (rm := rm) (As := As.toArray) (Qr := Qr) (fun T2 hT2 X2 => (vx_runSX (As := As) (rest := rest) ⟨C.1, C.2.1, C.2.2.1, C.2.2.2.1, C.2.2.2.2.1⟩ hM (vx_cwSW As.length C.2.2.2.2.1 hG rfl rfl rfl hd hR) (z_preS C hP hD hS) rfl rfl hl.1 hst (lv_room hrest) hdg hf T2 hT2 X2).elim (fun h => h) (fun ⟨_, _, _, _, _, _, _, _, _, _, _, _, hF, _⟩ => hF.elim)) hS hl kk T hT X
  · exact hF.elim
theorem z_thr (C : zC p s m args c cc nL own D A cs tt) (hl0 : l.stackTraces = false) {cls text : String} {ik is ic : Nat} (hcls : Bundle.fit cls = true) (hk : Cond.classLink own ik cls ∈ AW) (hini : Cond.initialized cls ∈ AW) (hstr : (own, is, text) ∈ SRL) (hat : ∀ w ∈ vx_atS own ic cls xNames, w ∈ AW ∨ w ∈ NW)
    (hgood : ∀ w ∈ Cond.classLink own ik cls :: Cond.initialized cls :: vx_atS own ic cls xNames, vx_ot w = true)
    (d0 : decode cc pc = .ok (.new ik, 3)) (d3 : decode cc (pc + 3) = .ok (.dup, 1)) (d4 : decode cc (pc + 4) = .ok (.ldc is, 2)) (d6 : decode cc (pc + 6) = .ok (.invokespecial ic, 3)) (d9 : decode cc (pc + 9) = .ok (.athrow, 1))
    (hxt : ∀ x ∈ c.exceptionTable.toList, False) (hRframes : 5 < R.frames) (hRlocals : (rest.map fun v => v.category).sum + 82 ≤ R.locals) (hRcells : k + 1 ≤ R.cells) (hRslots : n + 6 ≤ R.slots) (hlocks : meth.locks = false) (hmc : k + 1 ≤ mc) (hms : n + 6 ≤ ms) (hq : Xr cls N ad g) : zV p l e R s m args below meth c (vx_MQ below (zPost D A Qr) (zX D A Xr) args s mc ms A) D A nL N ad g k n (pc) (lv) (rest) := fun H locs ls hP hD hS hl => by
  obtain ⟨sa, hs⟩ := C.2.2.2.2.2.2.2.2.2.2.2.1 _ hstr
  exact vx_throwS C.1 C.2.1 hl0 C.2.2.2.1 hcls (by decide +kernel : ∀ n ∈ xNames, Bundle.fit n = true) (C.2.2.2.2.1 _ hk) (C.2.2.2.2.1 _ hini) hs (fun w h => (hat w h).elim (C.2.2.2.2.1 w) (fun q => NW_use q (C.2.2.2.2.2.2.1 _ q))) hgood C.2.2.2.2.2.2.2.2.2.2.1.1 C.2.2.2.2.2.2.2.2.2.2.1.2 hS (hl.1.trans C.2.2.1.symm) d0 d3 d4 d6 d9 (fun x hx => (hxt x hx).elim) hRframes hRlocals hRcells hRslots hlocks (fun t hal hz hold => ⟨N, ad, g, hq, hP.kept (fun k9 q9 h9 => hold q9.1 ((hP k9 q9 h9).lt)), hD, ⟨Nat.le_trans hS.1 hz, fun q h1 h2 => (hold q (Nat.lt_of_lt_of_le h1 hS.1)).trans (hS.2.1 q h1 h2)⟩⟩) hS.2.2 hmc hms
theorem z_thrW (C : zC p s m args c cc nL own D A cs tt) (hl0 : l.stackTraces = false) {cls text : String} {ik is ic : Nat} (hcls : Bundle.fit cls = true) (hk : Cond.classLink own ik cls ∈ AW) (hini : Cond.initialized cls ∈ AW) (hstr : (own, is, text) ∈ SRL) (hat : ∀ w ∈ vx_atS own ic cls xNames, w ∈ AW ∨ w ∈ NW)
    (hgood : ∀ w ∈ Cond.classLink own ik cls :: Cond.initialized cls :: vx_atS own ic cls xNames, vx_ot w = true)
    (d0 : decode cc pc = .ok (.new ik, 3)) (d3 : decode cc (pc + 3) = .ok (.dup, 1)) (d4 : decode cc (pc + 4) = .ok (.ldc_w is, 3)) (d6 : decode cc (pc + 7) = .ok (.invokespecial ic, 3)) (d9 : decode cc (pc + 10) = .ok (.athrow, 1))
    (hxt : ∀ x ∈ c.exceptionTable.toList, False) (hRframes : 5 < R.frames) (hRlocals : (rest.map fun v => v.category).sum + 82 ≤ R.locals) (hRcells : k + 1 ≤ R.cells) (hRslots : n + 6 ≤ R.slots) (hlocks : meth.locks = false) (hmc : k + 1 ≤ mc) (hms : n + 6 ≤ ms) (hq : Xr cls N ad g) : zV p l e R s m args below meth c (vx_MQ below (zPost D A Qr) (zX D A Xr) args s mc ms A) D A nL N ad g k n (pc) (lv) (rest) := fun H locs ls hP hD hS hl => by
  obtain ⟨sa, hs⟩ := C.2.2.2.2.2.2.2.2.2.2.2.1 _ hstr
  exact vx_throwSW C.1 C.2.1 hl0 C.2.2.2.1 hcls (by decide +kernel : ∀ n ∈ xNames, Bundle.fit n = true) (C.2.2.2.2.1 _ hk) (C.2.2.2.2.1 _ hini) hs (fun w h => (hat w h).elim (C.2.2.2.2.1 w) (fun q => NW_use q (C.2.2.2.2.2.2.1 _ q))) hgood C.2.2.2.2.2.2.2.2.2.2.1.1 C.2.2.2.2.2.2.2.2.2.2.1.2 hS (hl.1.trans C.2.2.1.symm) d0 d3 d4 d6 d9 (fun x hx => (hxt x hx).elim) hRframes hRlocals hRcells hRslots hlocks (fun t hal hz hold => ⟨N, ad, g, hq, hP.kept (fun k9 q9 h9 => hold q9.1 ((hP k9 q9 h9).lt)), hD, ⟨Nat.le_trans hS.1 hz, fun q h1 h2 => (hold q (Nat.lt_of_lt_of_le h1 hS.1)).trans (hS.2.1 q h1 h2)⟩⟩) hS.2.2 hmc hms
theorem z_thrN (C : zC p s m args c cc nL own D A cs tt) (hl0 : l.stackTraces = false) {cls text : String} {ik is ic : Nat} {ix : Nat} {rx : ByteArray} (x0 : decode rx 0 = .ok (.aload_n 0, 1)) (x1 : decode rx 1 = .ok (.aload_n 1, 1)) (x2 : decode rx 2 = .ok (.invokespecial ix, 3)) (x5 : decode rx 5 = .ok (.return_, 1)) (hcls : Bundle.fit cls = true) (hk : Cond.classLink own ik cls ∈ AW) (hini : Cond.initialized cls ∈ AW) (hstr : (own, is, text) ∈ SRL) (hat : ∀ w ∈ zx_at own ic cls ix rx xNames, w ∈ AW ∨ w ∈ NW)
    (hgood : ∀ w ∈ Cond.classLink own ik cls :: Cond.initialized cls :: zx_at own ic cls ix rx xNames, vx_ot w = true)
    (d0 : decode cc pc = .ok (.new ik, 3)) (d3 : decode cc (pc + 3) = .ok (.dup, 1)) (d4 : decode cc (pc + 4) = .ok (.ldc is, 2)) (d6 : decode cc (pc + 6) = .ok (.invokespecial ic, 3)) (d9 : decode cc (pc + 9) = .ok (.athrow, 1))
    (hxt : ∀ x ∈ c.exceptionTable.toList, False) (hRframes : 5 < R.frames) (hRlocals : (rest.map fun v => v.category).sum + 82 ≤ R.locals) (hRcells : k + 1 ≤ R.cells) (hRslots : n + 6 ≤ R.slots) (hlocks : meth.locks = false) (hmc : k + 1 ≤ mc) (hms : n + 6 ≤ ms) (hq : Xr cls N ad g) : zV p l e R s m args below meth c (vx_MQ below (zPost D A Qr) (zX D A Xr) args s mc ms A) D A nL N ad g k n (pc) (lv) (rest) := fun H locs ls hP hD hS hl => by
  obtain ⟨sa, hs⟩ := C.2.2.2.2.2.2.2.2.2.2.2.1 _ hstr
  exact zx_throwS C.1 C.2.1 hl0 x0 x1 x2 x5 C.2.2.2.1 hcls (by decide +kernel : ∀ n ∈ xNames, Bundle.fit n = true) (C.2.2.2.2.1 _ hk) (C.2.2.2.2.1 _ hini) hs (fun w h => (hat w h).elim (C.2.2.2.2.1 w) (fun q => NW_use q (C.2.2.2.2.2.2.1 _ q))) hgood C.2.2.2.2.2.2.2.2.2.2.1.1 C.2.2.2.2.2.2.2.2.2.2.1.2 hS (hl.1.trans C.2.2.1.symm) d0 d3 d4 d6 d9 (fun x hx => (hxt x hx).elim) hRframes hRlocals hRcells hRslots hlocks (fun t hal hz hold => ⟨N, ad, g, hq, hP.kept (fun k9 q9 h9 => hold q9.1 ((hP k9 q9 h9).lt)), hD, ⟨Nat.le_trans hS.1 hz, fun q h1 h2 => (hold q (Nat.lt_of_lt_of_le h1 hS.1)).trans (hS.2.1 q h1 h2)⟩⟩) hS.2.2 hmc hms
theorem z_thrNW (C : zC p s m args c cc nL own D A cs tt) (hl0 : l.stackTraces = false) {cls text : String} {ik is ic : Nat} {ix : Nat} {rx : ByteArray} (x0 : decode rx 0 = .ok (.aload_n 0, 1)) (x1 : decode rx 1 = .ok (.aload_n 1, 1)) (x2 : decode rx 2 = .ok (.invokespecial ix, 3)) (x5 : decode rx 5 = .ok (.return_, 1)) (hcls : Bundle.fit cls = true) (hk : Cond.classLink own ik cls ∈ AW) (hini : Cond.initialized cls ∈ AW) (hstr : (own, is, text) ∈ SRL) (hat : ∀ w ∈ zx_at own ic cls ix rx xNames, w ∈ AW ∨ w ∈ NW)
    (hgood : ∀ w ∈ Cond.classLink own ik cls :: Cond.initialized cls :: zx_at own ic cls ix rx xNames, vx_ot w = true)
    (d0 : decode cc pc = .ok (.new ik, 3)) (d3 : decode cc (pc + 3) = .ok (.dup, 1)) (d4 : decode cc (pc + 4) = .ok (.ldc_w is, 3)) (d6 : decode cc (pc + 7) = .ok (.invokespecial ic, 3)) (d9 : decode cc (pc + 10) = .ok (.athrow, 1))
    (hxt : ∀ x ∈ c.exceptionTable.toList, False) (hRframes : 5 < R.frames) (hRlocals : (rest.map fun v => v.category).sum + 82 ≤ R.locals) (hRcells : k + 1 ≤ R.cells) (hRslots : n + 6 ≤ R.slots) (hlocks : meth.locks = false) (hmc : k + 1 ≤ mc) (hms : n + 6 ≤ ms) (hq : Xr cls N ad g) : zV p l e R s m args below meth c (vx_MQ below (zPost D A Qr) (zX D A Xr) args s mc ms A) D A nL N ad g k n (pc) (lv) (rest) := fun H locs ls hP hD hS hl => by
  obtain ⟨sa, hs⟩ := C.2.2.2.2.2.2.2.2.2.2.2.1 _ hstr
  exact zx_throwSW C.1 C.2.1 hl0 x0 x1 x2 x5 C.2.2.2.1 hcls (by decide +kernel : ∀ n ∈ xNames, Bundle.fit n = true) (C.2.2.2.2.1 _ hk) (C.2.2.2.2.1 _ hini) hs (fun w h => (hat w h).elim (C.2.2.2.2.1 w) (fun q => NW_use q (C.2.2.2.2.2.2.1 _ q))) hgood C.2.2.2.2.2.2.2.2.2.2.1.1 C.2.2.2.2.2.2.2.2.2.2.1.2 hS (hl.1.trans C.2.2.1.symm) d0 d3 d4 d6 d9 (fun x hx => (hxt x hx).elim) hRframes hRlocals hRcells hRslots hlocks (fun t hal hz hold => ⟨N, ad, g, hq, hP.kept (fun k9 q9 h9 => hold q9.1 ((hP k9 q9 h9).lt)), hD, ⟨Nat.le_trans hS.1 hz, fun q h1 h2 => (hold q (Nat.lt_of_lt_of_le h1 hS.1)).trans (hS.2.1 q h1 h2)⟩⟩) hS.2.2 hmc hms
end ZX
theorem at_IA : ∀ w ∈ vx_atS RX9 90 eIA xNames, w ∈ AW ∨ w ∈ NW := by decide +kernel
abbrev nsB : ByteArray := prog_34_method_4_code
theorem ns0 : decode nsB 0 = .ok (.aload_n 0, 1) := by decide +kernel
theorem ns1 : decode nsB 1 = .ok (.aload_n 1, 1) := by decide +kernel
theorem ns2 : decode nsB 2 = .ok (.invokespecial 13, 3) := by decide +kernel
theorem ns5 : decode nsB 5 = .ok (.return_, 1) := by decide +kernel
theorem at_NS : ∀ w ∈ zx_at RX9 169 eNS 13 nsB xNames, w ∈ AW ∨ w ∈ NW := by decide +kernel
theorem gd_IA : ∀ w ∈ Cond.classLink RX9 86 eIA :: Cond.initialized eIA :: vx_atS RX9 90 eIA xNames, vx_ot w = true := by decide +kernel
theorem gd_NS : ∀ w ∈ Cond.classLink RX9 165 eNS :: Cond.initialized eNS :: zx_at RX9 169 eNS 13 nsB xNames, vx_ot w = true := by decide +kernel
end
section
-- 16.rows.lean.txt
theorem zJ_of (x : Int64) : ∃ z : Int, x = zJ z ∧ -9223372036854775808 ≤ z ∧ z ≤ 9223372036854775807 := ⟨x.toInt, (Int64.ofInt_toInt x).symm, by have := x.le_toInt; omega, by have := x.toInt_lt; omega⟩
theorem zJ_div {a b : Int} (ha : -9223372036854775808 ≤ a ∧ a ≤ 9223372036854775807) (hb : -9223372036854775808 ≤ b ∧ b ≤ 9223372036854775807) : zJ a / zJ b = zJ (a.tdiv b) := (Int64.ofInt_tdiv (by show (-9223372036854775808 : Int) ≤ a; omega) (by show a ≤ (9223372036854775807 : Int); omega) (by show (-9223372036854775808 : Int) ≤ b; omega) (by show b ≤ (9223372036854775807 : Int); omega)).symm
theorem zI_and (x : Int32) {m : Int32} (k : Nat) (hm : m.toBitVec.toNat = 2 ^ k - 1) : ∃ z : Int, x &&& m = zI z ∧ 0 ≤ z ∧ z < ((2 ^ k : Nat) : Int) := by
  obtain ⟨j, hj, e⟩ := pk_andE x k hm
  exact ⟨(j : Int), by rw [e]; exact zI_nat j, by omega, by omega⟩
def cmpZ (a b : Int) : Int := if b < a then 1 else if a = b then 0 else -1
theorem cmpZ_eq {a b : Int} : cmpZ a b = 0 ↔ a = b := by unfold cmpZ; split <;> (try split) <;> omega
theorem cmpZ_lt {a b : Int} : cmpZ a b < 0 ↔ a < b := by unfold cmpZ; split <;> (try split) <;> omega
theorem cmpZ_le {a b : Int} : cmpZ a b ≤ 0 ↔ a ≤ b := by unfold cmpZ; split <;> (try split) <;> omega
theorem cmpZ_ge {a b : Int} : 0 ≤ cmpZ a b ↔ b ≤ a := by unfold cmpZ; split <;> (try split) <;> omega
theorem cmpZ_r {a b : Int} : -1 ≤ cmpZ a b ∧ cmpZ a b ≤ 1 := by unfold cmpZ; split <;> (try split) <;> omega
theorem lg_cmpZ {a b : Int} (ha : -9223372036854775808 ≤ a ∧ a ≤ 9223372036854775807) (hb : -9223372036854775808 ≤ b ∧ b ≤ 9223372036854775807) : lg_cmp (zJ a) (zJ b) = zI (cmpZ a b) := by
  unfold lg_cmp cmpZ
  simp only [gt_iff_lt, zJ_lt hb ha, zJ_eq ha hb]
  by_cases h1 : b < a
  · rw [if_pos h1, if_pos h1]; rfl
  · rw [if_neg h1, if_neg h1]
    by_cases h2 : a = b
    · rw [if_pos h2, if_pos h2]; rfl
    · rw [if_neg h2, if_neg h2]; rfl
theorem mm_min (a b : Int) : ∃ x : Int, (if b < a then b else a) = x ∧ ((x = a ∧ a ≤ b) ∨ (x = b ∧ b < a)) := ⟨_, rfl, by split <;> omega⟩
theorem mm_max (a b : Int) : ∃ x : Int, (if a < b then b else a) = x ∧ ((x = a ∧ b ≤ a) ∨ (x = b ∧ a < b)) := ⟨_, rfl, by split <;> omega⟩
theorem mm_maxl (a b : Int) : ∃ x : Int, (if b < a then a else b) = x ∧ ((x = a ∧ b < a) ∨ (x = b ∧ a ≤ b)) := ⟨_, rfl, by split <;> omega⟩
theorem mm_abs (a : Int) : ∃ x : Int, (if 0 ≤ a then a else 0 - a) = x ∧ ((x = a ∧ 0 ≤ a) ∨ (x = -a ∧ a < 0)) := ⟨_, rfl, by split <;> omega⟩
section ZL
variable {p : Program} {l : Launch} {e : Env} {R : Room} {s : State} {m : MethodId} {args : Array Value} {below : List Frame} {meth : Method} {c : Code} {Q : State → Prop} {D : va_G} {A : Nat → Prop} {cs : Nat → ClassId} {tt : Nat} {cc : ByteArray} {nL : Nat} {own : String} {N : Nat} {ad : Nat → Nat} {g : Nat → va_E} {k n pc : Nat} {lv lv' : List (Nat × Value)} {rest : List Value}
theorem z_ldcw (C : zC p s m args c cc nL own D A cs tt) {i : Nat} {x : Int32} {z : Int} (hdg : decode cc pc = .ok (.ldc_w i, 3)) (hw : Cond.constant own i x ∈ AW) (hz : x = zI z) (kk : zV p l e R s m args below meth c Q D A nL N ad g k n (pc + 3) (lv) (.int (zI z) :: rest)) : zV p l e R s m args below meth c Q D A nL N ad g k n (pc) (lv) (rest) := fun H locs ls hP hD hS hl => lv_ldcw C.1 C.2.1 C.2.2.2.1 (C.2.2.2.2.1 _ hw) hdg (by rw [hz]; exact kk H locs ls hP hD hS hl)
theorem z_lookup (C : zC p s m args c cc nL own D A cs tt) {a dflt off : Int} {ps : Array (Int × Int)} {len tgt : Nat} (hdg : decode cc pc = .ok (.lookupswitch dflt ps, len)) (hp : (ps.toList.zip (ps.toList.drop 1)).all (fun (a, next) => a.1 < next.1) = true) (ha : -2147483648 ≤ a ∧ a ≤ 2147483647) (ho : Op.lookupswitch.offset ps.toList dflt a = off) (ht : (pc : Int) + off = (tgt : Int)) (kk : zV p l e R s m args below meth c Q D A nL N ad g k n (tgt) (lv) (rest)) : zV p l e R s m args below meth c Q D A nL N ad g k n (pc) (lv) (.int (zI a) :: rest) := fun H locs ls hP hD hS hl => lv_lookup C.1 C.2.1 hdg hp (by rw [zI_to ha]; exact ho) ht (kk H locs ls hP hD hS hl)
theorem z_ldiv (C : zC p s m args c cc nL own D A cs tt) {a b : Int} (hdg : decode cc pc = .ok (.ldiv, 1)) (ha : -9223372036854775808 ≤ a ∧ a ≤ 9223372036854775807) (hb : -9223372036854775808 ≤ b ∧ b ≤ 9223372036854775807) (h0 : b ≠ 0) (kk : zV p l e R s m args below meth c Q D A nL N ad g k n (pc + 1) (lv) (.long (zJ (a.tdiv b)) :: rest)) : zV p l e R s m args below meth c Q D A nL N ad g k n (pc) (lv) (.long (zJ b) :: .long (zJ a) :: rest) := fun H locs ls hP hD hS hl => lv_ldiv C.1 C.2.1 hdg (by rw [show (0 : Int64) = zJ 0 from rfl, zJ_eq hb (by omega)]; exact h0) (by rw [zJ_div ha hb]; exact kk H locs ls hP hD hS hl)
theorem z_lcmp (C : zC p s m args c cc nL own D A cs tt) {a b : Int} (hdg : decode cc pc = .ok (.lcmp, 1)) (ha : -9223372036854775808 ≤ a ∧ a ≤ 9223372036854775807) (hb : -9223372036854775808 ≤ b ∧ b ≤ 9223372036854775807) (kk : zV p l e R s m args below meth c Q D A nL N ad g k n (pc + 1) (lv) (.int (zI (cmpZ a b)) :: rest)) : zV p l e R s m args below meth c Q D A nL N ad g k n (pc) (lv) (.long (zJ b) :: .long (zJ a) :: rest) := fun H locs ls hP hD hS hl => W.lcmp C.1 C.2.1 hdg (by rw [lg_cmpZ ha hb]; exact kk H locs ls hP hD hS hl)
theorem z_mabs (C : zC p s m args c cc nL own D A cs tt) {index : Nat} {a : Int} (hlk : Cond.methodLink own index Lib.Math.abs.name ∈ AW) (hstat : Cond.static Lib.Math.abs.name ∈ AW) (hini : Cond.initialized "java/lang/Math" ∈ AW) (hcd : Cond.code Lib.Math.abs.name Lib.Math.abs.code 1 (some .int) ∈ AW) (ha : -2147483648 ≤ a ∧ a ≤ 2147483647) (hframes : 1 ≤ R.frames) (hlocals : (rest.map fun v => v.category).sum + 13 ≤ R.locals) (hc : k ≤ R.cells) (hs : n ≤ R.slots) (hdg : decode cc pc = .ok (.invokestatic index, 3)) (kk : zV p l e R s m args below meth c Q D A nL N ad g k n (pc + 3) (lv) (.int (zI (if 0 ≤ a then a else 0 - a)) :: rest)) : zV p l e R s m args below meth c Q D A nL N ad g k n (pc) (lv) (.int (zI a) :: rest) := fun H locs ls hP hD hS hl => va_mabs C.1 C.2.1 (by rw [C.2.2.1]; exact hl.1.symm) C.2.2.2.1 (C.2.2.2.2.1 _ hlk) (C.2.2.2.2.1 _ hstat) (C.2.2.2.2.1 _ hini) (C.2.2.2.2.1 _ hcd) hframes hlocals hc hs hdg (by
  have e : (if (0 : Int32) ≤ zI a then zI a else 0 - zI a) = zI (if 0 ≤ a then a else 0 - a) := by
    rw [show (0 : Int32) = zI 0 from rfl]
    simp only [zI_le (show -2147483648 ≤ (0 : Int) ∧ (0 : Int) ≤ 2147483647 by omega) ha]
    by_cases h : 0 ≤ a
    · rw [if_pos h, if_pos h]
    · rw [if_neg h, if_neg h, zI_sub]
  rw [e]
  exact kk H locs ls hP hD hS hl)
theorem z_lmaxx (C : zC p s m args c cc nL own D A cs tt) {index : Nat} {a b : Int} (hlk : Cond.methodLink own index Lib.MathLoose.max_long.x ∈ AW) (hstat : Cond.static Lib.MathLoose.max_long.x ∈ AW) (hini : Cond.initialized "java/lang/Math" ∈ AW) (hcd : Cond.code Lib.MathLoose.max_long.x Lib.MathLoose.max_long.code 4 (some .long) ∈ AW) (ha : -9223372036854775808 ≤ a ∧ a ≤ 9223372036854775807) (hb : -9223372036854775808 ≤ b ∧ b ≤ 9223372036854775807) (hframes : 1 ≤ R.frames) (hlocals : (rest.map fun v => v.category).sum + 15 ≤ R.locals) (hc : k ≤ R.cells) (hs : n ≤ R.slots) (hdg : decode cc pc = .ok (.invokestatic index, 3)) (kk : zV p l e R s m args below meth c Q D A nL N ad g k n (pc + 3) (lv) (.long (zJ (if b < a then a else b)) :: rest)) : zV p l e R s m args below meth c Q D A nL N ad g k n (pc) (lv) (.long (zJ b) :: .long (zJ a) :: rest) := fun H locs ls hP hD hS hl => va_mmax_long C.1 C.2.1 (by rw [C.2.2.1]; exact hl.1.symm) C.2.2.2.1 (C.2.2.2.2.1 _ hlk) (C.2.2.2.2.1 _ hstat) (C.2.2.2.2.1 _ hini) (C.2.2.2.2.1 _ hcd) hframes hlocals hc hs hdg (by
  have e : (if zJ b < zJ a then zJ a else zJ b) = zJ (if b < a then a else b) := by
    simp only [zJ_lt hb ha]
    by_cases h : b < a
    · rw [if_pos h, if_pos h]
    · rw [if_neg h, if_neg h]
  rw [e]
  exact kk H locs ls hP hD hS hl)
theorem z_lminx (C : zC p s m args c cc nL own D A cs tt) {index : Nat} {a b : Int} (hlk : Cond.methodLink own index Lib.MathLoose.min_long.x ∈ AW) (hstat : Cond.static Lib.MathLoose.min_long.x ∈ AW) (hini : Cond.initialized "java/lang/Math" ∈ AW) (hcd : Cond.code Lib.MathLoose.min_long.x Lib.MathLoose.min_long.code 4 (some .long) ∈ AW) (ha : -9223372036854775808 ≤ a ∧ a ≤ 9223372036854775807) (hb : -9223372036854775808 ≤ b ∧ b ≤ 9223372036854775807) (hframes : 1 ≤ R.frames) (hlocals : (rest.map fun v => v.category).sum + 15 ≤ R.locals) (hc : k ≤ R.cells) (hs : n ≤ R.slots) (hdg : decode cc pc = .ok (.invokestatic index, 3)) (kk : zV p l e R s m args below meth c Q D A nL N ad g k n (pc + 3) (lv) (.long (zJ (if b < a then b else a)) :: rest)) : zV p l e R s m args below meth c Q D A nL N ad g k n (pc) (lv) (.long (zJ b) :: .long (zJ a) :: rest) := fun H locs ls hP hD hS hl => va_mmin_long C.1 C.2.1 (by rw [C.2.2.1]; exact hl.1.symm) C.2.2.2.1 (C.2.2.2.2.1 _ hlk) (C.2.2.2.2.1 _ hstat) (C.2.2.2.2.1 _ hini) (C.2.2.2.2.1 _ hcd) hframes hlocals hc hs hdg (by
  have e : (if zJ b < zJ a then zJ b else zJ a) = zJ (if b < a then b else a) := by
    simp only [zJ_lt hb ha]
    by_cases h : b < a
    · rw [if_pos h, if_pos h]
    · rw [if_neg h, if_neg h]
  rw [e]
  exact kk H locs ls hP hD hS hl)
theorem z_ixor (C : zC p s m args c cc nL own D A cs tt) {a b z : Int} (hdg : decode cc pc = .ok (.ixor, 1)) (hz : zI a ^^^ zI b = zI z) (kk : zV p l e R s m args below meth c Q D A nL N ad g k n (pc + 1) (lv) (.int (zI z) :: rest)) : zV p l e R s m args below meth c Q D A nL N ad g k n (pc) (lv) (.int (zI b) :: .int (zI a) :: rest) := fun H locs ls hP hD hS hl => lv_ixor C.1 C.2.1 hdg (by rw [hz]; exact kk H locs ls hP hD hS hl)
theorem z_i2c (C : zC p s m args c cc nL own D A cs tt) {a z : Int} (hdg : decode cc pc = .ok (.i2c, 1)) (hz : ((zI a).toUInt32 % 65536).toInt32 = zI z) (kk : zV p l e R s m args below meth c Q D A nL N ad g k n (pc + 1) (lv) (.int (zI z) :: rest)) : zV p l e R s m args below meth c Q D A nL N ad g k n (pc) (lv) (.int (zI a) :: rest) := fun H locs ls hP hD hS hl => lv_i2c C.1 C.2.1 hdg hz (kk H locs ls hP hD hS hl)
theorem z_ifnn (C : zC p s m args c cc nL own D A cs tt) {a : Nat} {off : Int} {tgt : Nat} (hdg : decode cc pc = .ok (.ifnonnull off, 3)) (ht : (pc : Int) + off = (tgt : Int)) (kk : zV p l e R s m args below meth c Q D A nL N ad g k n (tgt) (lv) (rest)) : zV p l e R s m args below meth c Q D A nL N ad g k n (pc) (lv) (.ref a :: rest) := fun H locs ls hP hD hS hl => lv_ifnonnull C.1 C.2.1 hdg ht (kk H locs ls hP hD hS hl)
end ZL
end
section
-- 17.words.lean.txt
-- words of pack
theorem n_466 : (Jvm.Cond.methodLinkNest "SnowRecorder$Pack" (36 : Nat) ({ cls := "SnowRecorder", name := "part", desc := "(JJ)I" } : Jvm.MethodName) "SnowRecorder") ∈ NW := NW_m2 226 (by decide +kernel) (by decide +kernel)
theorem n_568 : (Jvm.Cond.methodLinkNest "SnowRecorder$Pack" (88 : Nat) ({ cls := "SnowRecorder", name := "burden", desc := "(II)I" } : Jvm.MethodName) "SnowRecorder") ∈ NW := NW_m3 88 (by decide +kernel) (by decide +kernel)
theorem q_1 : (Jvm.Cond.initialized "SnowRecorder") ∈ AW := AW_m1 1 (by decide +kernel) (by decide +kernel)
theorem q_1253 : (Jvm.Cond.instanceMethod ({ cls := "SnowRecorder$Pack", name := "has", desc := "(I)Z" } : Jvm.MethodName)) ∈ AW := AW_m6 53 (by decide +kernel) (by decide +kernel)
theorem q_1254 : (Jvm.Cond.selects "SnowRecorder$Pack" ({ cls := "SnowRecorder$Pack", name := "has", desc := "(I)Z" } : Jvm.MethodName) ({ cls := "SnowRecorder$Pack", name := "has", desc := "(I)Z" } : Jvm.MethodName)) ∈ AW := AW_m6 54 (by decide +kernel) (by decide +kernel)
theorem q_1255 : (Jvm.Cond.code ({ cls := "SnowRecorder$Pack", name := "has", desc := "(I)Z" } : Jvm.MethodName) prog_5_method_8_code (3 : Nat) (Option.some Jvm.ClassFile.FieldType.boolean)) ∈ AW := AW_m6 55 (by decide +kernel) (by decide +kernel)
theorem q_1333 : (Jvm.Cond.methodLink "SnowRecorder$Pack" (32 : Nat) ({ cls := "SnowRecorder$Pack", name := "has", desc := "(I)Z" } : Jvm.MethodName)) ∈ AW := AW_m6 133 (by decide +kernel) (by decide +kernel)
theorem q_20 : (Jvm.Cond.initialized "java/lang/Math") ∈ AW := AW_m1 20 (by decide +kernel) (by decide +kernel)
theorem q_467 : (Jvm.Cond.static ({ cls := "SnowRecorder", name := "part", desc := "(JJ)I" } : Jvm.MethodName)) ∈ AW := AW_m2 227 (by decide +kernel) (by decide +kernel)
theorem q_468 : (Jvm.Cond.code ({ cls := "SnowRecorder", name := "part", desc := "(JJ)I" } : Jvm.MethodName) prog_1_method_63_code (4 : Nat) (Option.some Jvm.ClassFile.FieldType.int)) ∈ AW := AW_m2 228 (by decide +kernel) (by decide +kernel)
theorem q_473 : (Jvm.Cond.static ({ cls := "java/lang/Math", name := "min", desc := "(II)I" } : Jvm.MethodName)) ∈ AW := AW_m2 233 (by decide +kernel) (by decide +kernel)
theorem q_474 : (Jvm.Cond.code ({ cls := "java/lang/Math", name := "min", desc := "(II)I" } : Jvm.MethodName) prog_22_method_69_code (2 : Nat) (Option.some Jvm.ClassFile.FieldType.int)) ∈ AW := AW_m2 234 (by decide +kernel) (by decide +kernel)
theorem q_483 : (Jvm.Cond.methodLink "SnowRecorder$Pack" (46 : Nat) ({ cls := "java/lang/Math", name := "min", desc := "(II)I" } : Jvm.MethodName)) ∈ AW := AW_m3 3 (by decide +kernel) (by decide +kernel)
theorem q_501 : (Jvm.Cond.constantLong "SnowRecorder$Pack" (62 : Nat) (100 : Int64)) ∈ AW := AW_m3 21 (by decide +kernel) (by decide +kernel)
theorem q_502 : (Jvm.Cond.methodLink "SnowRecorder$Pack" (57 : Nat) ({ cls := "SnowRecorder$Plan", name := "of", desc := "(II)I" } : Jvm.MethodName)) ∈ AW := AW_m3 22 (by decide +kernel) (by decide +kernel)
theorem q_503 : (Jvm.Cond.instanceMethod ({ cls := "SnowRecorder$Plan", name := "of", desc := "(II)I" } : Jvm.MethodName)) ∈ AW := AW_m3 23 (by decide +kernel) (by decide +kernel)
theorem q_504 : (Jvm.Cond.selects "SnowRecorder$Plan" ({ cls := "SnowRecorder$Plan", name := "of", desc := "(II)I" } : Jvm.MethodName) ({ cls := "SnowRecorder$Plan", name := "of", desc := "(II)I" } : Jvm.MethodName)) ∈ AW := AW_m3 24 (by decide +kernel) (by decide +kernel)
theorem q_505 : (Jvm.Cond.code ({ cls := "SnowRecorder$Plan", name := "of", desc := "(II)I" } : Jvm.MethodName) prog_7_method_9_code (4 : Nat) (Option.some Jvm.ClassFile.FieldType.int)) ∈ AW := AW_m3 25 (by decide +kernel) (by decide +kernel)
theorem q_510 : (Jvm.Cond.methodLink "SnowRecorder$Pack" (28 : Nat) ({ cls := "SnowRecorder$Pack", name := "mass", desc := "(I)I" } : Jvm.MethodName)) ∈ AW := AW_m3 30 (by decide +kernel) (by decide +kernel)
theorem q_511 : (Jvm.Cond.instanceMethod ({ cls := "SnowRecorder$Pack", name := "mass", desc := "(I)I" } : Jvm.MethodName)) ∈ AW := AW_m3 31 (by decide +kernel) (by decide +kernel)
theorem q_512 : (Jvm.Cond.selects "SnowRecorder$Pack" ({ cls := "SnowRecorder$Pack", name := "mass", desc := "(I)I" } : Jvm.MethodName) ({ cls := "SnowRecorder$Pack", name := "mass", desc := "(I)I" } : Jvm.MethodName)) ∈ AW := AW_m3 32 (by decide +kernel) (by decide +kernel)
theorem q_513 : (Jvm.Cond.code ({ cls := "SnowRecorder$Pack", name := "mass", desc := "(I)I" } : Jvm.MethodName) prog_5_method_5_code (2 : Nat) (Option.some Jvm.ClassFile.FieldType.int)) ∈ AW := AW_m3 33 (by decide +kernel) (by decide +kernel)
theorem q_525 : (Jvm.Cond.constantLong "SnowRecorder$Pack" (73 : Nat) (10 : Int64)) ∈ AW := AW_m3 45 (by decide +kernel) (by decide +kernel)
theorem q_526 : (Jvm.Cond.methodLink "SnowRecorder$Pack" (75 : Nat) ({ cls := "java/lang/Math", name := "abs", desc := "(I)I" } : Jvm.MethodName)) ∈ AW := AW_m3 46 (by decide +kernel) (by decide +kernel)
theorem q_527 : (Jvm.Cond.static ({ cls := "java/lang/Math", name := "abs", desc := "(I)I" } : Jvm.MethodName)) ∈ AW := AW_m3 47 (by decide +kernel) (by decide +kernel)
theorem q_528 : (Jvm.Cond.code ({ cls := "java/lang/Math", name := "abs", desc := "(I)I" } : Jvm.MethodName) prog_22_method_59_code (1 : Nat) (Option.some Jvm.ClassFile.FieldType.int)) ∈ AW := AW_m3 48 (by decide +kernel) (by decide +kernel)
theorem q_569 : (Jvm.Cond.static ({ cls := "SnowRecorder", name := "burden", desc := "(II)I" } : Jvm.MethodName)) ∈ AW := AW_m3 89 (by decide +kernel) (by decide +kernel)
theorem q_570 : (Jvm.Cond.code ({ cls := "SnowRecorder", name := "burden", desc := "(II)I" } : Jvm.MethodName) prog_1_method_64_code (2 : Nat) (Option.some Jvm.ClassFile.FieldType.int)) ∈ AW := AW_m3 90 (by decide +kernel) (by decide +kernel)
theorem q_571 : (Jvm.Cond.constantLong "SnowRecorder" (505 : Nat) (100 : Int64)) ∈ AW := AW_m3 91 (by decide +kernel) (by decide +kernel)
theorem q_572 : (Jvm.Cond.methodLink "SnowRecorder" (507 : Nat) ({ cls := "SnowRecorder", name := "part", desc := "(JJ)I" } : Jvm.MethodName)) ∈ AW := AW_m3 92 (by decide +kernel) (by decide +kernel)
theorem q_573 : (Jvm.Cond.methodLink "SnowRecorder$Pack" (91 : Nat) ({ cls := "SnowRecorder$Pack", name := "ratio", desc := "(IILSnowRecorder$Plan;)I" } : Jvm.MethodName)) ∈ AW := AW_m3 93 (by decide +kernel) (by decide +kernel)
theorem q_574 : (Jvm.Cond.instanceMethod ({ cls := "SnowRecorder$Pack", name := "ratio", desc := "(IILSnowRecorder$Plan;)I" } : Jvm.MethodName)) ∈ AW := AW_m3 94 (by decide +kernel) (by decide +kernel)
theorem q_575 : (Jvm.Cond.selects "SnowRecorder$Pack" ({ cls := "SnowRecorder$Pack", name := "ratio", desc := "(IILSnowRecorder$Plan;)I" } : Jvm.MethodName) ({ cls := "SnowRecorder$Pack", name := "ratio", desc := "(IILSnowRecorder$Plan;)I" } : Jvm.MethodName)) ∈ AW := AW_m3 95 (by decide +kernel) (by decide +kernel)
theorem q_576 : (Jvm.Cond.code ({ cls := "SnowRecorder$Pack", name := "ratio", desc := "(IILSnowRecorder$Plan;)I" } : Jvm.MethodName) prog_5_method_23_code (4 : Nat) (Option.some Jvm.ClassFile.FieldType.int)) ∈ AW := AW_m3 96 (by decide +kernel) (by decide +kernel)
theorem q_577 : (Jvm.Cond.methodLink "SnowRecorder$Pack" (80 : Nat) ({ cls := "SnowRecorder$Pack", name := "strength", desc := "(ILSnowRecorder$Plan;)I" } : Jvm.MethodName)) ∈ AW := AW_m3 97 (by decide +kernel) (by decide +kernel)
theorem q_578 : (Jvm.Cond.instanceMethod ({ cls := "SnowRecorder$Pack", name := "strength", desc := "(ILSnowRecorder$Plan;)I" } : Jvm.MethodName)) ∈ AW := AW_m3 98 (by decide +kernel) (by decide +kernel)
theorem q_579 : (Jvm.Cond.selects "SnowRecorder$Pack" ({ cls := "SnowRecorder$Pack", name := "strength", desc := "(ILSnowRecorder$Plan;)I" } : Jvm.MethodName) ({ cls := "SnowRecorder$Pack", name := "strength", desc := "(ILSnowRecorder$Plan;)I" } : Jvm.MethodName)) ∈ AW := AW_m3 99 (by decide +kernel) (by decide +kernel)
theorem q_580 : (Jvm.Cond.code ({ cls := "SnowRecorder$Pack", name := "strength", desc := "(ILSnowRecorder$Plan;)I" } : Jvm.MethodName) prog_5_method_22_code (6 : Nat) (Option.some Jvm.ClassFile.FieldType.int)) ∈ AW := AW_m3 100 (by decide +kernel) (by decide +kernel)
theorem q_581 : (Jvm.Cond.constantLong "SnowRecorder$Pack" (78 : Nat) (3 : Int64)) ∈ AW := AW_m3 101 (by decide +kernel) (by decide +kernel)
theorem q_582 : (Jvm.Cond.constantLong "SnowRecorder$Pack" (84 : Nat) (9999 : Int64)) ∈ AW := AW_m3 102 (by decide +kernel) (by decide +kernel)
theorem q_583 : (Jvm.Cond.methodLink "SnowRecorder$Pack" (86 : Nat) ({ cls := "java/lang/Math", name := "min", desc := "(JJ)J" } : Jvm.MethodName)) ∈ AW := AW_m3 103 (by decide +kernel) (by decide +kernel)
theorem q_584 : (Jvm.Cond.static ({ cls := "java/lang/Math", name := "min", desc := "(JJ)J" } : Jvm.MethodName)) ∈ AW := AW_m3 104 (by decide +kernel) (by decide +kernel)
theorem q_585 : (Jvm.Cond.code ({ cls := "java/lang/Math", name := "min", desc := "(JJ)J" } : Jvm.MethodName) prog_22_method_70_code (4 : Nat) (Option.some Jvm.ClassFile.FieldType.long)) ∈ AW := AW_m3 105 (by decide +kernel) (by decide +kernel)
theorem q_591 : (Jvm.Cond.instanceMethod ({ cls := "SnowRecorder$Pack", name := "weakest", desc := "(ILSnowRecorder$Plan;)I" } : Jvm.MethodName)) ∈ AW := AW_m3 111 (by decide +kernel) (by decide +kernel)
theorem q_592 : (Jvm.Cond.selects "SnowRecorder$Pack" ({ cls := "SnowRecorder$Pack", name := "weakest", desc := "(ILSnowRecorder$Plan;)I" } : Jvm.MethodName) ({ cls := "SnowRecorder$Pack", name := "weakest", desc := "(ILSnowRecorder$Plan;)I" } : Jvm.MethodName)) ∈ AW := AW_m3 112 (by decide +kernel) (by decide +kernel)
theorem q_593 : (Jvm.Cond.code ({ cls := "SnowRecorder$Pack", name := "weakest", desc := "(ILSnowRecorder$Plan;)I" } : Jvm.MethodName) prog_5_method_24_code (8 : Nat) (Option.some Jvm.ClassFile.FieldType.int)) ∈ AW := AW_m3 113 (by decide +kernel) (by decide +kernel)
theorem q_595 : (Jvm.Cond.instanceMethod ({ cls := "SnowRecorder$Pack", name := "massAbove", desc := "(I)I" } : Jvm.MethodName)) ∈ AW := AW_m3 115 (by decide +kernel) (by decide +kernel)
theorem q_596 : (Jvm.Cond.selects "SnowRecorder$Pack" ({ cls := "SnowRecorder$Pack", name := "massAbove", desc := "(I)I" } : Jvm.MethodName) ({ cls := "SnowRecorder$Pack", name := "massAbove", desc := "(I)I" } : Jvm.MethodName)) ∈ AW := AW_m3 116 (by decide +kernel) (by decide +kernel)
theorem q_597 : (Jvm.Cond.code ({ cls := "SnowRecorder$Pack", name := "massAbove", desc := "(I)I" } : Jvm.MethodName) prog_5_method_6_code (4 : Nat) (Option.some Jvm.ClassFile.FieldType.int)) ∈ AW := AW_m3 117 (by decide +kernel) (by decide +kernel)
theorem q_902 : (Jvm.Cond.methodLink "SnowRecorder$Pack" (95 : Nat) ({ cls := "SnowRecorder$Pack", name := "weakest", desc := "(ILSnowRecorder$Plan;)I" } : Jvm.MethodName)) ∈ AW := AW_m4 182 (by decide +kernel) (by decide +kernel)
theorem q_903 : (Jvm.Cond.methodLink "SnowRecorder$Pack" (98 : Nat) ({ cls := "SnowRecorder$Pack", name := "massAbove", desc := "(I)I" } : Jvm.MethodName)) ∈ AW := AW_m4 183 (by decide +kernel) (by decide +kernel)
theorem hd_yX9_part : yX9_part.cls ≠ "java/lang/invoke/MethodHandle" ∧ yX9_part.cls ≠ "java/lang/invoke/VarHandle" ∧ (parseMethodDescriptor yX9_part.desc).map (fun d => d.parameters.length) = some 2 := by decide +kernel
theorem hd_yX3_mass : yX3_mass.cls ≠ "java/lang/invoke/MethodHandle" ∧ yX3_mass.cls ≠ "java/lang/invoke/VarHandle" ∧ (parseMethodDescriptor yX3_mass.desc).map (fun d => d.parameters.length) = some 1 := by decide +kernel
theorem hd_yX3_has : yX3_has.cls ≠ "java/lang/invoke/MethodHandle" ∧ yX3_has.cls ≠ "java/lang/invoke/VarHandle" ∧ (parseMethodDescriptor yX3_has.desc).map (fun d => d.parameters.length) = some 1 := by decide +kernel
theorem hd_yX5_of : yX5_of.cls ≠ "java/lang/invoke/MethodHandle" ∧ yX5_of.cls ≠ "java/lang/invoke/VarHandle" ∧ (parseMethodDescriptor yX5_of.desc).map (fun d => d.parameters.length) = some 2 := by decide +kernel
theorem hd_yX3_strength : yX3_strength.cls ≠ "java/lang/invoke/MethodHandle" ∧ yX3_strength.cls ≠ "java/lang/invoke/VarHandle" ∧ (parseMethodDescriptor yX3_strength.desc).map (fun d => d.parameters.length) = some 2 := by decide +kernel
theorem hd_yX9_burden : yX9_burden.cls ≠ "java/lang/invoke/MethodHandle" ∧ yX9_burden.cls ≠ "java/lang/invoke/VarHandle" ∧ (parseMethodDescriptor yX9_burden.desc).map (fun d => d.parameters.length) = some 2 := by decide +kernel
theorem hd_yX3_ratio : yX3_ratio.cls ≠ "java/lang/invoke/MethodHandle" ∧ yX3_ratio.cls ≠ "java/lang/invoke/VarHandle" ∧ (parseMethodDescriptor yX3_ratio.desc).map (fun d => d.parameters.length) = some 3 := by decide +kernel
theorem hd_yX3_weakest : yX3_weakest.cls ≠ "java/lang/invoke/MethodHandle" ∧ yX3_weakest.cls ≠ "java/lang/invoke/VarHandle" ∧ (parseMethodDescriptor yX3_weakest.desc).map (fun d => d.parameters.length) = some 2 := by decide +kernel
theorem hd_yX3_massAbove : yX3_massAbove.cls ≠ "java/lang/invoke/MethodHandle" ∧ yX3_massAbove.cls ≠ "java/lang/invoke/VarHandle" ∧ (parseMethodDescriptor yX3_massAbove.desc).map (fun d => d.parameters.length) = some 1 := by decide +kernel
theorem ms_yX9_part : zWs yX9_part cX9_part 4 (some .int) := ⟨q_467, q_1, q_468⟩
theorem mv_yX3_mass : zWv yX3_mass cX3_mass 2 (some .int) := ⟨q_511, q_512, q_6, q_513⟩
theorem mv_yX3_has : zWv yX3_has cX3_has 3 (some .boolean) := ⟨q_1253, q_1254, q_6, q_1255⟩
theorem mv_yX5_of : zWv yX5_of cX5_of 4 (some .int) := ⟨q_503, q_504, q_3, q_505⟩
theorem mv_yX3_strength : zWv yX3_strength cX3_strength 6 (some .int) := ⟨q_578, q_579, q_6, q_580⟩
theorem ms_yX9_burden : zWs yX9_burden cX9_burden 2 (some .int) := ⟨q_569, q_1, q_570⟩
theorem mv_yX3_ratio : zWv yX3_ratio cX3_ratio 4 (some .int) := ⟨q_574, q_575, q_6, q_576⟩
theorem mv_yX3_weakest : zWv yX3_weakest cX3_weakest 8 (some .int) := ⟨q_591, q_592, q_6, q_593⟩
theorem mv_yX3_massAbove : zWv yX3_massAbove cX3_massAbove 4 (some .int) := ⟨q_595, q_596, q_6, q_597⟩
end
section
-- 18.dec.lean.txt
-- decode rows of pack
theorem dX9_part_0 : decode cX9_part 0 = .ok (.lload_n 2, 1) := by decide +kernel
theorem dX9_part_1 : decode cX9_part 1 = .ok (.lconst 0, 1) := by decide +kernel
theorem dX9_part_2 : decode cX9_part 2 = .ok (.lcmp, 1) := by decide +kernel
theorem dX9_part_3 : decode cX9_part 3 = .ok (.ifCond .ne 7, 3) := by decide +kernel
theorem dX9_part_10 : decode cX9_part 10 = .ok (.lload_n 0, 1) := by decide +kernel
theorem dX9_part_11 : decode cX9_part 11 = .ok (.lload_n 2, 1) := by decide +kernel
theorem dX9_part_12 : decode cX9_part 12 = .ok (.ldiv, 1) := by decide +kernel
theorem dX9_part_13 : decode cX9_part 13 = .ok (.l2i, 1) := by decide +kernel
theorem dX9_part_14 : decode cX9_part 14 = .ok (.ireturn, 1) := by decide +kernel
theorem dX9_part_6 : decode cX9_part 6 = .ok (.iconst 0, 1) := by decide +kernel
theorem dX9_part_7 : decode cX9_part 7 = .ok (.goto 7, 3) := by decide +kernel
theorem dX9_burden_0 : decode cX9_burden 0 = .ok (.iload_n 0, 1) := by decide +kernel
theorem dX9_burden_1 : decode cX9_burden 1 = .ok (.i2l, 1) := by decide +kernel
theorem dX9_burden_2 : decode cX9_burden 2 = .ok (.iload_n 1, 1) := by decide +kernel
theorem dX9_burden_3 : decode cX9_burden 3 = .ok (.i2l, 1) := by decide +kernel
theorem dX9_burden_4 : decode cX9_burden 4 = .ok (.lmul, 1) := by decide +kernel
theorem dX9_burden_5 : decode cX9_burden 5 = .ok (.ldc2_w 505, 3) := by decide +kernel
theorem dX9_burden_8 : decode cX9_burden 8 = .ok (.invokestatic 507, 3) := by decide +kernel
theorem dX9_burden_11 : decode cX9_burden 11 = .ok (.ireturn, 1) := by decide +kernel
theorem dX3_mass_0 : decode cX3_mass 0 = .ok (.aload_n 0, 1) := by decide +kernel
theorem dX3_mass_1 : decode cX3_mass 1 = .ok (.getfield 18, 3) := by decide +kernel
theorem dX3_mass_4 : decode cX3_mass 4 = .ok (.bipush 12, 2) := by decide +kernel
theorem dX3_mass_6 : decode cX3_mass 6 = .ok (.iload_n 1, 1) := by decide +kernel
theorem dX3_mass_7 : decode cX3_mass 7 = .ok (.iadd, 1) := by decide +kernel
theorem dX3_mass_8 : decode cX3_mass 8 = .ok (.iaload, 1) := by decide +kernel
theorem dX3_mass_9 : decode cX3_mass 9 = .ok (.aload_n 0, 1) := by decide +kernel
theorem dX3_mass_10 : decode cX3_mass 10 = .ok (.getfield 18, 3) := by decide +kernel
theorem dX3_mass_13 : decode cX3_mass 13 = .ok (.bipush 24, 2) := by decide +kernel
theorem dX3_mass_15 : decode cX3_mass 15 = .ok (.iload_n 1, 1) := by decide +kernel
theorem dX3_mass_16 : decode cX3_mass 16 = .ok (.iadd, 1) := by decide +kernel
theorem dX3_mass_17 : decode cX3_mass 17 = .ok (.iaload, 1) := by decide +kernel
theorem dX3_mass_18 : decode cX3_mass 18 = .ok (.iadd, 1) := by decide +kernel
theorem dX3_mass_19 : decode cX3_mass 19 = .ok (.ireturn, 1) := by decide +kernel
theorem dX3_sum_4 : decode cX3_sum 4 = .ok (.iload_n 3, 1) := by decide +kernel
theorem dX3_sum_5 : decode cX3_sum 5 = .ok (.aload_n 0, 1) := by decide +kernel
theorem dX3_sum_6 : decode cX3_sum 6 = .ok (.getfield 9, 3) := by decide +kernel
theorem dX3_sum_9 : decode cX3_sum 9 = .ok (.if_icmp .ge 20, 3) := by decide +kernel
theorem dX3_sum_29 : decode cX3_sum 29 = .ok (.iload_n 2, 1) := by decide +kernel
theorem dX3_sum_30 : decode cX3_sum 30 = .ok (.ireturn, 1) := by decide +kernel
theorem dX3_sum_12 : decode cX3_sum 12 = .ok (.iload_n 2, 1) := by decide +kernel
theorem dX3_sum_13 : decode cX3_sum 13 = .ok (.aload_n 0, 1) := by decide +kernel
theorem dX3_sum_14 : decode cX3_sum 14 = .ok (.getfield 18, 3) := by decide +kernel
theorem dX3_sum_17 : decode cX3_sum 17 = .ok (.iload_n 1, 1) := by decide +kernel
theorem dX3_sum_18 : decode cX3_sum 18 = .ok (.iload_n 3, 1) := by decide +kernel
theorem dX3_sum_19 : decode cX3_sum 19 = .ok (.iadd, 1) := by decide +kernel
theorem dX3_sum_20 : decode cX3_sum 20 = .ok (.iaload, 1) := by decide +kernel
theorem dX3_sum_21 : decode cX3_sum 21 = .ok (.iadd, 1) := by decide +kernel
theorem dX3_sum_22 : decode cX3_sum 22 = .ok (.istore_n 2, 1) := by decide +kernel
theorem dX3_sum_23 : decode cX3_sum 23 = .ok (.iinc 3 1, 3) := by decide +kernel
theorem dX3_sum_26 : decode cX3_sum 26 = .ok (.goto (-22), 3) := by decide +kernel
theorem dX3_sum_0 : decode cX3_sum 0 = .ok (.iconst 0, 1) := by decide +kernel
theorem dX3_sum_1 : decode cX3_sum 1 = .ok (.istore_n 2, 1) := by decide +kernel
theorem dX3_sum_2 : decode cX3_sum 2 = .ok (.iconst 0, 1) := by decide +kernel
theorem dX3_sum_3 : decode cX3_sum 3 = .ok (.istore_n 3, 1) := by decide +kernel
theorem dX3_massAbove_6 : decode cX3_massAbove 6 = .ok (.iload_n 3, 1) := by decide +kernel
theorem dX3_massAbove_7 : decode cX3_massAbove 7 = .ok (.aload_n 0, 1) := by decide +kernel
theorem dX3_massAbove_8 : decode cX3_massAbove 8 = .ok (.getfield 9, 3) := by decide +kernel
theorem dX3_massAbove_11 : decode cX3_massAbove 11 = .ok (.if_icmp .ge 17, 3) := by decide +kernel
theorem dX3_massAbove_28 : decode cX3_massAbove 28 = .ok (.iload_n 2, 1) := by decide +kernel
theorem dX3_massAbove_29 : decode cX3_massAbove 29 = .ok (.ireturn, 1) := by decide +kernel
theorem dX3_massAbove_14 : decode cX3_massAbove 14 = .ok (.iload_n 2, 1) := by decide +kernel
theorem dX3_massAbove_15 : decode cX3_massAbove 15 = .ok (.aload_n 0, 1) := by decide +kernel
theorem dX3_massAbove_16 : decode cX3_massAbove 16 = .ok (.iload_n 3, 1) := by decide +kernel
theorem dX3_massAbove_17 : decode cX3_massAbove 17 = .ok (.invokevirtual 28, 3) := by decide +kernel
theorem dX3_massAbove_20 : decode cX3_massAbove 20 = .ok (.iadd, 1) := by decide +kernel
theorem dX3_massAbove_21 : decode cX3_massAbove 21 = .ok (.istore_n 2, 1) := by decide +kernel
theorem dX3_massAbove_22 : decode cX3_massAbove 22 = .ok (.iinc 3 1, 3) := by decide +kernel
theorem dX3_massAbove_25 : decode cX3_massAbove 25 = .ok (.goto (-19), 3) := by decide +kernel
theorem dX3_massAbove_0 : decode cX3_massAbove 0 = .ok (.iconst 0, 1) := by decide +kernel
theorem dX3_massAbove_1 : decode cX3_massAbove 1 = .ok (.istore_n 2, 1) := by decide +kernel
theorem dX3_massAbove_2 : decode cX3_massAbove 2 = .ok (.iload_n 1, 1) := by decide +kernel
theorem dX3_massAbove_3 : decode cX3_massAbove 3 = .ok (.iconst 1, 1) := by decide +kernel
theorem dX3_massAbove_4 : decode cX3_massAbove 4 = .ok (.iadd, 1) := by decide +kernel
theorem dX3_massAbove_5 : decode cX3_massAbove 5 = .ok (.istore_n 3, 1) := by decide +kernel
theorem dX3_nameOf_0 : decode cX3_nameOf 0 = .ok (.iload_n 1, 1) := by decide +kernel
theorem dX3_nameOf_1 : decode cX3_nameOf 1 = .ok (.ifCond .lt 23, 3) := by decide +kernel
theorem dX3_nameOf_24 : decode cX3_nameOf 24 = .ok (.iconst (-1), 1) := by decide +kernel
theorem dX3_nameOf_25 : decode cX3_nameOf 25 = .ok (.ireturn, 1) := by decide +kernel
theorem dX3_nameOf_4 : decode cX3_nameOf 4 = .ok (.iload_n 1, 1) := by decide +kernel
theorem dX3_nameOf_5 : decode cX3_nameOf 5 = .ok (.aload_n 0, 1) := by decide +kernel
theorem dX3_nameOf_6 : decode cX3_nameOf 6 = .ok (.getfield 9, 3) := by decide +kernel
theorem dX3_nameOf_9 : decode cX3_nameOf 9 = .ok (.if_icmp .ge 15, 3) := by decide +kernel
theorem dX3_nameOf_12 : decode cX3_nameOf 12 = .ok (.aload_n 0, 1) := by decide +kernel
theorem dX3_nameOf_13 : decode cX3_nameOf 13 = .ok (.getfield 18, 3) := by decide +kernel
theorem dX3_nameOf_16 : decode cX3_nameOf 16 = .ok (.bipush 72, 2) := by decide +kernel
theorem dX3_nameOf_18 : decode cX3_nameOf 18 = .ok (.iload_n 1, 1) := by decide +kernel
theorem dX3_nameOf_19 : decode cX3_nameOf 19 = .ok (.iadd, 1) := by decide +kernel
theorem dX3_nameOf_20 : decode cX3_nameOf 20 = .ok (.iaload, 1) := by decide +kernel
theorem dX3_nameOf_21 : decode cX3_nameOf 21 = .ok (.goto 4, 3) := by decide +kernel
theorem dX3_has_2 : decode cX3_has 2 = .ok (.iload_n 2, 1) := by decide +kernel
theorem dX3_has_3 : decode cX3_has 3 = .ok (.aload_n 0, 1) := by decide +kernel
theorem dX3_has_4 : decode cX3_has 4 = .ok (.getfield 9, 3) := by decide +kernel
theorem dX3_has_7 : decode cX3_has 7 = .ok (.if_icmp .ge 24, 3) := by decide +kernel
theorem dX3_has_31 : decode cX3_has 31 = .ok (.iconst 0, 1) := by decide +kernel
theorem dX3_has_32 : decode cX3_has 32 = .ok (.ireturn, 1) := by decide +kernel
theorem dX3_has_10 : decode cX3_has 10 = .ok (.aload_n 0, 1) := by decide +kernel
theorem dX3_has_11 : decode cX3_has 11 = .ok (.getfield 18, 3) := by decide +kernel
theorem dX3_has_14 : decode cX3_has 14 = .ok (.bipush 72, 2) := by decide +kernel
theorem dX3_has_16 : decode cX3_has 16 = .ok (.iload_n 2, 1) := by decide +kernel
theorem dX3_has_17 : decode cX3_has 17 = .ok (.iadd, 1) := by decide +kernel
theorem dX3_has_18 : decode cX3_has 18 = .ok (.iaload, 1) := by decide +kernel
theorem dX3_has_19 : decode cX3_has 19 = .ok (.iload_n 1, 1) := by decide +kernel
theorem dX3_has_20 : decode cX3_has 20 = .ok (.if_icmp .ne 5, 3) := by decide +kernel
theorem dX3_has_25 : decode cX3_has 25 = .ok (.iinc 2 1, 3) := by decide +kernel
theorem dX3_has_28 : decode cX3_has 28 = .ok (.goto (-26), 3) := by decide +kernel
theorem dX3_has_23 : decode cX3_has 23 = .ok (.iconst 1, 1) := by decide +kernel
theorem dX3_has_24 : decode cX3_has 24 = .ok (.ireturn, 1) := by decide +kernel
theorem dX3_has_0 : decode cX3_has 0 = .ok (.iconst 0, 1) := by decide +kernel
theorem dX3_has_1 : decode cX3_has 1 = .ok (.istore_n 2, 1) := by decide +kernel
theorem dX3_namesIn_4 : decode cX3_namesIn 4 = .ok (.iload_n 3, 1) := by decide +kernel
theorem dX3_namesIn_5 : decode cX3_namesIn 5 = .ok (.aload_n 0, 1) := by decide +kernel
theorem dX3_namesIn_6 : decode cX3_namesIn 6 = .ok (.getfield 9, 3) := by decide +kernel
theorem dX3_namesIn_9 : decode cX3_namesIn 9 = .ok (.if_icmp .ge 28, 3) := by decide +kernel
theorem dX3_namesIn_37 : decode cX3_namesIn 37 = .ok (.iload_n 2, 1) := by decide +kernel
theorem dX3_namesIn_38 : decode cX3_namesIn 38 = .ok (.ireturn, 1) := by decide +kernel
theorem dX3_namesIn_12 : decode cX3_namesIn 12 = .ok (.aload_n 1, 1) := by decide +kernel
theorem dX3_namesIn_13 : decode cX3_namesIn 13 = .ok (.aload_n 0, 1) := by decide +kernel
theorem dX3_namesIn_14 : decode cX3_namesIn 14 = .ok (.getfield 18, 3) := by decide +kernel
theorem dX3_namesIn_17 : decode cX3_namesIn 17 = .ok (.bipush 72, 2) := by decide +kernel
theorem dX3_namesIn_19 : decode cX3_namesIn 19 = .ok (.iload_n 3, 1) := by decide +kernel
theorem dX3_namesIn_20 : decode cX3_namesIn 20 = .ok (.iadd, 1) := by decide +kernel
theorem dX3_namesIn_21 : decode cX3_namesIn 21 = .ok (.iaload, 1) := by decide +kernel
theorem dX3_namesIn_22 : decode cX3_namesIn 22 = .ok (.invokevirtual 32, 3) := by decide +kernel
theorem dX3_namesIn_25 : decode cX3_namesIn 25 = .ok (.ifCond .eq 6, 3) := by decide +kernel
theorem dX3_namesIn_31 : decode cX3_namesIn 31 = .ok (.iinc 3 1, 3) := by decide +kernel
theorem dX3_namesIn_34 : decode cX3_namesIn 34 = .ok (.goto (-30), 3) := by decide +kernel
theorem dX3_namesIn_28 : decode cX3_namesIn 28 = .ok (.iinc 2 1, 3) := by decide +kernel
theorem dX3_namesIn_0 : decode cX3_namesIn 0 = .ok (.iconst 0, 1) := by decide +kernel
theorem dX3_namesIn_1 : decode cX3_namesIn 1 = .ok (.istore_n 2, 1) := by decide +kernel
theorem dX3_namesIn_2 : decode cX3_namesIn 2 = .ok (.iconst 0, 1) := by decide +kernel
theorem dX3_namesIn_3 : decode cX3_namesIn 3 = .ok (.istore_n 3, 1) := by decide +kernel
theorem dX5_of_0 : decode cX5_of 0 = .ok (.iload_n 1, 1) := by decide +kernel
theorem dX5_of_1 : decode cX5_of 1 = .ok (.iload_n 2, 1) := by decide +kernel
theorem dX5_of_2 : decode cX5_of 2 = .ok (.iadd, 1) := by decide +kernel
theorem dX5_of_3 : decode cX5_of 3 = .ok (.istore_n 3, 1) := by decide +kernel
theorem dX5_of_4 : decode cX5_of 4 = .ok (.iload_n 3, 1) := by decide +kernel
theorem dX5_of_5 : decode cX5_of 5 = .ok (.ifCond .lt 21, 3) := by decide +kernel
theorem dX5_of_26 : decode cX5_of 26 = .ok (.iconst 0, 1) := by decide +kernel
theorem dX5_of_27 : decode cX5_of 27 = .ok (.ireturn, 1) := by decide +kernel
theorem dX5_of_8 : decode cX5_of 8 = .ok (.iload_n 3, 1) := by decide +kernel
theorem dX5_of_9 : decode cX5_of 9 = .ok (.aload_n 0, 1) := by decide +kernel
theorem dX5_of_10 : decode cX5_of 10 = .ok (.getfield 45, 3) := by decide +kernel
theorem dX5_of_13 : decode cX5_of 13 = .ok (.arraylength, 1) := by decide +kernel
theorem dX5_of_14 : decode cX5_of 14 = .ok (.if_icmp .ge 12, 3) := by decide +kernel
theorem dX5_of_17 : decode cX5_of 17 = .ok (.aload_n 0, 1) := by decide +kernel
theorem dX5_of_18 : decode cX5_of 18 = .ok (.getfield 45, 3) := by decide +kernel
theorem dX5_of_21 : decode cX5_of 21 = .ok (.iload_n 3, 1) := by decide +kernel
theorem dX5_of_22 : decode cX5_of 22 = .ok (.iaload, 1) := by decide +kernel
theorem dX5_of_23 : decode cX5_of 23 = .ok (.goto 4, 3) := by decide +kernel
theorem dX3_grade_0 : decode cX3_grade 0 = .ok (.iload_n 1, 1) := by decide +kernel
theorem dX3_grade_1 : decode cX3_grade 1 = .ok (.iconst 1, 1) := by decide +kernel
theorem dX3_grade_2 : decode cX3_grade 2 = .ok (.iadd, 1) := by decide +kernel
theorem dX3_grade_3 : decode cX3_grade 3 = .ok (.aload_n 0, 1) := by decide +kernel
theorem dX3_grade_4 : decode cX3_grade 4 = .ok (.getfield 9, 3) := by decide +kernel
theorem dX3_grade_7 : decode cX3_grade 7 = .ok (.if_icmp .ge 17, 3) := by decide +kernel
theorem dX3_grade_24 : decode cX3_grade 24 = .ok (.iload_n 2, 1) := by decide +kernel
theorem dX3_grade_25 : decode cX3_grade 25 = .ok (.iconst 0, 1) := by decide +kernel
theorem dX3_grade_26 : decode cX3_grade 26 = .ok (.invokestatic 46, 3) := by decide +kernel
theorem dX3_grade_29 : decode cX3_grade 29 = .ok (.istore_n 3, 1) := by decide +kernel
theorem dX3_grade_30 : decode cX3_grade 30 = .ok (.iload_n 1, 1) := by decide +kernel
theorem dX3_grade_31 : decode cX3_grade 31 = .ok (.ifCond .le 17, 3) := by decide +kernel
theorem dX3_grade_48 : decode cX3_grade 48 = .ok (.iconst 0, 1) := by decide +kernel
theorem dX3_grade_49 : decode cX3_grade 49 = .ok (.istore 4, 2) := by decide +kernel
theorem dX3_grade_51 : decode cX3_grade 51 = .ok (.ldc2_w 73, 3) := by decide +kernel
theorem dX3_grade_54 : decode cX3_grade 54 = .ok (.iload_n 3, 1) := by decide +kernel
theorem dX3_grade_55 : decode cX3_grade 55 = .ok (.iload 4, 2) := by decide +kernel
theorem dX3_grade_57 : decode cX3_grade 57 = .ok (.isub, 1) := by decide +kernel
theorem dX3_grade_58 : decode cX3_grade 58 = .ok (.invokestatic 75, 3) := by decide +kernel
theorem dX3_grade_61 : decode cX3_grade 61 = .ok (.i2l, 1) := by decide +kernel
theorem dX3_grade_62 : decode cX3_grade 62 = .ok (.lmul, 1) := by decide +kernel
theorem dX3_grade_63 : decode cX3_grade 63 = .ok (.aload_n 0, 1) := by decide +kernel
theorem dX3_grade_64 : decode cX3_grade 64 = .ok (.getfield 18, 3) := by decide +kernel
theorem dX3_grade_67 : decode cX3_grade 67 = .ok (.bipush 36, 2) := by decide +kernel
theorem dX3_grade_69 : decode cX3_grade 69 = .ok (.iload_n 1, 1) := by decide +kernel
theorem dX3_grade_70 : decode cX3_grade 70 = .ok (.iadd, 1) := by decide +kernel
theorem dX3_grade_71 : decode cX3_grade 71 = .ok (.iaload, 1) := by decide +kernel
theorem dX3_grade_72 : decode cX3_grade 72 = .ok (.i2l, 1) := by decide +kernel
theorem dX3_grade_73 : decode cX3_grade 73 = .ok (.invokestatic 36, 3) := by decide +kernel
theorem dX3_grade_76 : decode cX3_grade 76 = .ok (.ireturn, 1) := by decide +kernel
theorem dX3_grade_34 : decode cX3_grade 34 = .ok (.aload_n 0, 1) := by decide +kernel
theorem dX3_grade_35 : decode cX3_grade 35 = .ok (.getfield 18, 3) := by decide +kernel
theorem dX3_grade_38 : decode cX3_grade 38 = .ok (.bipush 48, 2) := by decide +kernel
theorem dX3_grade_40 : decode cX3_grade 40 = .ok (.iload_n 1, 1) := by decide +kernel
theorem dX3_grade_41 : decode cX3_grade 41 = .ok (.iadd, 1) := by decide +kernel
theorem dX3_grade_42 : decode cX3_grade 42 = .ok (.iconst 1, 1) := by decide +kernel
theorem dX3_grade_43 : decode cX3_grade 43 = .ok (.isub, 1) := by decide +kernel
theorem dX3_grade_44 : decode cX3_grade 44 = .ok (.iaload, 1) := by decide +kernel
theorem dX3_grade_45 : decode cX3_grade 45 = .ok (.goto 4, 3) := by decide +kernel
theorem dX3_grade_10 : decode cX3_grade 10 = .ok (.aload_n 0, 1) := by decide +kernel
theorem dX3_grade_11 : decode cX3_grade 11 = .ok (.getfield 18, 3) := by decide +kernel
theorem dX3_grade_14 : decode cX3_grade 14 = .ok (.bipush 48, 2) := by decide +kernel
theorem dX3_grade_16 : decode cX3_grade 16 = .ok (.iload_n 1, 1) := by decide +kernel
theorem dX3_grade_17 : decode cX3_grade 17 = .ok (.iadd, 1) := by decide +kernel
theorem dX3_grade_18 : decode cX3_grade 18 = .ok (.iconst 1, 1) := by decide +kernel
theorem dX3_grade_19 : decode cX3_grade 19 = .ok (.iadd, 1) := by decide +kernel
theorem dX3_grade_20 : decode cX3_grade 20 = .ok (.iaload, 1) := by decide +kernel
theorem dX3_grade_21 : decode cX3_grade 21 = .ok (.goto 8, 3) := by decide +kernel
theorem dX3_strength_0 : decode cX3_strength 0 = .ok (.aload_n 2, 1) := by decide +kernel
theorem dX3_strength_1 : decode cX3_strength 1 = .ok (.iconst 0, 1) := by decide +kernel
theorem dX3_strength_2 : decode cX3_strength 2 = .ok (.aload_n 0, 1) := by decide +kernel
theorem dX3_strength_3 : decode cX3_strength 3 = .ok (.getfield 18, 3) := by decide +kernel
theorem dX3_strength_6 : decode cX3_strength 6 = .ok (.iconst 0, 1) := by decide +kernel
theorem dX3_strength_7 : decode cX3_strength 7 = .ok (.iload_n 1, 1) := by decide +kernel
theorem dX3_strength_8 : decode cX3_strength 8 = .ok (.iadd, 1) := by decide +kernel
theorem dX3_strength_9 : decode cX3_strength 9 = .ok (.iaload, 1) := by decide +kernel
theorem dX3_strength_10 : decode cX3_strength 10 = .ok (.invokevirtual 57, 3) := by decide +kernel
theorem dX3_strength_13 : decode cX3_strength 13 = .ok (.istore_n 3, 1) := by decide +kernel
theorem dX3_strength_14 : decode cX3_strength 14 = .ok (.ldc2_w 73, 3) := by decide +kernel
theorem dX3_strength_17 : decode cX3_strength 17 = .ok (.iload_n 3, 1) := by decide +kernel
theorem dX3_strength_18 : decode cX3_strength 18 = .ok (.i2l, 1) := by decide +kernel
theorem dX3_strength_19 : decode cX3_strength 19 = .ok (.lmul, 1) := by decide +kernel
theorem dX3_strength_20 : decode cX3_strength 20 = .ok (.aload_n 0, 1) := by decide +kernel
theorem dX3_strength_21 : decode cX3_strength 21 = .ok (.iload_n 1, 1) := by decide +kernel
theorem dX3_strength_22 : decode cX3_strength 22 = .ok (.invokevirtual 28, 3) := by decide +kernel
theorem dX3_strength_25 : decode cX3_strength 25 = .ok (.i2l, 1) := by decide +kernel
theorem dX3_strength_26 : decode cX3_strength 26 = .ok (.lmul, 1) := by decide +kernel
theorem dX3_strength_27 : decode cX3_strength 27 = .ok (.aload_n 0, 1) := by decide +kernel
theorem dX3_strength_28 : decode cX3_strength 28 = .ok (.getfield 18, 3) := by decide +kernel
theorem dX3_strength_31 : decode cX3_strength 31 = .ok (.bipush 36, 2) := by decide +kernel
theorem dX3_strength_33 : decode cX3_strength 33 = .ok (.iload_n 1, 1) := by decide +kernel
theorem dX3_strength_34 : decode cX3_strength 34 = .ok (.iadd, 1) := by decide +kernel
theorem dX3_strength_35 : decode cX3_strength 35 = .ok (.iaload, 1) := by decide +kernel
theorem dX3_strength_36 : decode cX3_strength 36 = .ok (.i2l, 1) := by decide +kernel
theorem dX3_strength_37 : decode cX3_strength 37 = .ok (.invokestatic 36, 3) := by decide +kernel
theorem dX3_strength_40 : decode cX3_strength 40 = .ok (.istore 4, 2) := by decide +kernel
theorem dX3_strength_42 : decode cX3_strength 42 = .ok (.ldc2_w 62, 3) := by decide +kernel
theorem dX3_strength_45 : decode cX3_strength 45 = .ok (.aload_n 0, 1) := by decide +kernel
theorem dX3_strength_46 : decode cX3_strength 46 = .ok (.getfield 18, 3) := by decide +kernel
theorem dX3_strength_49 : decode cX3_strength 49 = .ok (.bipush 24, 2) := by decide +kernel
theorem dX3_strength_51 : decode cX3_strength 51 = .ok (.iload_n 1, 1) := by decide +kernel
theorem dX3_strength_52 : decode cX3_strength 52 = .ok (.iadd, 1) := by decide +kernel
theorem dX3_strength_53 : decode cX3_strength 53 = .ok (.iaload, 1) := by decide +kernel
theorem dX3_strength_54 : decode cX3_strength 54 = .ok (.i2l, 1) := by decide +kernel
theorem dX3_strength_55 : decode cX3_strength 55 = .ok (.lmul, 1) := by decide +kernel
theorem dX3_strength_56 : decode cX3_strength 56 = .ok (.ldc2_w 78, 3) := by decide +kernel
theorem dX3_strength_59 : decode cX3_strength 59 = .ok (.aload_n 0, 1) := by decide +kernel
theorem dX3_strength_60 : decode cX3_strength 60 = .ok (.getfield 18, 3) := by decide +kernel
theorem dX3_strength_63 : decode cX3_strength 63 = .ok (.bipush 12, 2) := by decide +kernel
theorem dX3_strength_65 : decode cX3_strength 65 = .ok (.iload_n 1, 1) := by decide +kernel
theorem dX3_strength_66 : decode cX3_strength 66 = .ok (.iadd, 1) := by decide +kernel
theorem dX3_strength_67 : decode cX3_strength 67 = .ok (.iaload, 1) := by decide +kernel
theorem dX3_strength_68 : decode cX3_strength 68 = .ok (.i2l, 1) := by decide +kernel
theorem dX3_strength_69 : decode cX3_strength 69 = .ok (.lmul, 1) := by decide +kernel
theorem dX3_strength_70 : decode cX3_strength 70 = .ok (.lcmp, 1) := by decide +kernel
theorem dX3_strength_71 : decode cX3_strength 71 = .ok (.ifCond .lt 7, 3) := by decide +kernel
theorem dX3_strength_78 : decode cX3_strength 78 = .ok (.iconst 0, 1) := by decide +kernel
theorem dX3_strength_79 : decode cX3_strength 79 = .ok (.istore 5, 2) := by decide +kernel
theorem dX3_strength_81 : decode cX3_strength 81 = .ok (.iload 5, 2) := by decide +kernel
theorem dX3_strength_83 : decode cX3_strength 83 = .ok (.ifCond .eq 10, 3) := by decide +kernel
theorem dX3_strength_93 : decode cX3_strength 93 = .ok (.iload 4, 2) := by decide +kernel
theorem dX3_strength_95 : decode cX3_strength 95 = .ok (.ireturn, 1) := by decide +kernel
theorem dX3_strength_74 : decode cX3_strength 74 = .ok (.iconst 1, 1) := by decide +kernel
theorem dX3_strength_75 : decode cX3_strength 75 = .ok (.goto 4, 3) := by decide +kernel
theorem dX3_strength_86 : decode cX3_strength 86 = .ok (.iload 4, 2) := by decide +kernel
theorem dX3_strength_88 : decode cX3_strength 88 = .ok (.iconst 2, 1) := by decide +kernel
theorem dX3_strength_89 : decode cX3_strength 89 = .ok (.idiv, 1) := by decide +kernel
theorem dX3_strength_90 : decode cX3_strength 90 = .ok (.goto 5, 3) := by decide +kernel
theorem dX3_ratio_0 : decode cX3_ratio 0 = .ok (.iload_n 2, 1) := by decide +kernel
theorem dX3_ratio_1 : decode cX3_ratio 1 = .ok (.ifCond .gt 7, 3) := by decide +kernel
theorem dX3_ratio_8 : decode cX3_ratio 8 = .ok (.ldc2_w 62, 3) := by decide +kernel
theorem dX3_ratio_11 : decode cX3_ratio 11 = .ok (.aload_n 0, 1) := by decide +kernel
theorem dX3_ratio_12 : decode cX3_ratio 12 = .ok (.iload_n 1, 1) := by decide +kernel
theorem dX3_ratio_13 : decode cX3_ratio 13 = .ok (.aload_n 3, 1) := by decide +kernel
theorem dX3_ratio_14 : decode cX3_ratio 14 = .ok (.invokevirtual 80, 3) := by decide +kernel
theorem dX3_ratio_17 : decode cX3_ratio 17 = .ok (.i2l, 1) := by decide +kernel
theorem dX3_ratio_18 : decode cX3_ratio 18 = .ok (.lmul, 1) := by decide +kernel
theorem dX3_ratio_19 : decode cX3_ratio 19 = .ok (.iload_n 2, 1) := by decide +kernel
theorem dX3_ratio_20 : decode cX3_ratio 20 = .ok (.i2l, 1) := by decide +kernel
theorem dX3_ratio_21 : decode cX3_ratio 21 = .ok (.ldiv, 1) := by decide +kernel
theorem dX3_ratio_22 : decode cX3_ratio 22 = .ok (.ldc2_w 84, 3) := by decide +kernel
theorem dX3_ratio_25 : decode cX3_ratio 25 = .ok (.invokestatic 86, 3) := by decide +kernel
theorem dX3_ratio_28 : decode cX3_ratio 28 = .ok (.l2i, 1) := by decide +kernel
theorem dX3_ratio_29 : decode cX3_ratio 29 = .ok (.ireturn, 1) := by decide +kernel
theorem dX3_ratio_4 : decode cX3_ratio 4 = .ok (.sipush 9999, 3) := by decide +kernel
theorem dX3_ratio_7 : decode cX3_ratio 7 = .ok (.ireturn, 1) := by decide +kernel
theorem dX3_weakest_18 : decode cX3_weakest 18 = .ok (.iload 6, 2) := by decide +kernel
theorem dX3_weakest_20 : decode cX3_weakest 20 = .ok (.ifCond .lt 49, 3) := by decide +kernel
theorem dX3_weakest_69 : decode cX3_weakest 69 = .ok (.iload_n 3, 1) := by decide +kernel
theorem dX3_weakest_70 : decode cX3_weakest 70 = .ok (.ireturn, 1) := by decide +kernel
theorem dX3_weakest_23 : decode cX3_weakest 23 = .ok (.aload_n 0, 1) := by decide +kernel
theorem dX3_weakest_24 : decode cX3_weakest 24 = .ok (.iload 6, 2) := by decide +kernel
theorem dX3_weakest_26 : decode cX3_weakest 26 = .ok (.iload 5, 2) := by decide +kernel
theorem dX3_weakest_28 : decode cX3_weakest 28 = .ok (.iload_n 1, 1) := by decide +kernel
theorem dX3_weakest_29 : decode cX3_weakest 29 = .ok (.invokestatic 88, 3) := by decide +kernel
theorem dX3_weakest_32 : decode cX3_weakest 32 = .ok (.aload_n 2, 1) := by decide +kernel
theorem dX3_weakest_33 : decode cX3_weakest 33 = .ok (.invokevirtual 91, 3) := by decide +kernel
theorem dX3_weakest_36 : decode cX3_weakest 36 = .ok (.istore 7, 2) := by decide +kernel
theorem dX3_weakest_38 : decode cX3_weakest 38 = .ok (.iload 7, 2) := by decide +kernel
theorem dX3_weakest_40 : decode cX3_weakest 40 = .ok (.iload 4, 2) := by decide +kernel
theorem dX3_weakest_42 : decode cX3_weakest 42 = .ok (.if_icmp .gt 10, 3) := by decide +kernel
theorem dX3_weakest_52 : decode cX3_weakest 52 = .ok (.iload 5, 2) := by decide +kernel
theorem dX3_weakest_54 : decode cX3_weakest 54 = .ok (.aload_n 0, 1) := by decide +kernel
theorem dX3_weakest_55 : decode cX3_weakest 55 = .ok (.iload 6, 2) := by decide +kernel
theorem dX3_weakest_57 : decode cX3_weakest 57 = .ok (.invokevirtual 28, 3) := by decide +kernel
theorem dX3_weakest_60 : decode cX3_weakest 60 = .ok (.iadd, 1) := by decide +kernel
theorem dX3_weakest_61 : decode cX3_weakest 61 = .ok (.istore 5, 2) := by decide +kernel
theorem dX3_weakest_63 : decode cX3_weakest 63 = .ok (.iinc 6 (-1), 3) := by decide +kernel
theorem dX3_weakest_66 : decode cX3_weakest 66 = .ok (.goto (-48), 3) := by decide +kernel
theorem dX3_weakest_45 : decode cX3_weakest 45 = .ok (.iload 6, 2) := by decide +kernel
theorem dX3_weakest_47 : decode cX3_weakest 47 = .ok (.istore_n 3, 1) := by decide +kernel
theorem dX3_weakest_48 : decode cX3_weakest 48 = .ok (.iload 7, 2) := by decide +kernel
theorem dX3_weakest_50 : decode cX3_weakest 50 = .ok (.istore 4, 2) := by decide +kernel
theorem dX3_weakest_0 : decode cX3_weakest 0 = .ok (.iconst (-1), 1) := by decide +kernel
theorem dX3_weakest_1 : decode cX3_weakest 1 = .ok (.istore_n 3, 1) := by decide +kernel
theorem dX3_weakest_2 : decode cX3_weakest 2 = .ok (.sipush 9999, 3) := by decide +kernel
theorem dX3_weakest_5 : decode cX3_weakest 5 = .ok (.istore 4, 2) := by decide +kernel
theorem dX3_weakest_7 : decode cX3_weakest 7 = .ok (.iconst 0, 1) := by decide +kernel
theorem dX3_weakest_8 : decode cX3_weakest 8 = .ok (.istore 5, 2) := by decide +kernel
theorem dX3_weakest_10 : decode cX3_weakest 10 = .ok (.aload_n 0, 1) := by decide +kernel
theorem dX3_weakest_11 : decode cX3_weakest 11 = .ok (.getfield 9, 3) := by decide +kernel
theorem dX3_weakest_14 : decode cX3_weakest 14 = .ok (.iconst 1, 1) := by decide +kernel
theorem dX3_weakest_15 : decode cX3_weakest 15 = .ok (.isub, 1) := by decide +kernel
theorem dX3_weakest_16 : decode cX3_weakest 16 = .ok (.istore 6, 2) := by decide +kernel
theorem dX3_leastRatio_0 : decode cX3_leastRatio 0 = .ok (.aload_n 0, 1) := by decide +kernel
theorem dX3_leastRatio_1 : decode cX3_leastRatio 1 = .ok (.iload_n 1, 1) := by decide +kernel
theorem dX3_leastRatio_2 : decode cX3_leastRatio 2 = .ok (.aload_n 2, 1) := by decide +kernel
theorem dX3_leastRatio_3 : decode cX3_leastRatio 3 = .ok (.invokevirtual 95, 3) := by decide +kernel
theorem dX3_leastRatio_6 : decode cX3_leastRatio 6 = .ok (.istore_n 3, 1) := by decide +kernel
theorem dX3_leastRatio_7 : decode cX3_leastRatio 7 = .ok (.iload_n 3, 1) := by decide +kernel
theorem dX3_leastRatio_8 : decode cX3_leastRatio 8 = .ok (.iconst (-1), 1) := by decide +kernel
theorem dX3_leastRatio_9 : decode cX3_leastRatio 9 = .ok (.if_icmp .ne 9, 3) := by decide +kernel
theorem dX3_leastRatio_18 : decode cX3_leastRatio 18 = .ok (.aload_n 0, 1) := by decide +kernel
theorem dX3_leastRatio_19 : decode cX3_leastRatio 19 = .ok (.iload_n 3, 1) := by decide +kernel
theorem dX3_leastRatio_20 : decode cX3_leastRatio 20 = .ok (.aload_n 0, 1) := by decide +kernel
theorem dX3_leastRatio_21 : decode cX3_leastRatio 21 = .ok (.iload_n 3, 1) := by decide +kernel
theorem dX3_leastRatio_22 : decode cX3_leastRatio 22 = .ok (.invokevirtual 98, 3) := by decide +kernel
theorem dX3_leastRatio_25 : decode cX3_leastRatio 25 = .ok (.iload_n 1, 1) := by decide +kernel
theorem dX3_leastRatio_26 : decode cX3_leastRatio 26 = .ok (.invokestatic 88, 3) := by decide +kernel
theorem dX3_leastRatio_29 : decode cX3_leastRatio 29 = .ok (.aload_n 2, 1) := by decide +kernel
theorem dX3_leastRatio_30 : decode cX3_leastRatio 30 = .ok (.invokevirtual 91, 3) := by decide +kernel
theorem dX3_leastRatio_33 : decode cX3_leastRatio 33 = .ok (.ireturn, 1) := by decide +kernel
theorem dX3_leastRatio_12 : decode cX3_leastRatio 12 = .ok (.sipush 9999, 3) := by decide +kernel
theorem dX3_leastRatio_15 : decode cX3_leastRatio 15 = .ok (.goto 18, 3) := by decide +kernel
theorem dX3_lowestUnstable_14 : decode cX3_lowestUnstable 14 = .ok (.iload 6, 2) := by decide +kernel
theorem dX3_lowestUnstable_16 : decode cX3_lowestUnstable 16 = .ok (.ifCond .lt 42, 3) := by decide +kernel
theorem dX3_lowestUnstable_58 : decode cX3_lowestUnstable 58 = .ok (.iload 4, 2) := by decide +kernel
theorem dX3_lowestUnstable_60 : decode cX3_lowestUnstable 60 = .ok (.ireturn, 1) := by decide +kernel
theorem dX3_lowestUnstable_19 : decode cX3_lowestUnstable 19 = .ok (.aload_n 0, 1) := by decide +kernel
theorem dX3_lowestUnstable_20 : decode cX3_lowestUnstable 20 = .ok (.iload 6, 2) := by decide +kernel
theorem dX3_lowestUnstable_22 : decode cX3_lowestUnstable 22 = .ok (.iload 5, 2) := by decide +kernel
theorem dX3_lowestUnstable_24 : decode cX3_lowestUnstable 24 = .ok (.iload_n 1, 1) := by decide +kernel
theorem dX3_lowestUnstable_25 : decode cX3_lowestUnstable 25 = .ok (.invokestatic 88, 3) := by decide +kernel
theorem dX3_lowestUnstable_28 : decode cX3_lowestUnstable 28 = .ok (.aload_n 3, 1) := by decide +kernel
theorem dX3_lowestUnstable_29 : decode cX3_lowestUnstable 29 = .ok (.invokevirtual 91, 3) := by decide +kernel
theorem dX3_lowestUnstable_32 : decode cX3_lowestUnstable 32 = .ok (.bipush 100, 2) := by decide +kernel
theorem dX3_lowestUnstable_34 : decode cX3_lowestUnstable 34 = .ok (.if_icmp .ge 7, 3) := by decide +kernel
theorem dX3_lowestUnstable_41 : decode cX3_lowestUnstable 41 = .ok (.iload 5, 2) := by decide +kernel
theorem dX3_lowestUnstable_43 : decode cX3_lowestUnstable 43 = .ok (.aload_n 0, 1) := by decide +kernel
theorem dX3_lowestUnstable_44 : decode cX3_lowestUnstable 44 = .ok (.iload 6, 2) := by decide +kernel
theorem dX3_lowestUnstable_46 : decode cX3_lowestUnstable 46 = .ok (.invokevirtual 28, 3) := by decide +kernel
theorem dX3_lowestUnstable_49 : decode cX3_lowestUnstable 49 = .ok (.iadd, 1) := by decide +kernel
theorem dX3_lowestUnstable_50 : decode cX3_lowestUnstable 50 = .ok (.istore 5, 2) := by decide +kernel
theorem dX3_lowestUnstable_52 : decode cX3_lowestUnstable 52 = .ok (.iinc 6 (-1), 3) := by decide +kernel
theorem dX3_lowestUnstable_55 : decode cX3_lowestUnstable 55 = .ok (.goto (-41), 3) := by decide +kernel
theorem dX3_lowestUnstable_37 : decode cX3_lowestUnstable 37 = .ok (.iload 6, 2) := by decide +kernel
theorem dX3_lowestUnstable_39 : decode cX3_lowestUnstable 39 = .ok (.istore 4, 2) := by decide +kernel
theorem dX3_lowestUnstable_0 : decode cX3_lowestUnstable 0 = .ok (.iconst (-1), 1) := by decide +kernel
theorem dX3_lowestUnstable_1 : decode cX3_lowestUnstable 1 = .ok (.istore 4, 2) := by decide +kernel
theorem dX3_lowestUnstable_3 : decode cX3_lowestUnstable 3 = .ok (.iload_n 2, 1) := by decide +kernel
theorem dX3_lowestUnstable_4 : decode cX3_lowestUnstable 4 = .ok (.istore 5, 2) := by decide +kernel
theorem dX3_lowestUnstable_6 : decode cX3_lowestUnstable 6 = .ok (.aload_n 0, 1) := by decide +kernel
theorem dX3_lowestUnstable_7 : decode cX3_lowestUnstable 7 = .ok (.getfield 9, 3) := by decide +kernel
theorem dX3_lowestUnstable_10 : decode cX3_lowestUnstable 10 = .ok (.iconst 1, 1) := by decide +kernel
theorem dX3_lowestUnstable_11 : decode cX3_lowestUnstable 11 = .ok (.isub, 1) := by decide +kernel
theorem dX3_lowestUnstable_12 : decode cX3_lowestUnstable 12 = .ok (.istore 6, 2) := by decide +kernel
end
section
-- 19.pack.lean.txt
theorem z_ext {p : Program} {l : Launch} {e : Env} {R : Room} {s : State} {m : MethodId} {args : Array Value} {below : List Frame} {meth : Method} {c : Code} {Q : State → Prop} {D : va_G} {A : Nat → Prop} {cs : Nat → ClassId} {nL N : Nat} {ad : Nat → Nat} {g : Nat → va_E} {k n pc : Nat} {lv : List (Nat × Value)} {st : List Value} {i M : Nat} {r r' : Nat → Int} (hi : i < N) (hg : g i = iA cs M r) (h : ∀ j, j < M → r j = r' j) (kk : ∀ g' : Nat → va_E, g' = va_up g i (iA cs M r') → zV p l e R s m args below meth c Q D A nL N ad g' k n pc lv st) : zV p l e R s m args below meth c Q D A nL N ad g k n pc lv st := by
  intro H locs ls hP hD hS hl
  have he := (wl_at (ad := ad) (g := g) hi).trans (by rw [hg])
  have hc : H[ad i]? = some (vp_cell (cs 1) (M, .inl (fun j => zI (r j)))) := hP i _ he
  have e9 : vp_cell (cs 1) (M, .inl (fun j => zI (r j))) = vp_cell (cs 1) (M, .inl (fun j => zI (r' j))) := by
    show arrV (cs 1) M (fun j => .int (zI (r j))) = arrV (cs 1) M (fun j => .int (zI (r' j)))
    unfold arrV
    congr 1
    apply Array.ext
    · simp
    · intro j h1 h2
      simp only [Array.getElem_ofFn]
      rw [h j (by simpa using h1)]
  rw [e9] at hc
  have hP1 := hP.set (e := iA cs M r') hD he hc (fun _ _ => rfl)
  have hD1 := hD.set (e := iA cs M r') he
  rw [wl_set] at hP1 hD1
  exact kk _ rfl H locs ls hP1 hD1 hS hl

abbrev okPack (cs : Nat → ClassId) (ad : Nat → Nat) (g : Nat → va_E) (a : Nat) : Prop := ∃ (sz ro : Int) (r : Nat → Int), (0 ≤ sz ∧ sz ≤ 12) ∧ isPack cs ad g a sz ro r
set_option maxRecDepth 100000 in
set_option maxHeartbeats 4000000 in
theorem c_X9_part (l : Launch) (D : va_G) (A : Nat → Prop) (cs : Nat → ClassId) (tt : Nat) (N : Nat) (ad : Nat → Nat) (g : Nat → va_E) (a b : Int) (ha : -9223372036854775808 ≤ a ∧ a ≤ 9223372036854775807) (hb : -9223372036854775808 ≤ b ∧ b ≤ 9223372036854775807) : zM l yX9_part cX9_part 4 (some .int) ({ frames := 1, cells := 0, slots := 0, locals := 60 } : Room) D A cs tt N ad g [.long (zJ (a)), .long (zJ (b))] (rI0 N ad fun r g' => (-2147483648 ≤ r ∧ r ≤ 2147483647) ∧ g = g') := by
  refine z_of (by decide) (Nat.le_of_ble_eq_true rfl) ?_
  intro p e s m below meth c C hr hlk hnm
  refine z_lv (lv' := [(0, .long (zJ (a))), (2, .long (zJ (b)))]) [0, 1] rfl ?_
  refine z_lload_n C 1 dX9_part_0 rfl ?_
  refine z_lconst (z := 0) C dX9_part_1 (by decide) ?_
  refine z_lcmp C dX9_part_2 (by omega) (by omega) ?_
  have hczr := cmpZ_r (a := b) (b := 0)
  refine z_if_ne (tgt := 10) C dX9_part_3 (by decide) (by omega) (fun hby1 => ?_) (fun hby1 => ?_)
  · have hcy2 : ¬ (b = 0) := fun e9 => hby1 (cmpZ_eq.mpr e9)
    refine z_lload_n C 0 dX9_part_10 rfl ?_
    refine z_lload_n C 1 dX9_part_11 rfl ?_
    refine z_ldiv C dX9_part_12 (by omega) (by omega) (by omega) ?_
    refine z_l2i C dX9_part_13 ?_
    obtain ⟨xy3, exy4, hxy5⟩ := zI_of (zI (a.tdiv b))
    rw [exy4]
    exact z_iret C hr hlk dX9_part_14 (by decide) (by decide) ⟨xy3, rfl, rfl, rfl, by omega, rfl⟩
  · have hcy2 : b = 0 := cmpZ_eq.mp hby1
    refine z_iconst (z := 0) C dX9_part_6 rfl ?_
    refine z_goto (tgt := 14) C dX9_part_7 (by decide) ?_
    exact z_iret C hr hlk dX9_part_14 (by decide) (by decide) ⟨0, rfl, rfl, rfl, by omega, rfl⟩

set_option maxRecDepth 100000 in
set_option maxHeartbeats 4000000 in
theorem c_X9_burden (l : Launch) (D : va_G) (A : Nat → Prop) (cs : Nat → ClassId) (tt : Nat) (N : Nat) (ad : Nat → Nat) (g : Nat → va_E) (z z1 : Int) (hz : -2147483648 ≤ z ∧ z ≤ 2147483647) (hz1 : -2147483648 ≤ z1 ∧ z1 ≤ 2147483647) : zM l yX9_burden cX9_burden 2 (some .int) ({ frames := 2, cells := 0, slots := 0, locals := 120 } : Room) D A cs tt N ad g [.int (zI (z)), .int (zI (z1))] (rI0 N ad fun r g' => (-2147483648 ≤ r ∧ r ≤ 2147483647) ∧ g = g') := by
  refine z_of (by decide) (Nat.le_of_ble_eq_true rfl) ?_
  intro p e s m below meth c C hr hlk hnm
  refine z_lv (lv' := [(0, .int (zI (z))), (1, .int (zI (z1)))]) [0, 1] rfl ?_
  refine z_iload_n C 0 dX9_burden_0 rfl ?_
  refine z_i2l C dX9_burden_1 (by omega) ?_
  refine z_iload_n C 1 dX9_burden_2 rfl ?_
  refine z_i2l C dX9_burden_3 (by omega) ?_
  refine z_lmul C dX9_burden_4 ?_
  refine z_ldc2 (z := 100) C dX9_burden_5 q_571 (by decide) ?_
  obtain ⟨xy1, exy2, hxy3⟩ := zJ_of (zJ (z * z1))
  rw [exy2]
  refine z_cS (As := [.long (zJ (xy1)), .long (zJ (100))]) (rest := []) C (c_X9_part l D A cs tt N ad _ (xy1) (100) (by omega) (by omega)) ms_yX9_part q_572 hd_yX9_part (by decide) (Nat.le_of_ble_eq_true rfl) (by decide) dX9_burden_8 rfl (kI0 fun vy4 gvy4 hvy4 => ?_)
  obtain ⟨hvy4, rfl⟩ := hvy4
  exact z_iret C hr hlk dX9_burden_11 (by decide) (by decide) ⟨vy4, rfl, rfl, rfl, by omega, rfl⟩

set_option maxRecDepth 100000 in
set_option maxHeartbeats 4000000 in
theorem c_X3_mass (l : Launch) (D : va_G) (A : Nat → Prop) (cs : Nat → ClassId) (tt : Nat) (N : Nat) (ad : Nat → Nat) (g : Nat → va_E) (a : Nat) (hN : a + 2 ≤ N) (sz ro : Int) (r : Nat → Int) (hz : 0 ≤ sz ∧ sz ≤ 12) (ha : isPack cs ad g a sz ro r) (z : Int) (hzl : 0 ≤ z ∧ z ≤ 11) : zM l yX3_mass cX3_mass 2 (some .int) ({ frames := 1, cells := 0, slots := 0, locals := 60 } : Room) D A cs tt N ad g [.ref (ad a), .int (zI (z))] (rI0 N ad fun r g' => (-2147483648 ≤ r ∧ r ≤ 2147483647) ∧ g = g') := by
  have hay1 : zAt ad (a) (ad a) := rfl
  have hay2 : zAt ad (a + 1) (ad (a + 1)) := rfl
  refine z_of (by decide) (Nat.le_of_ble_eq_true rfl) ?_
  intro p e s m below meth c C hr hlk hnm
  refine z_lv (lv' := [(0, .ref (ad a)), (1, .int (zI (z)))]) [0, 1] rfl ?_
  refine z_aload_n C 0 dX3_mass_0 rfl ?_
  refine z_get (v := .ref (ad (a + 1))) C (lt_A0 hN rfl) hay1 ha.1 rfl inA_X3 2 (by decide) q_162 rfl rfl dX3_mass_1 ?_
  refine z_bipush (z := 12) C dX3_mass_4 (by decide) ?_
  refine z_iload_n C 1 dX3_mass_6 rfl ?_
  refine z_iadd C dX3_mass_7 ?_
  refine z_iald C (lt_A (c := 1) hN rfl) hay2 ha.2 ((12 + z).toNat) (by omega) (by omega) (by decide) dX3_mass_8 ?_
  refine z_aload_n C 0 dX3_mass_9 rfl ?_
  refine z_get (v := .ref (ad (a + 1))) C (lt_A0 hN rfl) hay1 ha.1 rfl inA_X3 2 (by decide) q_162 rfl rfl dX3_mass_10 ?_
  refine z_bipush (z := 24) C dX3_mass_13 (by decide) ?_
  refine z_iload_n C 1 dX3_mass_15 rfl ?_
  refine z_iadd C dX3_mass_16 ?_
  refine z_iald C (lt_A (c := 1) hN rfl) hay2 ha.2 ((24 + z).toNat) (by omega) (by omega) (by decide) dX3_mass_17 ?_
  refine z_iadd C dX3_mass_18 ?_
  obtain ⟨xy3, exy4, hxy5⟩ := zI_of (zI ((r ((12 + z).toNat)) + (r ((24 + z).toNat))))
  rw [exy4]
  exact z_iret C hr hlk dX3_mass_19 (by decide) (by decide) ⟨xy3, rfl, rfl, rfl, by omega, rfl⟩

set_option maxRecDepth 100000 in
set_option maxHeartbeats 4000000 in
theorem c_X3_sum (l : Launch) (D : va_G) (A : Nat → Prop) (cs : Nat → ClassId) (tt : Nat) (N : Nat) (ad : Nat → Nat) (g : Nat → va_E) (a : Nat) (hN : a + 2 ≤ N) (sz ro : Int) (r : Nat → Int) (hz : 0 ≤ sz ∧ sz ≤ 12) (ha : isPack cs ad g a sz ro r) (z : Int) (hzr : 0 ≤ z ∧ z ≤ 72) : zM l yX3_sum cX3_sum 4 (some .int) ({ frames := 1, cells := 0, slots := 0, locals := 60 } : Room) D A cs tt N ad g [.ref (ad a), .int (zI (z))] (rI0 N ad fun r g' => (-2147483648 ≤ r ∧ r ≤ 2147483647) ∧ g = g') := by
  have hay1 : zAt ad (a) (ad a) := rfl
  have hay2 : zAt ad (a + 1) (ad (a + 1)) := rfl
  refine z_of (by decide) (Nat.le_of_ble_eq_true rfl) ?_
  intro p e s m below meth c C hr hlk hnm
  refine z_lv (lv' := [(0, .ref (ad a)), (1, .int (zI (z)))]) [0, 1] rfl ?_
  have lp : ∀ (n9 : Nat) (al : Int) (i : Int) (g1 : Nat → va_E), (sz - i).toNat = n9 → (g1 = g) → (-2147483648 ≤ al ∧ al ≤ 2147483647) → (0 ≤ i ∧ i ≤ 12) → zV p l e ({ frames := 1, cells := 0, slots := 0, locals := 60 } : Room) s m ([.ref (ad a), .int (zI (z))] : List Value).toArray below meth c (MQ below (zPost D A (rI0 N ad fun r g' => (-2147483648 ≤ r ∧ r ≤ 2147483647) ∧ g = g')) ([.ref (ad a), .int (zI (z))] : List Value).toArray s ({ frames := 1, cells := 0, slots := 0, locals := 60 } : Room).cells ({ frames := 1, cells := 0, slots := 0, locals := 60 } : Room).slots A) D A 4 (N) ad g1 (0) (0) 4 [(3, .int (zI (i))), (2, .int (zI (al))), (0, .ref (ad a)), (1, .int (zI (z)))] [] := by
    intro n9
    induction n9 using Nat.strongRecOn with
    | ind n9 ih =>
      intro al i g1 hm9 hg1 hv0 hv1
      subst hg1
      have hay3 : zAt ad (a) (ad a) := rfl
      have hay4 : zAt ad (a + 1) (ad (a + 1)) := rfl
      refine z_iload_n C 0 dX3_sum_4 rfl ?_
      refine z_aload_n C 2 dX3_sum_5 rfl ?_
      refine z_get (v := .int (zI (sz))) C (lt_A0 hN rfl) hay3 ha.1 rfl inA_X3 0 (by decide) q_154 rfl rfl dX3_sum_6 ?_
      refine z_icmp_ge (tgt := 29) C dX3_sum_9 (by decide) (by omega) (by omega) (fun hby5 => ?_) (fun hby5 => ?_)
      · refine z_iload_n C 1 dX3_sum_29 rfl ?_
        exact z_iret C hr hlk dX3_sum_30 (by decide) (by decide) ⟨al, rfl, rfl, rfl, by omega, rfl⟩
      · refine z_iload_n C 1 dX3_sum_12 rfl ?_
        refine z_aload_n C 2 dX3_sum_13 rfl ?_
        refine z_get (v := .ref (ad (a + 1))) C (lt_A0 hN rfl) hay3 ha.1 rfl inA_X3 2 (by decide) q_162 rfl rfl dX3_sum_14 ?_
        refine z_iload_n C 3 dX3_sum_17 rfl ?_
        refine z_iload_n C 0 dX3_sum_18 rfl ?_
        refine z_iadd C dX3_sum_19 ?_
        refine z_iald C (lt_A (c := 1) hN rfl) hay4 ha.2 ((z + i).toNat) (by omega) (by omega) (by decide) dX3_sum_20 ?_
        refine z_iadd C dX3_sum_21 ?_
        refine z_istore_n (lv' := [(2, .int (zI (al + (r ((z + i).toNat))))), (3, .int (zI (i))), (0, .ref (ad a)), (1, .int (zI (z)))]) C dX3_sum_22 rfl (by decide) rfl ?_
        refine z_iinc (z := i + 1) (lv' := [(3, .int (zI (i + 1))), (2, .int (zI (al + (r ((z + i).toNat))))), (0, .ref (ad a)), (1, .int (zI (z)))]) (j := 1) C dX3_sum_23 rfl rfl (by decide) rfl ?_
        refine z_goto (tgt := 4) C dX3_sum_26 (by decide) ?_
        obtain ⟨xy6, exy7, hxy8⟩ := zI_of (zI (al + (r ((z + i).toNat))))
        rw [exy7]
        refine z_lv (lv' := [(3, .int (zI (i + 1))), (2, .int (zI (xy6))), (0, .ref (ad a)), (1, .int (zI (z)))]) [0, 1, 2, 3] rfl ?_
        exact ih _ (by omega) (xy6) (i + 1) _ rfl rfl (by omega) (by omega)
  refine z_iconst (z := 0) C dX3_sum_0 rfl ?_
  refine z_istore_n (lv' := [(2, .int (zI (0))), (0, .ref (ad a)), (1, .int (zI (z)))]) C dX3_sum_1 rfl (by decide) rfl ?_
  refine z_iconst (z := 0) C dX3_sum_2 rfl ?_
  refine z_istore_n (lv' := [(3, .int (zI (0))), (2, .int (zI (0))), (0, .ref (ad a)), (1, .int (zI (z)))]) C dX3_sum_3 rfl (by decide) rfl ?_
  refine z_lv (lv' := [(3, .int (zI (0))), (2, .int (zI (0))), (0, .ref (ad a)), (1, .int (zI (z)))]) [0, 1, 2, 3] rfl ?_
  exact lp _ (0) (0) _ rfl rfl (by omega) (by omega)

set_option maxRecDepth 100000 in
set_option maxHeartbeats 4000000 in
theorem c_X3_massAbove (l : Launch) (D : va_G) (A : Nat → Prop) (cs : Nat → ClassId) (tt : Nat) (N : Nat) (ad : Nat → Nat) (g : Nat → va_E) (a : Nat) (hN : a + 2 ≤ N) (sz ro : Int) (r : Nat → Int) (hz : 0 ≤ sz ∧ sz ≤ 12) (ha : isPack cs ad g a sz ro r) (z : Int) (hzl : -1 ≤ z ∧ z ≤ 11) : zM l yX3_massAbove cX3_massAbove 4 (some .int) ({ frames := 2, cells := 0, slots := 0, locals := 120 } : Room) D A cs tt N ad g [.ref (ad a), .int (zI (z))] (rI0 N ad fun r g' => (-2147483648 ≤ r ∧ r ≤ 2147483647) ∧ g = g') := by
  have hay1 : zAt ad (a) (ad a) := rfl
  have hay2 : zAt ad (a + 1) (ad (a + 1)) := rfl
  refine z_of (by decide) (Nat.le_of_ble_eq_true rfl) ?_
  intro p e s m below meth c C hr hlk hnm
  refine z_lv (lv' := [(0, .ref (ad a)), (1, .int (zI (z)))]) [0, 1] rfl ?_
  have lp : ∀ (n9 : Nat) (al : Int) (i : Int) (g1 : Nat → va_E), (sz - i).toNat = n9 → (g1 = g) → (-2147483648 ≤ al ∧ al ≤ 2147483647) → (0 ≤ i ∧ i ≤ 12) → zV p l e ({ frames := 2, cells := 0, slots := 0, locals := 120 } : Room) s m ([.ref (ad a), .int (zI (z))] : List Value).toArray below meth c (MQ below (zPost D A (rI0 N ad fun r g' => (-2147483648 ≤ r ∧ r ≤ 2147483647) ∧ g = g')) ([.ref (ad a), .int (zI (z))] : List Value).toArray s ({ frames := 2, cells := 0, slots := 0, locals := 120 } : Room).cells ({ frames := 2, cells := 0, slots := 0, locals := 120 } : Room).slots A) D A 4 (N) ad g1 (0) (0) 6 [(3, .int (zI (i))), (2, .int (zI (al))), (0, .ref (ad a)), (1, .int (zI (z)))] [] := by
    intro n9
    induction n9 using Nat.strongRecOn with
    | ind n9 ih =>
      intro al i g1 hm9 hg1 hv0 hv1
      subst hg1
      have hay3 : zAt ad (a) (ad a) := rfl
      have hay4 : zAt ad (a + 1) (ad (a + 1)) := rfl
      refine z_iload_n C 0 dX3_massAbove_6 rfl ?_
      refine z_aload_n C 2 dX3_massAbove_7 rfl ?_
      refine z_get (v := .int (zI (sz))) C (lt_A0 hN rfl) hay3 ha.1 rfl inA_X3 0 (by decide) q_154 rfl rfl dX3_massAbove_8 ?_
      refine z_icmp_ge (tgt := 28) C dX3_massAbove_11 (by decide) (by omega) (by omega) (fun hby5 => ?_) (fun hby5 => ?_)
      · refine z_iload_n C 1 dX3_massAbove_28 rfl ?_
        exact z_iret C hr hlk dX3_massAbove_29 (by decide) (by decide) ⟨al, rfl, rfl, rfl, by omega, rfl⟩
      · refine z_iload_n C 1 dX3_massAbove_14 rfl ?_
        refine z_aload_n C 2 dX3_massAbove_15 rfl ?_
        refine z_iload_n C 0 dX3_massAbove_16 rfl ?_
        refine z_cV (As := [.int (zI (i))]) (rest := [.int (zI (al))]) (ci := 5) C (c_X3_mass l D A cs tt N ad _ (a) (by omega) _ _ _ (by omega) ⟨ha.1, ha.2⟩  (i) (by omega)) (lt_A0 hN rfl) hay3 ha.1 rfl rfl mv_yX3_mass q_510 hd_yX3_mass (by decide) (Nat.le_of_ble_eq_true rfl) (by decide) dX3_massAbove_17 rfl (kI0 fun vy6 gvy6 hvy6 => ?_)
        obtain ⟨hvy6, rfl⟩ := hvy6
        refine z_iadd C dX3_massAbove_20 ?_
        refine z_istore_n (lv' := [(2, .int (zI (al + vy6))), (3, .int (zI (i))), (0, .ref (ad a)), (1, .int (zI (z)))]) C dX3_massAbove_21 rfl (by decide) rfl ?_
        refine z_iinc (z := i + 1) (lv' := [(3, .int (zI (i + 1))), (2, .int (zI (al + vy6))), (0, .ref (ad a)), (1, .int (zI (z)))]) (j := 1) C dX3_massAbove_22 rfl rfl (by decide) rfl ?_
        refine z_goto (tgt := 6) C dX3_massAbove_25 (by decide) ?_
        obtain ⟨xy7, exy8, hxy9⟩ := zI_of (zI (al + vy6))
        rw [exy8]
        refine z_lv (lv' := [(3, .int (zI (i + 1))), (2, .int (zI (xy7))), (0, .ref (ad a)), (1, .int (zI (z)))]) [0, 1, 2, 3] rfl ?_
        exact ih _ (by omega) (xy7) (i + 1) _ rfl rfl (by omega) (by omega)
  refine z_iconst (z := 0) C dX3_massAbove_0 rfl ?_
  refine z_istore_n (lv' := [(2, .int (zI (0))), (0, .ref (ad a)), (1, .int (zI (z)))]) C dX3_massAbove_1 rfl (by decide) rfl ?_
  refine z_iload_n C 2 dX3_massAbove_2 rfl ?_
  refine z_iconst (z := 1) C dX3_massAbove_3 rfl ?_
  refine z_iadd C dX3_massAbove_4 ?_
  refine z_istore_n (lv' := [(3, .int (zI (z + 1))), (2, .int (zI (0))), (0, .ref (ad a)), (1, .int (zI (z)))]) C dX3_massAbove_5 rfl (by decide) rfl ?_
  refine z_lv (lv' := [(3, .int (zI (z + 1))), (2, .int (zI (0))), (0, .ref (ad a)), (1, .int (zI (z)))]) [0, 1, 2, 3] rfl ?_
  exact lp _ (0) (z + 1) _ rfl rfl (by omega) (by omega)

set_option maxRecDepth 100000 in
set_option maxHeartbeats 4000000 in
theorem c_X3_nameOf (l : Launch) (D : va_G) (A : Nat → Prop) (cs : Nat → ClassId) (tt : Nat) (N : Nat) (ad : Nat → Nat) (g : Nat → va_E) (a : Nat) (hN : a + 2 ≤ N) (sz ro : Int) (r : Nat → Int) (hz : 0 ≤ sz ∧ sz ≤ 12) (ha : isPack cs ad g a sz ro r) (z : Int) (hzl : -2147483648 ≤ z ∧ z ≤ 2147483647) : zM l yX3_nameOf cX3_nameOf 2 (some .int) ({ frames := 1, cells := 0, slots := 0, locals := 60 } : Room) D A cs tt N ad g [.ref (ad a), .int (zI (z))] (rI0 N ad fun r g' => (-2147483648 ≤ r ∧ r ≤ 2147483647) ∧ g = g') := by
  have hay1 : zAt ad (a) (ad a) := rfl
  have hay2 : zAt ad (a + 1) (ad (a + 1)) := rfl
  refine z_of (by decide) (Nat.le_of_ble_eq_true rfl) ?_
  intro p e s m below meth c C hr hlk hnm
  refine z_lv (lv' := [(0, .ref (ad a)), (1, .int (zI (z)))]) [0, 1] rfl ?_
  refine z_iload_n C 1 dX3_nameOf_0 rfl ?_
  refine z_if_lt (tgt := 24) C dX3_nameOf_1 (by decide) (by omega) (fun hby3 => ?_) (fun hby3 => ?_)
  · refine z_iconst (z := -1) C dX3_nameOf_24 rfl ?_
    exact z_iret C hr hlk dX3_nameOf_25 (by decide) (by decide) ⟨-1, rfl, rfl, rfl, by omega, rfl⟩
  · refine z_iload_n C 1 dX3_nameOf_4 rfl ?_
    refine z_aload_n C 0 dX3_nameOf_5 rfl ?_
    refine z_get (v := .int (zI (sz))) C (lt_A0 hN rfl) hay1 ha.1 rfl inA_X3 0 (by decide) q_154 rfl rfl dX3_nameOf_6 ?_
    refine z_icmp_ge (tgt := 24) C dX3_nameOf_9 (by decide) (by omega) (by omega) (fun hby4 => ?_) (fun hby4 => ?_)
    · refine z_iconst (z := -1) C dX3_nameOf_24 rfl ?_
      exact z_iret C hr hlk dX3_nameOf_25 (by decide) (by decide) ⟨-1, rfl, rfl, rfl, by omega, rfl⟩
    · refine z_aload_n C 0 dX3_nameOf_12 rfl ?_
      refine z_get (v := .ref (ad (a + 1))) C (lt_A0 hN rfl) hay1 ha.1 rfl inA_X3 2 (by decide) q_162 rfl rfl dX3_nameOf_13 ?_
      refine z_bipush (z := 72) C dX3_nameOf_16 (by decide) ?_
      refine z_iload_n C 1 dX3_nameOf_18 rfl ?_
      refine z_iadd C dX3_nameOf_19 ?_
      refine z_iald C (lt_A (c := 1) hN rfl) hay2 ha.2 ((72 + z).toNat) (by omega) (by omega) (by decide) dX3_nameOf_20 ?_
      refine z_goto (tgt := 25) C dX3_nameOf_21 (by decide) ?_
      obtain ⟨xy5, exy6, hxy7⟩ := zI_of (zI (r ((72 + z).toNat)))
      rw [exy6]
      exact z_iret C hr hlk dX3_nameOf_25 (by decide) (by decide) ⟨xy5, rfl, rfl, rfl, by omega, rfl⟩

set_option maxRecDepth 100000 in
set_option maxHeartbeats 4000000 in
theorem c_X3_has (l : Launch) (D : va_G) (A : Nat → Prop) (cs : Nat → ClassId) (tt : Nat) (N : Nat) (ad : Nat → Nat) (g : Nat → va_E) (a : Nat) (hN : a + 2 ≤ N) (sz ro : Int) (r : Nat → Int) (hz : 0 ≤ sz ∧ sz ≤ 12) (ha : isPack cs ad g a sz ro r) (z : Int) (hzl : -2147483648 ≤ z ∧ z ≤ 2147483647) : zM l yX3_has cX3_has 3 (some .boolean) ({ frames := 1, cells := 0, slots := 0, locals := 60 } : Room) D A cs tt N ad g [.ref (ad a), .int (zI (z))] (rI0 N ad fun r g' => (0 ≤ r ∧ r ≤ 1) ∧ g = g') := by
  have hay1 : zAt ad (a) (ad a) := rfl
  have hay2 : zAt ad (a + 1) (ad (a + 1)) := rfl
  refine z_of (by decide) (Nat.le_of_ble_eq_true rfl) ?_
  intro p e s m below meth c C hr hlk hnm
  refine z_lv (lv' := [(0, .ref (ad a)), (1, .int (zI (z)))]) [0, 1] rfl ?_
  have lp : ∀ (n9 : Nat) (i : Int) (g1 : Nat → va_E), (sz - i).toNat = n9 → (g1 = g) → (0 ≤ i ∧ i ≤ 12) → zV p l e ({ frames := 1, cells := 0, slots := 0, locals := 60 } : Room) s m ([.ref (ad a), .int (zI (z))] : List Value).toArray below meth c (MQ below (zPost D A (rI0 N ad fun r g' => (0 ≤ r ∧ r ≤ 1) ∧ g = g')) ([.ref (ad a), .int (zI (z))] : List Value).toArray s ({ frames := 1, cells := 0, slots := 0, locals := 60 } : Room).cells ({ frames := 1, cells := 0, slots := 0, locals := 60 } : Room).slots A) D A 3 (N) ad g1 (0) (0) 2 [(2, .int (zI (i))), (0, .ref (ad a)), (1, .int (zI (z)))] [] := by
    intro n9
    induction n9 using Nat.strongRecOn with
    | ind n9 ih =>
      intro i g1 hm9 hg1 hv0
      subst hg1
      have hay3 : zAt ad (a) (ad a) := rfl
      have hay4 : zAt ad (a + 1) (ad (a + 1)) := rfl
      refine z_iload_n C 0 dX3_has_2 rfl ?_
      refine z_aload_n C 1 dX3_has_3 rfl ?_
      refine z_get (v := .int (zI (sz))) C (lt_A0 hN rfl) hay3 ha.1 rfl inA_X3 0 (by decide) q_154 rfl rfl dX3_has_4 ?_
      refine z_icmp_ge (tgt := 31) C dX3_has_7 (by decide) (by omega) (by omega) (fun hby5 => ?_) (fun hby5 => ?_)
      · refine z_iconst (z := 0) C dX3_has_31 rfl ?_
        exact z_zret C hr hlk dX3_has_32 (by decide) (by decide) (by decide) ⟨0, rfl, rfl, rfl, by omega, rfl⟩
      · refine z_aload_n C 1 dX3_has_10 rfl ?_
        refine z_get (v := .ref (ad (a + 1))) C (lt_A0 hN rfl) hay3 ha.1 rfl inA_X3 2 (by decide) q_162 rfl rfl dX3_has_11 ?_
        refine z_bipush (z := 72) C dX3_has_14 (by decide) ?_
        refine z_iload_n C 0 dX3_has_16 rfl ?_
        refine z_iadd C dX3_has_17 ?_
        refine z_iald C (lt_A (c := 1) hN rfl) hay4 ha.2 ((72 + i).toNat) (by omega) (by omega) (by decide) dX3_has_18 ?_
        refine z_iload_n C 2 dX3_has_19 rfl ?_
        obtain ⟨xy6, exy7, hxy8⟩ := zI_of (zI (r ((72 + i).toNat)))
        rw [exy7]
        refine z_icmp_ne (tgt := 25) C dX3_has_20 (by decide) (by omega) (by omega) (fun hby9 => ?_) (fun hby9 => ?_)
        · refine z_iinc (z := i + 1) (lv' := [(2, .int (zI (i + 1))), (0, .ref (ad a)), (1, .int (zI (z)))]) (j := 0) C dX3_has_25 rfl rfl (by decide) rfl ?_
          refine z_goto (tgt := 2) C dX3_has_28 (by decide) ?_
          refine z_lv (lv' := [(2, .int (zI (i + 1))), (0, .ref (ad a)), (1, .int (zI (z)))]) [0, 1, 2] rfl ?_
          exact ih _ (by omega) (i + 1) _ rfl rfl (by omega)
        · refine z_iconst (z := 1) C dX3_has_23 rfl ?_
          exact z_zret C hr hlk dX3_has_24 (by decide) (by decide) (by decide) ⟨1, rfl, rfl, rfl, by omega, rfl⟩
  refine z_iconst (z := 0) C dX3_has_0 rfl ?_
  refine z_istore_n (lv' := [(2, .int (zI (0))), (0, .ref (ad a)), (1, .int (zI (z)))]) C dX3_has_1 rfl (by decide) rfl ?_
  refine z_lv (lv' := [(2, .int (zI (0))), (0, .ref (ad a)), (1, .int (zI (z)))]) [0, 1, 2] rfl ?_
  exact lp _ (0) _ rfl rfl (by omega)

set_option maxRecDepth 100000 in
set_option maxHeartbeats 4000000 in
theorem c_X3_namesIn (l : Launch) (D : va_G) (A : Nat → Prop) (cs : Nat → ClassId) (tt : Nat) (N : Nat) (ad : Nat → Nat) (g : Nat → va_E) (a : Nat) (hN : a + 2 ≤ N) (sz ro : Int) (r : Nat → Int) (hz : 0 ≤ sz ∧ sz ≤ 12) (ha : isPack cs ad g a sz ro r) (a2 : Nat) (hN2 : a2 + 2 ≤ N) (sz2 ro2 : Int) (r2 : Nat → Int) (hz2 : 0 ≤ sz2 ∧ sz2 ≤ 12) (ha2 : isPack cs ad g a2 sz2 ro2 r2) : zM l yX3_namesIn cX3_namesIn 4 (some .int) ({ frames := 2, cells := 0, slots := 0, locals := 120 } : Room) D A cs tt N ad g [.ref (ad a), .ref (ad a2)] (rI0 N ad fun r g' => (-2147483648 ≤ r ∧ r ≤ 2147483647) ∧ g = g') := by
  have hay1 : zAt ad (a) (ad a) := rfl
  have hay2 : zAt ad (a + 1) (ad (a + 1)) := rfl
  have hay3 : zAt ad (a2) (ad a2) := rfl
  have hay4 : zAt ad (a2 + 1) (ad (a2 + 1)) := rfl
  refine z_of (by decide) (Nat.le_of_ble_eq_true rfl) ?_
  intro p e s m below meth c C hr hlk hnm
  refine z_lv (lv' := [(0, .ref (ad a)), (1, .ref (ad a2))]) [0, 1] rfl ?_
  have lp : ∀ (n9 : Nat) (al : Int) (i : Int) (g1 : Nat → va_E), (sz - i).toNat = n9 → (g1 = g) → (0 ≤ al ∧ al ≤ i) → (0 ≤ i ∧ i ≤ 12) → zV p l e ({ frames := 2, cells := 0, slots := 0, locals := 120 } : Room) s m ([.ref (ad a), .ref (ad a2)] : List Value).toArray below meth c (MQ below (zPost D A (rI0 N ad fun r g' => (-2147483648 ≤ r ∧ r ≤ 2147483647) ∧ g = g')) ([.ref (ad a), .ref (ad a2)] : List Value).toArray s ({ frames := 2, cells := 0, slots := 0, locals := 120 } : Room).cells ({ frames := 2, cells := 0, slots := 0, locals := 120 } : Room).slots A) D A 4 (N) ad g1 (0) (0) 4 [(3, .int (zI (i))), (2, .int (zI (al))), (0, .ref (ad a)), (1, .ref (ad a2))] [] := by
    intro n9
    induction n9 using Nat.strongRecOn with
    | ind n9 ih =>
      intro al i g1 hm9 hg1 hv0 hv1
      subst hg1
      have hay5 : zAt ad (a) (ad a) := rfl
      have hay6 : zAt ad (a + 1) (ad (a + 1)) := rfl
      have hay7 : zAt ad (a2) (ad a2) := rfl
      have hay8 : zAt ad (a2 + 1) (ad (a2 + 1)) := rfl
      refine z_iload_n C 0 dX3_namesIn_4 rfl ?_
      refine z_aload_n C 2 dX3_namesIn_5 rfl ?_
      refine z_get (v := .int (zI (sz))) C (lt_A0 hN rfl) hay5 ha.1 rfl inA_X3 0 (by decide) q_154 rfl rfl dX3_namesIn_6 ?_
      refine z_icmp_ge (tgt := 37) C dX3_namesIn_9 (by decide) (by omega) (by omega) (fun hby9 => ?_) (fun hby9 => ?_)
      · refine z_iload_n C 1 dX3_namesIn_37 rfl ?_
        exact z_iret C hr hlk dX3_namesIn_38 (by decide) (by decide) ⟨al, rfl, rfl, rfl, by omega, rfl⟩
      · refine z_aload_n C 3 dX3_namesIn_12 rfl ?_
        refine z_aload_n C 2 dX3_namesIn_13 rfl ?_
        refine z_get (v := .ref (ad (a + 1))) C (lt_A0 hN rfl) hay5 ha.1 rfl inA_X3 2 (by decide) q_162 rfl rfl dX3_namesIn_14 ?_
        refine z_bipush (z := 72) C dX3_namesIn_17 (by decide) ?_
        refine z_iload_n C 0 dX3_namesIn_19 rfl ?_
        refine z_iadd C dX3_namesIn_20 ?_
        refine z_iald C (lt_A (c := 1) hN rfl) hay6 ha.2 ((72 + i).toNat) (by omega) (by omega) (by decide) dX3_namesIn_21 ?_
        obtain ⟨xy10, exy11, hxy12⟩ := zI_of (zI (r ((72 + i).toNat)))
        rw [exy11]
        refine z_cV (As := [.int (zI (xy10))]) (rest := []) (ci := 5) C (c_X3_has l D A cs tt N ad _ (a2) (by omega) _ _ _ (by omega) ⟨ha2.1, ha2.2⟩  (xy10) (by omega)) (by omega) hay7 ha2.1 rfl rfl mv_yX3_has q_1333 hd_yX3_has (by decide) (Nat.le_of_ble_eq_true rfl) (by decide) dX3_namesIn_22 rfl (kI0 fun vy13 gvy13 hvy13 => ?_)
        obtain ⟨hvy13, rfl⟩ := hvy13
        refine z_if_eq (tgt := 31) C dX3_namesIn_25 (by decide) (by omega) (fun hby14 => ?_) (fun hby14 => ?_)
        · refine z_iinc (z := i + 1) (lv' := [(3, .int (zI (i + 1))), (2, .int (zI (al))), (0, .ref (ad a)), (1, .ref (ad a2))]) (j := 0) C dX3_namesIn_31 rfl rfl (by decide) rfl ?_
          refine z_goto (tgt := 4) C dX3_namesIn_34 (by decide) ?_
          refine z_lv (lv' := [(3, .int (zI (i + 1))), (2, .int (zI (al))), (0, .ref (ad a)), (1, .ref (ad a2))]) [0, 1, 2, 3] rfl ?_
          exact ih _ (by omega) (al) (i + 1) _ rfl rfl (by omega) (by omega)
        · refine z_iinc (z := al + 1) (lv' := [(2, .int (zI (al + 1))), (3, .int (zI (i))), (0, .ref (ad a)), (1, .ref (ad a2))]) (j := 1) C dX3_namesIn_28 rfl rfl (by decide) rfl ?_
          refine z_iinc (z := i + 1) (lv' := [(3, .int (zI (i + 1))), (2, .int (zI (al + 1))), (0, .ref (ad a)), (1, .ref (ad a2))]) (j := 1) C dX3_namesIn_31 rfl rfl (by decide) rfl ?_
          refine z_goto (tgt := 4) C dX3_namesIn_34 (by decide) ?_
          refine z_lv (lv' := [(3, .int (zI (i + 1))), (2, .int (zI (al + 1))), (0, .ref (ad a)), (1, .ref (ad a2))]) [0, 1, 2, 3] rfl ?_
          exact ih _ (by omega) (al + 1) (i + 1) _ rfl rfl (by omega) (by omega)
  refine z_iconst (z := 0) C dX3_namesIn_0 rfl ?_
  refine z_istore_n (lv' := [(2, .int (zI (0))), (0, .ref (ad a)), (1, .ref (ad a2))]) C dX3_namesIn_1 rfl (by decide) rfl ?_
  refine z_iconst (z := 0) C dX3_namesIn_2 rfl ?_
  refine z_istore_n (lv' := [(3, .int (zI (0))), (2, .int (zI (0))), (0, .ref (ad a)), (1, .ref (ad a2))]) C dX3_namesIn_3 rfl (by decide) rfl ?_
  refine z_lv (lv' := [(3, .int (zI (0))), (2, .int (zI (0))), (0, .ref (ad a)), (1, .ref (ad a2))]) [0, 1, 2, 3] rfl ?_
  exact lp _ (0) (0) _ rfl rfl (by omega) (by omega)

set_option maxRecDepth 100000 in
set_option maxHeartbeats 4000000 in
theorem c_X5_of (l : Launch) (D : va_G) (A : Nat → Prop) (cs : Nat → ClassId) (tt : Nat) (N : Nat) (ad : Nat → Nat) (g : Nat → va_E) (b : Nat) (hNb : b + 7 ≤ N) (sl ho ua : Int) (st op ai fa mu tb : Nat → Int) (hb : isPlan cs ad g b sl ho ua st op ai fa mu tb) (z z1 : Int) (hz : -2147483648 ≤ z ∧ z ≤ 2147483647) (hz1 : -2147483648 ≤ z1 ∧ z1 ≤ 2147483647) : zM l yX5_of cX5_of 4 (some .int) ({ frames := 1, cells := 0, slots := 0, locals := 60 } : Room) D A cs tt N ad g [.ref (ad b), .int (zI (z)), .int (zI (z1))] (rI0 N ad fun r g' => (-2147483648 ≤ r ∧ r ≤ 2147483647) ∧ g = g') := by
  have hay1 : zAt ad (b) (ad b) := rfl
  have hay2 : zAt ad (b + 1) (ad (b + 1)) := rfl
  have hay3 : zAt ad (b + 2) (ad (b + 2)) := rfl
  have hay4 : zAt ad (b + 3) (ad (b + 3)) := rfl
  have hay5 : zAt ad (b + 4) (ad (b + 4)) := rfl
  have hay6 : zAt ad (b + 5) (ad (b + 5)) := rfl
  have hay7 : zAt ad (b + 6) (ad (b + 6)) := rfl
  refine z_of (by decide) (Nat.le_of_ble_eq_true rfl) ?_
  intro p e s m below meth c C hr hlk hnm
  refine z_lv (lv' := [(0, .ref (ad b)), (1, .int (zI (z))), (2, .int (zI (z1)))]) [0, 1, 2] rfl ?_
  refine z_iload_n C 1 dX5_of_0 rfl ?_
  refine z_iload_n C 2 dX5_of_1 rfl ?_
  refine z_iadd C dX5_of_2 ?_
  refine z_istore_n (lv' := [(3, .int (zI (z + z1))), (0, .ref (ad b)), (1, .int (zI (z))), (2, .int (zI (z1)))]) C dX5_of_3 rfl (by decide) rfl ?_
  refine z_iload_n C 0 dX5_of_4 rfl ?_
  obtain ⟨xy8, exy9, hxy10⟩ := zI_of (zI (z + z1))
  rw [exy9]
  refine z_if_lt (tgt := 26) C dX5_of_5 (by decide) (by omega) (fun hby11 => ?_) (fun hby11 => ?_)
  · refine z_iconst (z := 0) C dX5_of_26 rfl ?_
    exact z_iret C hr hlk dX5_of_27 (by decide) (by decide) ⟨0, rfl, rfl, rfl, by omega, rfl⟩
  · refine z_iload_n C 0 dX5_of_8 rfl ?_
    refine z_aload_n C 1 dX5_of_9 rfl ?_
    refine z_get (v := .ref (ad (b + 6))) C (by omega) hay1 hb.1 rfl inA_X5 8 (by decide) q_113 rfl rfl dX5_of_10 ?_
    refine z_alen (z := 15) C (by omega) hay7 hb.2.2.2.2.2.2 1 rfl rfl dX5_of_13 ?_
    refine z_icmp_ge (tgt := 26) C dX5_of_14 (by decide) (by omega) (by omega) (fun hby12 => ?_) (fun hby12 => ?_)
    · refine z_iconst (z := 0) C dX5_of_26 rfl ?_
      exact z_iret C hr hlk dX5_of_27 (by decide) (by decide) ⟨0, rfl, rfl, rfl, by omega, rfl⟩
    · refine z_aload_n C 1 dX5_of_17 rfl ?_
      refine z_get (v := .ref (ad (b + 6))) C (by omega) hay1 hb.1 rfl inA_X5 8 (by decide) q_113 rfl rfl dX5_of_18 ?_
      refine z_iload_n C 0 dX5_of_21 rfl ?_
      refine z_iald C (by omega) hay7 hb.2.2.2.2.2.2 ((xy8).toNat) (by omega) (by omega) (by decide) dX5_of_22 ?_
      refine z_goto (tgt := 27) C dX5_of_23 (by decide) ?_
      obtain ⟨xy13, exy14, hxy15⟩ := zI_of (zI (tb ((xy8).toNat)))
      rw [exy14]
      exact z_iret C hr hlk dX5_of_27 (by decide) (by decide) ⟨xy13, rfl, rfl, rfl, by omega, rfl⟩

set_option maxRecDepth 100000 in
set_option maxHeartbeats 4000000 in
theorem c_X3_grade (l : Launch) (D : va_G) (A : Nat → Prop) (cs : Nat → ClassId) (tt : Nat) (N : Nat) (ad : Nat → Nat) (g : Nat → va_E) (a : Nat) (hN : a + 2 ≤ N) (sz ro : Int) (r : Nat → Int) (hz : 0 ≤ sz ∧ sz ≤ 12) (ha : isPack cs ad g a sz ro r) (z : Int) (hzl : 0 ≤ z ∧ z ≤ 11) (z1 : Int) (hz1 : -2147483648 ≤ z1 ∧ z1 ≤ 2147483647) : zM l yX3_grade cX3_grade 5 (some .int) ({ frames := 2, cells := 0, slots := 0, locals := 120 } : Room) D A cs tt N ad g [.ref (ad a), .int (zI (z)), .int (zI (z1))] (rI0 N ad fun r g' => (-2147483648 ≤ r ∧ r ≤ 2147483647) ∧ g = g') := by
  have hay1 : zAt ad (a) (ad a) := rfl
  have hay2 : zAt ad (a + 1) (ad (a + 1)) := rfl
  refine z_of (by decide) (Nat.le_of_ble_eq_true rfl) ?_
  intro p e s m below meth c C hr hlk hnm
  refine z_lv (lv' := [(0, .ref (ad a)), (1, .int (zI (z))), (2, .int (zI (z1)))]) [0, 1, 2] rfl ?_
  refine z_iload_n C 1 dX3_grade_0 rfl ?_
  refine z_iconst (z := 1) C dX3_grade_1 rfl ?_
  refine z_iadd C dX3_grade_2 ?_
  refine z_aload_n C 0 dX3_grade_3 rfl ?_
  refine z_get (v := .int (zI (sz))) C (lt_A0 hN rfl) hay1 ha.1 rfl inA_X3 0 (by decide) q_154 rfl rfl dX3_grade_4 ?_
  refine z_icmp_ge (tgt := 24) C dX3_grade_7 (by decide) (by omega) (by omega) (fun hby3 => ?_) (fun hby3 => ?_)
  · refine z_iload_n C 2 dX3_grade_24 rfl ?_
    refine z_iconst (z := 0) C dX3_grade_25 rfl ?_
    refine z_mmin C q_483 q_473 q_20 q_474 (by omega) (by omega) (by decide) (Nat.le_of_ble_eq_true rfl) (by decide) (by decide) dX3_grade_26 ?_
    obtain ⟨xy4, exy5, hxy6⟩ := mm_min (z1) (0)
    rw [exy5]
    refine z_istore_n (lv' := [(3, .int (zI (xy4))), (0, .ref (ad a)), (1, .int (zI (z))), (2, .int (zI (z1)))]) C dX3_grade_29 rfl (by decide) rfl ?_
    refine z_iload_n C 2 dX3_grade_30 rfl ?_
    refine z_if_le (tgt := 48) C dX3_grade_31 (by decide) (by omega) (fun hby7 => ?_) (fun hby7 => ?_)
    · refine z_iconst (z := 0) C dX3_grade_48 rfl ?_
      refine z_istore (lv' := [(4, .int (zI (0))), (3, .int (zI (xy4))), (0, .ref (ad a)), (1, .int (zI (z))), (2, .int (zI (z1)))]) C dX3_grade_49 (by decide) rfl ?_
      refine z_ldc2 (z := 10) C dX3_grade_51 q_525 (by decide) ?_
      refine z_iload_n C 1 dX3_grade_54 rfl ?_
      refine z_iload C 0 dX3_grade_55 rfl ?_
      refine z_isub C dX3_grade_57 ?_
      refine z_mabs C q_526 q_527 q_20 q_528 (by omega) (by decide) (Nat.le_of_ble_eq_true rfl) (by decide) (by decide) dX3_grade_58 ?_
      obtain ⟨xy8, exy9, hxy10⟩ := mm_abs (xy4 - 0)
      rw [exy9]
      obtain ⟨xy11, exy12, hxy13⟩ := zI_of (zI (xy8))
      rw [exy12]
      refine z_i2l C dX3_grade_61 (by omega) ?_
      refine z_lmul C dX3_grade_62 ?_
      refine z_aload_n C 2 dX3_grade_63 rfl ?_
      refine z_get (v := .ref (ad (a + 1))) C (lt_A0 hN rfl) hay1 ha.1 rfl inA_X3 2 (by decide) q_162 rfl rfl dX3_grade_64 ?_
      refine z_bipush (z := 36) C dX3_grade_67 (by decide) ?_
      refine z_iload_n C 3 dX3_grade_69 rfl ?_
      refine z_iadd C dX3_grade_70 ?_
      refine z_iald C (lt_A (c := 1) hN rfl) hay2 ha.2 ((36 + z).toNat) (by omega) (by omega) (by decide) dX3_grade_71 ?_
      obtain ⟨xy14, exy15, hxy16⟩ := zI_of (zI (r ((36 + z).toNat)))
      rw [exy15]
      refine z_i2l C dX3_grade_72 (by omega) ?_
      refine z_cSN (As := [.long (zJ (10 * xy11)), .long (zJ (xy14))]) (rest := []) C (c_X9_part l D A cs tt N ad _ (10 * xy11) (xy14) (by omega) (by omega)) ms_yX9_part n_466 hd_yX9_part (by decide) (Nat.le_of_ble_eq_true rfl) (by decide) dX3_grade_73 rfl (kI0 fun vy17 gvy17 hvy17 => ?_)
      obtain ⟨hvy17, rfl⟩ := hvy17
      exact z_iret C hr hlk dX3_grade_76 (by decide) (by decide) ⟨vy17, rfl, rfl, rfl, by omega, rfl⟩
    · refine z_aload_n C 1 dX3_grade_34 rfl ?_
      refine z_get (v := .ref (ad (a + 1))) C (lt_A0 hN rfl) hay1 ha.1 rfl inA_X3 2 (by decide) q_162 rfl rfl dX3_grade_35 ?_
      refine z_bipush (z := 48) C dX3_grade_38 (by decide) ?_
      refine z_iload_n C 2 dX3_grade_40 rfl ?_
      refine z_iadd C dX3_grade_41 ?_
      refine z_iconst (z := 1) C dX3_grade_42 rfl ?_
      refine z_isub C dX3_grade_43 ?_
      refine z_iald C (lt_A (c := 1) hN rfl) hay2 ha.2 (((48 + z) - 1).toNat) (by omega) (by omega) (by decide) dX3_grade_44 ?_
      refine z_goto (tgt := 49) C dX3_grade_45 (by decide) ?_
      refine z_istore (lv' := [(4, .int (zI (r (((48 + z) - 1).toNat)))), (3, .int (zI (xy4))), (0, .ref (ad a)), (1, .int (zI (z))), (2, .int (zI (z1)))]) C dX3_grade_49 (by decide) rfl ?_
      refine z_ldc2 (z := 10) C dX3_grade_51 q_525 (by decide) ?_
      refine z_iload_n C 1 dX3_grade_54 rfl ?_
      refine z_iload C 0 dX3_grade_55 rfl ?_
      refine z_isub C dX3_grade_57 ?_
      obtain ⟨xy18, exy19, hxy20⟩ := zI_of (zI (xy4 - (r (((48 + z) - 1).toNat))))
      rw [exy19]
      refine z_mabs C q_526 q_527 q_20 q_528 (by omega) (by decide) (Nat.le_of_ble_eq_true rfl) (by decide) (by decide) dX3_grade_58 ?_
      obtain ⟨xy21, exy22, hxy23⟩ := mm_abs (xy18)
      rw [exy22]
      obtain ⟨xy24, exy25, hxy26⟩ := zI_of (zI (xy21))
      rw [exy25]
      refine z_i2l C dX3_grade_61 (by omega) ?_
      refine z_lmul C dX3_grade_62 ?_
      refine z_aload_n C 2 dX3_grade_63 rfl ?_
      refine z_get (v := .ref (ad (a + 1))) C (lt_A0 hN rfl) hay1 ha.1 rfl inA_X3 2 (by decide) q_162 rfl rfl dX3_grade_64 ?_
      refine z_bipush (z := 36) C dX3_grade_67 (by decide) ?_
      refine z_iload_n C 3 dX3_grade_69 rfl ?_
      refine z_iadd C dX3_grade_70 ?_
      refine z_iald C (lt_A (c := 1) hN rfl) hay2 ha.2 ((36 + z).toNat) (by omega) (by omega) (by decide) dX3_grade_71 ?_
      obtain ⟨xy27, exy28, hxy29⟩ := zI_of (zI (r ((36 + z).toNat)))
      rw [exy28]
      refine z_i2l C dX3_grade_72 (by omega) ?_
      refine z_cSN (As := [.long (zJ (10 * xy24)), .long (zJ (xy27))]) (rest := []) C (c_X9_part l D A cs tt N ad _ (10 * xy24) (xy27) (by omega) (by omega)) ms_yX9_part n_466 hd_yX9_part (by decide) (Nat.le_of_ble_eq_true rfl) (by decide) dX3_grade_73 rfl (kI0 fun vy30 gvy30 hvy30 => ?_)
      obtain ⟨hvy30, rfl⟩ := hvy30
      exact z_iret C hr hlk dX3_grade_76 (by decide) (by decide) ⟨vy30, rfl, rfl, rfl, by omega, rfl⟩
  · refine z_aload_n C 0 dX3_grade_10 rfl ?_
    refine z_get (v := .ref (ad (a + 1))) C (lt_A0 hN rfl) hay1 ha.1 rfl inA_X3 2 (by decide) q_162 rfl rfl dX3_grade_11 ?_
    refine z_bipush (z := 48) C dX3_grade_14 (by decide) ?_
    refine z_iload_n C 1 dX3_grade_16 rfl ?_
    refine z_iadd C dX3_grade_17 ?_
    refine z_iconst (z := 1) C dX3_grade_18 rfl ?_
    refine z_iadd C dX3_grade_19 ?_
    refine z_iald C (lt_A (c := 1) hN rfl) hay2 ha.2 (((48 + z) + 1).toNat) (by omega) (by omega) (by decide) dX3_grade_20 ?_
    refine z_goto (tgt := 29) C dX3_grade_21 (by decide) ?_
    refine z_istore_n (lv' := [(3, .int (zI (r (((48 + z) + 1).toNat)))), (0, .ref (ad a)), (1, .int (zI (z))), (2, .int (zI (z1)))]) C dX3_grade_29 rfl (by decide) rfl ?_
    refine z_iload_n C 2 dX3_grade_30 rfl ?_
    refine z_if_le (tgt := 48) C dX3_grade_31 (by decide) (by omega) (fun hby31 => ?_) (fun hby31 => ?_)
    · refine z_iconst (z := 0) C dX3_grade_48 rfl ?_
      refine z_istore (lv' := [(4, .int (zI (0))), (3, .int (zI (r (((48 + z) + 1).toNat)))), (0, .ref (ad a)), (1, .int (zI (z))), (2, .int (zI (z1)))]) C dX3_grade_49 (by decide) rfl ?_
      refine z_ldc2 (z := 10) C dX3_grade_51 q_525 (by decide) ?_
      refine z_iload_n C 1 dX3_grade_54 rfl ?_
      refine z_iload C 0 dX3_grade_55 rfl ?_
      refine z_isub C dX3_grade_57 ?_
      obtain ⟨xy32, exy33, hxy34⟩ := zI_of (zI ((r (((48 + z) + 1).toNat)) - 0))
      rw [exy33]
      refine z_mabs C q_526 q_527 q_20 q_528 (by omega) (by decide) (Nat.le_of_ble_eq_true rfl) (by decide) (by decide) dX3_grade_58 ?_
      obtain ⟨xy35, exy36, hxy37⟩ := mm_abs (xy32)
      rw [exy36]
      obtain ⟨xy38, exy39, hxy40⟩ := zI_of (zI (xy35))
      rw [exy39]
      refine z_i2l C dX3_grade_61 (by omega) ?_
      refine z_lmul C dX3_grade_62 ?_
      refine z_aload_n C 2 dX3_grade_63 rfl ?_
      refine z_get (v := .ref (ad (a + 1))) C (lt_A0 hN rfl) hay1 ha.1 rfl inA_X3 2 (by decide) q_162 rfl rfl dX3_grade_64 ?_
      refine z_bipush (z := 36) C dX3_grade_67 (by decide) ?_
      refine z_iload_n C 3 dX3_grade_69 rfl ?_
      refine z_iadd C dX3_grade_70 ?_
      refine z_iald C (lt_A (c := 1) hN rfl) hay2 ha.2 ((36 + z).toNat) (by omega) (by omega) (by decide) dX3_grade_71 ?_
      obtain ⟨xy41, exy42, hxy43⟩ := zI_of (zI (r ((36 + z).toNat)))
      rw [exy42]
      refine z_i2l C dX3_grade_72 (by omega) ?_
      refine z_cSN (As := [.long (zJ (10 * xy38)), .long (zJ (xy41))]) (rest := []) C (c_X9_part l D A cs tt N ad _ (10 * xy38) (xy41) (by omega) (by omega)) ms_yX9_part n_466 hd_yX9_part (by decide) (Nat.le_of_ble_eq_true rfl) (by decide) dX3_grade_73 rfl (kI0 fun vy44 gvy44 hvy44 => ?_)
      obtain ⟨hvy44, rfl⟩ := hvy44
      exact z_iret C hr hlk dX3_grade_76 (by decide) (by decide) ⟨vy44, rfl, rfl, rfl, by omega, rfl⟩
    · refine z_aload_n C 1 dX3_grade_34 rfl ?_
      refine z_get (v := .ref (ad (a + 1))) C (lt_A0 hN rfl) hay1 ha.1 rfl inA_X3 2 (by decide) q_162 rfl rfl dX3_grade_35 ?_
      refine z_bipush (z := 48) C dX3_grade_38 (by decide) ?_
      refine z_iload_n C 2 dX3_grade_40 rfl ?_
      refine z_iadd C dX3_grade_41 ?_
      refine z_iconst (z := 1) C dX3_grade_42 rfl ?_
      refine z_isub C dX3_grade_43 ?_
      refine z_iald C (lt_A (c := 1) hN rfl) hay2 ha.2 (((48 + z) - 1).toNat) (by omega) (by omega) (by decide) dX3_grade_44 ?_
      refine z_goto (tgt := 49) C dX3_grade_45 (by decide) ?_
      refine z_istore (lv' := [(4, .int (zI (r (((48 + z) - 1).toNat)))), (3, .int (zI (r (((48 + z) + 1).toNat)))), (0, .ref (ad a)), (1, .int (zI (z))), (2, .int (zI (z1)))]) C dX3_grade_49 (by decide) rfl ?_
      refine z_ldc2 (z := 10) C dX3_grade_51 q_525 (by decide) ?_
      refine z_iload_n C 1 dX3_grade_54 rfl ?_
      refine z_iload C 0 dX3_grade_55 rfl ?_
      refine z_isub C dX3_grade_57 ?_
      obtain ⟨xy45, exy46, hxy47⟩ := zI_of (zI ((r (((48 + z) + 1).toNat)) - (r (((48 + z) - 1).toNat))))
      rw [exy46]
      refine z_mabs C q_526 q_527 q_20 q_528 (by omega) (by decide) (Nat.le_of_ble_eq_true rfl) (by decide) (by decide) dX3_grade_58 ?_
      obtain ⟨xy48, exy49, hxy50⟩ := mm_abs (xy45)
      rw [exy49]
      obtain ⟨xy51, exy52, hxy53⟩ := zI_of (zI (xy48))
      rw [exy52]
      refine z_i2l C dX3_grade_61 (by omega) ?_
      refine z_lmul C dX3_grade_62 ?_
      refine z_aload_n C 2 dX3_grade_63 rfl ?_
      refine z_get (v := .ref (ad (a + 1))) C (lt_A0 hN rfl) hay1 ha.1 rfl inA_X3 2 (by decide) q_162 rfl rfl dX3_grade_64 ?_
      refine z_bipush (z := 36) C dX3_grade_67 (by decide) ?_
      refine z_iload_n C 3 dX3_grade_69 rfl ?_
      refine z_iadd C dX3_grade_70 ?_
      refine z_iald C (lt_A (c := 1) hN rfl) hay2 ha.2 ((36 + z).toNat) (by omega) (by omega) (by decide) dX3_grade_71 ?_
      obtain ⟨xy54, exy55, hxy56⟩ := zI_of (zI (r ((36 + z).toNat)))
      rw [exy55]
      refine z_i2l C dX3_grade_72 (by omega) ?_
      refine z_cSN (As := [.long (zJ (10 * xy51)), .long (zJ (xy54))]) (rest := []) C (c_X9_part l D A cs tt N ad _ (10 * xy51) (xy54) (by omega) (by omega)) ms_yX9_part n_466 hd_yX9_part (by decide) (Nat.le_of_ble_eq_true rfl) (by decide) dX3_grade_73 rfl (kI0 fun vy57 gvy57 hvy57 => ?_)
      obtain ⟨hvy57, rfl⟩ := hvy57
      exact z_iret C hr hlk dX3_grade_76 (by decide) (by decide) ⟨vy57, rfl, rfl, rfl, by omega, rfl⟩

set_option maxRecDepth 100000 in
set_option maxHeartbeats 4000000 in
theorem c_X3_strength (l : Launch) (D : va_G) (A : Nat → Prop) (cs : Nat → ClassId) (tt : Nat) (N : Nat) (ad : Nat → Nat) (g : Nat → va_E) (a : Nat) (hN : a + 2 ≤ N) (sz ro : Int) (r : Nat → Int) (hz : 0 ≤ sz ∧ sz ≤ 12) (ha : isPack cs ad g a sz ro r) (b : Nat) (hNb : b + 7 ≤ N) (sl ho ua : Int) (st op ai fa mu tb : Nat → Int) (hb : isPlan cs ad g b sl ho ua st op ai fa mu tb) (z : Int) (hzl : 0 ≤ z ∧ z ≤ 11) : zM l yX3_strength cX3_strength 6 (some .int) ({ frames := 2, cells := 0, slots := 0, locals := 120 } : Room) D A cs tt N ad g [.ref (ad a), .int (zI (z)), .ref (ad b)] (rI0 N ad fun r g' => (-2147483648 ≤ r ∧ r ≤ 2147483647) ∧ g = g') := by
  have hay1 : zAt ad (a) (ad a) := rfl
  have hay2 : zAt ad (a + 1) (ad (a + 1)) := rfl
  have hay3 : zAt ad (b) (ad b) := rfl
  have hay4 : zAt ad (b + 1) (ad (b + 1)) := rfl
  have hay5 : zAt ad (b + 2) (ad (b + 2)) := rfl
  have hay6 : zAt ad (b + 3) (ad (b + 3)) := rfl
  have hay7 : zAt ad (b + 4) (ad (b + 4)) := rfl
  have hay8 : zAt ad (b + 5) (ad (b + 5)) := rfl
  have hay9 : zAt ad (b + 6) (ad (b + 6)) := rfl
  refine z_of (by decide) (Nat.le_of_ble_eq_true rfl) ?_
  intro p e s m below meth c C hr hlk hnm
  refine z_lv (lv' := [(0, .ref (ad a)), (1, .int (zI (z))), (2, .ref (ad b))]) [0, 1, 2] rfl ?_
  refine z_aload_n C 2 dX3_strength_0 rfl ?_
  refine z_iconst (z := 0) C dX3_strength_1 rfl ?_
  refine z_aload_n C 0 dX3_strength_2 rfl ?_
  refine z_get (v := .ref (ad (a + 1))) C (lt_A0 hN rfl) hay1 ha.1 rfl inA_X3 2 (by decide) q_162 rfl rfl dX3_strength_3 ?_
  refine z_iconst (z := 0) C dX3_strength_6 rfl ?_
  refine z_iload_n C 1 dX3_strength_7 rfl ?_
  refine z_iadd C dX3_strength_8 ?_
  refine z_iald C (lt_A (c := 1) hN rfl) hay2 ha.2 ((0 + z).toNat) (by omega) (by omega) (by decide) dX3_strength_9 ?_
  obtain ⟨xy10, exy11, hxy12⟩ := zI_of (zI (r ((0 + z).toNat)))
  rw [exy11]
  refine z_cV (As := [.int (zI (0)), .int (zI (xy10))]) (rest := []) (ci := 7) C (c_X5_of l D A cs tt N ad _ (b) (by omega) _ _ _ _ _ _ _ _ _ ⟨hb.1, hb.2.1, hb.2.2.1, hb.2.2.2.1, hb.2.2.2.2.1, hb.2.2.2.2.2.1, hb.2.2.2.2.2.2⟩ (0) (xy10) (by omega) (by omega)) (by omega) hay3 hb.1 rfl rfl mv_yX5_of q_502 hd_yX5_of (by decide) (Nat.le_of_ble_eq_true rfl) (by decide) dX3_strength_10 rfl (kI0 fun vy13 gvy13 hvy13 => ?_)
  obtain ⟨hvy13, rfl⟩ := hvy13
  refine z_istore_n (lv' := [(3, .int (zI (vy13))), (0, .ref (ad a)), (1, .int (zI (z))), (2, .ref (ad b))]) C dX3_strength_13 rfl (by decide) rfl ?_
  refine z_ldc2 (z := 10) C dX3_strength_14 q_525 (by decide) ?_
  refine z_iload_n C 0 dX3_strength_17 rfl ?_
  refine z_i2l C dX3_strength_18 (by omega) ?_
  refine z_lmul C dX3_strength_19 ?_
  refine z_aload_n C 1 dX3_strength_20 rfl ?_
  refine z_iload_n C 2 dX3_strength_21 rfl ?_
  refine z_cV (As := [.int (zI (z))]) (rest := [.long (zJ (10 * vy13))]) (ci := 5) C (c_X3_mass l D A cs tt N ad _ (a) (by omega) _ _ _ (by omega) ⟨ha.1, ha.2⟩  (z) (by omega)) (lt_A0 hN rfl) hay1 ha.1 rfl rfl mv_yX3_mass q_510 hd_yX3_mass (by decide) (Nat.le_of_ble_eq_true rfl) (by decide) dX3_strength_22 rfl (kI0 fun vy14 gvy14 hvy14 => ?_)
  obtain ⟨hvy14, rfl⟩ := hvy14
  refine z_i2l C dX3_strength_25 (by omega) ?_
  refine z_lmul C dX3_strength_26 ?_
  refine z_aload_n C 1 dX3_strength_27 rfl ?_
  refine z_get (v := .ref (ad (a + 1))) C (lt_A0 hN rfl) hay1 ha.1 rfl inA_X3 2 (by decide) q_162 rfl rfl dX3_strength_28 ?_
  refine z_bipush (z := 36) C dX3_strength_31 (by decide) ?_
  refine z_iload_n C 2 dX3_strength_33 rfl ?_
  refine z_iadd C dX3_strength_34 ?_
  refine z_iald C (lt_A (c := 1) hN rfl) hay2 ha.2 ((36 + z).toNat) (by omega) (by omega) (by decide) dX3_strength_35 ?_
  obtain ⟨xy15, exy16, hxy17⟩ := zI_of (zI (r ((36 + z).toNat)))
  rw [exy16]
  refine z_i2l C dX3_strength_36 (by omega) ?_
  obtain ⟨xy18, exy19, hxy20⟩ := zJ_of (zJ ((10 * vy13) * vy14))
  rw [exy19]
  refine z_cSN (As := [.long (zJ (xy18)), .long (zJ (xy15))]) (rest := []) C (c_X9_part l D A cs tt N ad _ (xy18) (xy15) (by omega) (by omega)) ms_yX9_part n_466 hd_yX9_part (by decide) (Nat.le_of_ble_eq_true rfl) (by decide) dX3_strength_37 rfl (kI0 fun vy21 gvy21 hvy21 => ?_)
  obtain ⟨hvy21, rfl⟩ := hvy21
  refine z_istore (lv' := [(4, .int (zI (vy21))), (3, .int (zI (vy13))), (0, .ref (ad a)), (1, .int (zI (z))), (2, .ref (ad b))]) C dX3_strength_40 (by decide) rfl ?_
  refine z_ldc2 (z := 100) C dX3_strength_42 q_501 (by decide) ?_
  refine z_aload_n C 2 dX3_strength_45 rfl ?_
  refine z_get (v := .ref (ad (a + 1))) C (lt_A0 hN rfl) hay1 ha.1 rfl inA_X3 2 (by decide) q_162 rfl rfl dX3_strength_46 ?_
  refine z_bipush (z := 24) C dX3_strength_49 (by decide) ?_
  refine z_iload_n C 3 dX3_strength_51 rfl ?_
  refine z_iadd C dX3_strength_52 ?_
  refine z_iald C (lt_A (c := 1) hN rfl) hay2 ha.2 ((24 + z).toNat) (by omega) (by omega) (by decide) dX3_strength_53 ?_
  obtain ⟨xy22, exy23, hxy24⟩ := zI_of (zI (r ((24 + z).toNat)))
  rw [exy23]
  refine z_i2l C dX3_strength_54 (by omega) ?_
  refine z_lmul C dX3_strength_55 ?_
  refine z_ldc2 (z := 3) C dX3_strength_56 q_581 (by decide) ?_
  refine z_aload_n C 2 dX3_strength_59 rfl ?_
  refine z_get (v := .ref (ad (a + 1))) C (lt_A0 hN rfl) hay1 ha.1 rfl inA_X3 2 (by decide) q_162 rfl rfl dX3_strength_60 ?_
  refine z_bipush (z := 12) C dX3_strength_63 (by decide) ?_
  refine z_iload_n C 3 dX3_strength_65 rfl ?_
  refine z_iadd C dX3_strength_66 ?_
  refine z_iald C (lt_A (c := 1) hN rfl) hay2 ha.2 ((12 + z).toNat) (by omega) (by omega) (by decide) dX3_strength_67 ?_
  obtain ⟨xy25, exy26, hxy27⟩ := zI_of (zI (r ((12 + z).toNat)))
  rw [exy26]
  refine z_i2l C dX3_strength_68 (by omega) ?_
  refine z_lmul C dX3_strength_69 ?_
  refine z_lcmp C dX3_strength_70 (by omega) (by omega) ?_
  have hczr := cmpZ_r (a := 100 * xy22) (b := 3 * xy25)
  refine z_if_lt (tgt := 78) C dX3_strength_71 (by decide) (by omega) (fun hby28 => ?_) (fun hby28 => ?_)
  · have hcy29 : 100 * xy22 < 3 * xy25 := cmpZ_lt.mp hby28
    refine z_iconst (z := 0) C dX3_strength_78 rfl ?_
    refine z_istore (lv' := [(5, .int (zI (0))), (4, .int (zI (vy21))), (3, .int (zI (vy13))), (0, .ref (ad a)), (1, .int (zI (z))), (2, .ref (ad b))]) C dX3_strength_79 (by decide) rfl ?_
    refine z_iload C 0 dX3_strength_81 rfl ?_
    refine z_if_eq (tgt := 93) C dX3_strength_83 (by decide) (by omega) (fun _ => ?_) (fun h => absurd h (by omega))
    refine z_iload C 1 dX3_strength_93 rfl ?_
    exact z_iret C hr hlk dX3_strength_95 (by decide) (by decide) ⟨vy21, rfl, rfl, rfl, by omega, rfl⟩
  · have hcy29 : ¬ (100 * xy22 < 3 * xy25) := fun e9 => hby28 (cmpZ_lt.mpr e9)
    refine z_iconst (z := 1) C dX3_strength_74 rfl ?_
    refine z_goto (tgt := 79) C dX3_strength_75 (by decide) ?_
    refine z_istore (lv' := [(5, .int (zI (1))), (4, .int (zI (vy21))), (3, .int (zI (vy13))), (0, .ref (ad a)), (1, .int (zI (z))), (2, .ref (ad b))]) C dX3_strength_79 (by decide) rfl ?_
    refine z_iload C 0 dX3_strength_81 rfl ?_
    refine z_if_eq (tgt := 93) C dX3_strength_83 (by decide) (by omega) (fun h => absurd h (by omega)) (fun _ => ?_)
    refine z_iload C 1 dX3_strength_86 rfl ?_
    refine z_iconst (z := 2) C dX3_strength_88 rfl ?_
    refine z_idiv C dX3_strength_89 (by omega) (by omega) (by omega) ?_
    refine z_goto (tgt := 95) C dX3_strength_90 (by decide) ?_
    obtain ⟨xy30, exy31, hxy32⟩ := zI_of (zI (vy21.tdiv 2))
    rw [exy31]
    exact z_iret C hr hlk dX3_strength_95 (by decide) (by decide) ⟨xy30, rfl, rfl, rfl, by omega, rfl⟩

set_option maxRecDepth 100000 in
set_option maxHeartbeats 4000000 in
theorem c_X3_ratio (l : Launch) (D : va_G) (A : Nat → Prop) (cs : Nat → ClassId) (tt : Nat) (N : Nat) (ad : Nat → Nat) (g : Nat → va_E) (a : Nat) (hN : a + 2 ≤ N) (sz ro : Int) (r : Nat → Int) (hz : 0 ≤ sz ∧ sz ≤ 12) (ha : isPack cs ad g a sz ro r) (b : Nat) (hNb : b + 7 ≤ N) (sl ho ua : Int) (st op ai fa mu tb : Nat → Int) (hb : isPlan cs ad g b sl ho ua st op ai fa mu tb) (z : Int) (hzl : 0 ≤ z ∧ z ≤ 11) (z1 : Int) (hz1 : -2147483648 ≤ z1 ∧ z1 ≤ 2147483647) : zM l yX3_ratio cX3_ratio 4 (some .int) ({ frames := 3, cells := 0, slots := 0, locals := 180 } : Room) D A cs tt N ad g [.ref (ad a), .int (zI (z)), .int (zI (z1)), .ref (ad b)] (rI0 N ad fun r g' => (-2147483648 ≤ r ∧ r ≤ 2147483647) ∧ g = g') := by
  have hay1 : zAt ad (a) (ad a) := rfl
  have hay2 : zAt ad (a + 1) (ad (a + 1)) := rfl
  have hay3 : zAt ad (b) (ad b) := rfl
  have hay4 : zAt ad (b + 1) (ad (b + 1)) := rfl
  have hay5 : zAt ad (b + 2) (ad (b + 2)) := rfl
  have hay6 : zAt ad (b + 3) (ad (b + 3)) := rfl
  have hay7 : zAt ad (b + 4) (ad (b + 4)) := rfl
  have hay8 : zAt ad (b + 5) (ad (b + 5)) := rfl
  have hay9 : zAt ad (b + 6) (ad (b + 6)) := rfl
  refine z_of (by decide) (Nat.le_of_ble_eq_true rfl) ?_
  intro p e s m below meth c C hr hlk hnm
  refine z_lv (lv' := [(0, .ref (ad a)), (1, .int (zI (z))), (2, .int (zI (z1))), (3, .ref (ad b))]) [0, 1, 2, 3] rfl ?_
  refine z_iload_n C 2 dX3_ratio_0 rfl ?_
  refine z_if_gt (tgt := 8) C dX3_ratio_1 (by decide) (by omega) (fun hby10 => ?_) (fun hby10 => ?_)
  · refine z_ldc2 (z := 100) C dX3_ratio_8 q_501 (by decide) ?_
    refine z_aload_n C 0 dX3_ratio_11 rfl ?_
    refine z_iload_n C 1 dX3_ratio_12 rfl ?_
    refine z_aload_n C 3 dX3_ratio_13 rfl ?_
    refine z_cV (As := [.int (zI (z)), .ref (ad b)]) (rest := [.long (zJ (100))]) (ci := 5) C (c_X3_strength l D A cs tt N ad _ (a) (by omega) _ _ _ (by omega) ⟨ha.1, ha.2⟩ (b) (by omega) _ _ _ _ _ _ _ _ _ ⟨hb.1, hb.2.1, hb.2.2.1, hb.2.2.2.1, hb.2.2.2.2.1, hb.2.2.2.2.2.1, hb.2.2.2.2.2.2⟩ (z) (by omega)) (lt_A0 hN rfl) hay1 ha.1 rfl rfl mv_yX3_strength q_577 hd_yX3_strength (by decide) (Nat.le_of_ble_eq_true rfl) (by decide) dX3_ratio_14 rfl (kI0 fun vy11 gvy11 hvy11 => ?_)
    obtain ⟨hvy11, rfl⟩ := hvy11
    refine z_i2l C dX3_ratio_17 (by omega) ?_
    refine z_lmul C dX3_ratio_18 ?_
    refine z_iload_n C 2 dX3_ratio_19 rfl ?_
    refine z_i2l C dX3_ratio_20 (by omega) ?_
    refine z_ldiv C dX3_ratio_21 (by omega) (by omega) (by omega) ?_
    refine z_ldc2 (z := 9999) C dX3_ratio_22 q_582 (by decide) ?_
    obtain ⟨xy12, exy13, hxy14⟩ := zJ_of (zJ ((100 * vy11).tdiv z1))
    rw [exy13]
    refine z_lminx C q_583 q_584 q_20 q_585 (by omega) (by omega) (by decide) (Nat.le_of_ble_eq_true rfl) (by decide) (by decide) dX3_ratio_25 ?_
    obtain ⟨xy15, exy16, hxy17⟩ := mm_min (xy12) (9999)
    rw [exy16]
    refine z_l2i C dX3_ratio_28 ?_
    obtain ⟨xy18, exy19, hxy20⟩ := zI_of (zI (xy15))
    rw [exy19]
    exact z_iret C hr hlk dX3_ratio_29 (by decide) (by decide) ⟨xy18, rfl, rfl, rfl, by omega, rfl⟩
  · refine z_sipush (z := 9999) C dX3_ratio_4 (by decide) ?_
    exact z_iret C hr hlk dX3_ratio_7 (by decide) (by decide) ⟨9999, rfl, rfl, rfl, by omega, rfl⟩

set_option maxRecDepth 100000 in
set_option maxHeartbeats 4000000 in
theorem c_X3_weakest (l : Launch) (D : va_G) (A : Nat → Prop) (cs : Nat → ClassId) (tt : Nat) (N : Nat) (ad : Nat → Nat) (g : Nat → va_E) (a : Nat) (hN : a + 2 ≤ N) (sz ro : Int) (r : Nat → Int) (hz : 0 ≤ sz ∧ sz ≤ 12) (ha : isPack cs ad g a sz ro r) (b : Nat) (hNb : b + 7 ≤ N) (sl ho ua : Int) (st op ai fa mu tb : Nat → Int) (hb : isPlan cs ad g b sl ho ua st op ai fa mu tb) (z : Int) (hzs : -2147483648 ≤ z ∧ z ≤ 2147483647) : zM l yX3_weakest cX3_weakest 8 (some .int) ({ frames := 4, cells := 0, slots := 0, locals := 240 } : Room) D A cs tt N ad g [.ref (ad a), .int (zI (z)), .ref (ad b)] (rI0 N ad fun r g' => (-1 ≤ r ∧ r < sz) ∧ g = g') := by
  have hay1 : zAt ad (a) (ad a) := rfl
  have hay2 : zAt ad (a + 1) (ad (a + 1)) := rfl
  have hay3 : zAt ad (b) (ad b) := rfl
  have hay4 : zAt ad (b + 1) (ad (b + 1)) := rfl
  have hay5 : zAt ad (b + 2) (ad (b + 2)) := rfl
  have hay6 : zAt ad (b + 3) (ad (b + 3)) := rfl
  have hay7 : zAt ad (b + 4) (ad (b + 4)) := rfl
  have hay8 : zAt ad (b + 5) (ad (b + 5)) := rfl
  have hay9 : zAt ad (b + 6) (ad (b + 6)) := rfl
  refine z_of (by decide) (Nat.le_of_ble_eq_true rfl) ?_
  intro p e s m below meth c C hr hlk hnm
  refine z_lv (lv' := [(0, .ref (ad a)), (1, .int (zI (z))), (2, .ref (ad b))]) [0, 1, 2] rfl ?_
  have lp : ∀ (n9 : Nat) (i : Int) (ab : Int) (le : Int) (wh : Int) (g1 : Nat → va_E), (i + 1).toNat = n9 → (g1 = g) → (-1 ≤ i ∧ i < sz) → (-2147483648 ≤ ab ∧ ab ≤ 2147483647) → (-2147483648 ≤ le ∧ le ≤ 2147483647) → (-1 ≤ wh ∧ wh < sz) → zV p l e ({ frames := 4, cells := 0, slots := 0, locals := 240 } : Room) s m ([.ref (ad a), .int (zI (z)), .ref (ad b)] : List Value).toArray below meth c (MQ below (zPost D A (rI0 N ad fun r g' => (-1 ≤ r ∧ r < sz) ∧ g = g')) ([.ref (ad a), .int (zI (z)), .ref (ad b)] : List Value).toArray s ({ frames := 4, cells := 0, slots := 0, locals := 240 } : Room).cells ({ frames := 4, cells := 0, slots := 0, locals := 240 } : Room).slots A) D A 8 (N) ad g1 (0) (0) 18 [(6, .int (zI (i))), (5, .int (zI (ab))), (4, .int (zI (le))), (3, .int (zI (wh))), (0, .ref (ad a)), (1, .int (zI (z))), (2, .ref (ad b))] [] := by
    intro n9
    induction n9 using Nat.strongRecOn with
    | ind n9 ih =>
      intro i ab le wh g1 hm9 hg1 hv0 hv1 hv2 hv3
      subst hg1
      have hay10 : zAt ad (a) (ad a) := rfl
      have hay11 : zAt ad (a + 1) (ad (a + 1)) := rfl
      have hay12 : zAt ad (b) (ad b) := rfl
      have hay13 : zAt ad (b + 1) (ad (b + 1)) := rfl
      have hay14 : zAt ad (b + 2) (ad (b + 2)) := rfl
      have hay15 : zAt ad (b + 3) (ad (b + 3)) := rfl
      have hay16 : zAt ad (b + 4) (ad (b + 4)) := rfl
      have hay17 : zAt ad (b + 5) (ad (b + 5)) := rfl
      have hay18 : zAt ad (b + 6) (ad (b + 6)) := rfl
      refine z_iload C 0 dX3_weakest_18 rfl ?_
      refine z_if_lt (tgt := 69) C dX3_weakest_20 (by decide) (by omega) (fun hby19 => ?_) (fun hby19 => ?_)
      · refine z_iload_n C 3 dX3_weakest_69 rfl ?_
        exact z_iret C hr hlk dX3_weakest_70 (by decide) (by decide) ⟨wh, rfl, rfl, rfl, by omega, rfl⟩
      · refine z_aload_n C 4 dX3_weakest_23 rfl ?_
        refine z_iload C 0 dX3_weakest_24 rfl ?_
        refine z_iload C 1 dX3_weakest_26 rfl ?_
        refine z_iload_n C 5 dX3_weakest_28 rfl ?_
        refine z_cSN (As := [.int (zI (ab)), .int (zI (z))]) (rest := [.int (zI (i)), .ref (ad a)]) C (c_X9_burden l D A cs tt N ad _ (ab) (z) (by omega) (by omega)) ms_yX9_burden n_568 hd_yX9_burden (by decide) (Nat.le_of_ble_eq_true rfl) (by decide) dX3_weakest_29 rfl (kI0 fun vy20 gvy20 hvy20 => ?_)
        obtain ⟨hvy20, rfl⟩ := hvy20
        refine z_aload_n C 6 dX3_weakest_32 rfl ?_
        refine z_cV (As := [.int (zI (i)), .int (zI (vy20)), .ref (ad b)]) (rest := []) (ci := 5) C (c_X3_ratio l D A cs tt N ad _ (a) (by omega) _ _ _ (by omega) ⟨ha.1, ha.2⟩ (b) (by omega) _ _ _ _ _ _ _ _ _ ⟨hb.1, hb.2.1, hb.2.2.1, hb.2.2.2.1, hb.2.2.2.2.1, hb.2.2.2.2.2.1, hb.2.2.2.2.2.2⟩ (i) (by omega) (vy20) (by omega)) (lt_A0 hN rfl) hay10 ha.1 rfl rfl mv_yX3_ratio q_573 hd_yX3_ratio (by decide) (Nat.le_of_ble_eq_true rfl) (by decide) dX3_weakest_33 rfl (kI0 fun vy21 gvy21 hvy21 => ?_)
        obtain ⟨hvy21, rfl⟩ := hvy21
        refine z_istore (lv' := [(7, .int (zI (vy21))), (6, .int (zI (i))), (5, .int (zI (ab))), (4, .int (zI (le))), (3, .int (zI (wh))), (0, .ref (ad a)), (1, .int (zI (z))), (2, .ref (ad b))]) C dX3_weakest_36 (by decide) rfl ?_
        refine z_iload C 0 dX3_weakest_38 rfl ?_
        refine z_iload C 3 dX3_weakest_40 rfl ?_
        refine z_icmp_gt (tgt := 52) C dX3_weakest_42 (by decide) (by omega) (by omega) (fun hby22 => ?_) (fun hby22 => ?_)
        · refine z_iload C 2 dX3_weakest_52 rfl ?_
          refine z_aload_n C 5 dX3_weakest_54 rfl ?_
          refine z_iload C 1 dX3_weakest_55 rfl ?_
          refine z_cV (As := [.int (zI (i))]) (rest := [.int (zI (ab))]) (ci := 5) C (c_X3_mass l D A cs tt N ad _ (a) (by omega) _ _ _ (by omega) ⟨ha.1, ha.2⟩  (i) (by omega)) (lt_A0 hN rfl) hay10 ha.1 rfl rfl mv_yX3_mass q_510 hd_yX3_mass (by decide) (Nat.le_of_ble_eq_true rfl) (by decide) dX3_weakest_57 rfl (kI0 fun vy23 gvy23 hvy23 => ?_)
          obtain ⟨hvy23, rfl⟩ := hvy23
          refine z_iadd C dX3_weakest_60 ?_
          refine z_istore (lv' := [(5, .int (zI (ab + vy23))), (7, .int (zI (vy21))), (6, .int (zI (i))), (4, .int (zI (le))), (3, .int (zI (wh))), (0, .ref (ad a)), (1, .int (zI (z))), (2, .ref (ad b))]) C dX3_weakest_61 (by decide) rfl ?_
          refine z_iinc (z := i - 1) (lv' := [(6, .int (zI (i - 1))), (5, .int (zI (ab + vy23))), (7, .int (zI (vy21))), (4, .int (zI (le))), (3, .int (zI (wh))), (0, .ref (ad a)), (1, .int (zI (z))), (2, .ref (ad b))]) (j := 2) C dX3_weakest_63 rfl (congrArg zI (by omega)) (by decide) rfl ?_
          refine z_goto (tgt := 18) C dX3_weakest_66 (by decide) ?_
          obtain ⟨xy24, exy25, hxy26⟩ := zI_of (zI (ab + vy23))
          rw [exy25]
          refine z_lv (lv' := [(6, .int (zI (i - 1))), (5, .int (zI (xy24))), (4, .int (zI (le))), (3, .int (zI (wh))), (0, .ref (ad a)), (1, .int (zI (z))), (2, .ref (ad b))]) [0, 1, 3, 4, 5, 6, 7] rfl ?_
          exact ih _ (by omega) (i - 1) (xy24) (le) (wh) _ rfl rfl (by omega) (by omega) (by omega) (by omega)
        · refine z_iload C 1 dX3_weakest_45 rfl ?_
          refine z_istore_n (lv' := [(3, .int (zI (i))), (7, .int (zI (vy21))), (6, .int (zI (i))), (5, .int (zI (ab))), (4, .int (zI (le))), (0, .ref (ad a)), (1, .int (zI (z))), (2, .ref (ad b))]) C dX3_weakest_47 rfl (by decide) rfl ?_
          refine z_iload C 1 dX3_weakest_48 rfl ?_
          refine z_istore (lv' := [(4, .int (zI (vy21))), (3, .int (zI (i))), (7, .int (zI (vy21))), (6, .int (zI (i))), (5, .int (zI (ab))), (0, .ref (ad a)), (1, .int (zI (z))), (2, .ref (ad b))]) C dX3_weakest_50 (by decide) rfl ?_
          refine z_iload C 4 dX3_weakest_52 rfl ?_
          refine z_aload_n C 5 dX3_weakest_54 rfl ?_
          refine z_iload C 3 dX3_weakest_55 rfl ?_
          refine z_cV (As := [.int (zI (i))]) (rest := [.int (zI (ab))]) (ci := 5) C (c_X3_mass l D A cs tt N ad _ (a) (by omega) _ _ _ (by omega) ⟨ha.1, ha.2⟩  (i) (by omega)) (lt_A0 hN rfl) hay10 ha.1 rfl rfl mv_yX3_mass q_510 hd_yX3_mass (by decide) (Nat.le_of_ble_eq_true rfl) (by decide) dX3_weakest_57 rfl (kI0 fun vy27 gvy27 hvy27 => ?_)
          obtain ⟨hvy27, rfl⟩ := hvy27
          refine z_iadd C dX3_weakest_60 ?_
          refine z_istore (lv' := [(5, .int (zI (ab + vy27))), (4, .int (zI (vy21))), (3, .int (zI (i))), (7, .int (zI (vy21))), (6, .int (zI (i))), (0, .ref (ad a)), (1, .int (zI (z))), (2, .ref (ad b))]) C dX3_weakest_61 (by decide) rfl ?_
          refine z_iinc (z := i - 1) (lv' := [(6, .int (zI (i - 1))), (5, .int (zI (ab + vy27))), (4, .int (zI (vy21))), (3, .int (zI (i))), (7, .int (zI (vy21))), (0, .ref (ad a)), (1, .int (zI (z))), (2, .ref (ad b))]) (j := 4) C dX3_weakest_63 rfl (congrArg zI (by omega)) (by decide) rfl ?_
          refine z_goto (tgt := 18) C dX3_weakest_66 (by decide) ?_
          obtain ⟨xy28, exy29, hxy30⟩ := zI_of (zI (ab + vy27))
          rw [exy29]
          refine z_lv (lv' := [(6, .int (zI (i - 1))), (5, .int (zI (xy28))), (4, .int (zI (vy21))), (3, .int (zI (i))), (0, .ref (ad a)), (1, .int (zI (z))), (2, .ref (ad b))]) [0, 1, 2, 3, 5, 6, 7] rfl ?_
          exact ih _ (by omega) (i - 1) (xy28) (vy21) (i) _ rfl rfl (by omega) (by omega) (by omega) (by omega)
  refine z_iconst (z := -1) C dX3_weakest_0 rfl ?_
  refine z_istore_n (lv' := [(3, .int (zI (-1))), (0, .ref (ad a)), (1, .int (zI (z))), (2, .ref (ad b))]) C dX3_weakest_1 rfl (by decide) rfl ?_
  refine z_sipush (z := 9999) C dX3_weakest_2 (by decide) ?_
  refine z_istore (lv' := [(4, .int (zI (9999))), (3, .int (zI (-1))), (0, .ref (ad a)), (1, .int (zI (z))), (2, .ref (ad b))]) C dX3_weakest_5 (by decide) rfl ?_
  refine z_iconst (z := 0) C dX3_weakest_7 rfl ?_
  refine z_istore (lv' := [(5, .int (zI (0))), (4, .int (zI (9999))), (3, .int (zI (-1))), (0, .ref (ad a)), (1, .int (zI (z))), (2, .ref (ad b))]) C dX3_weakest_8 (by decide) rfl ?_
  refine z_aload_n C 3 dX3_weakest_10 rfl ?_
  refine z_get (v := .int (zI (sz))) C (lt_A0 hN rfl) hay1 ha.1 rfl inA_X3 0 (by decide) q_154 rfl rfl dX3_weakest_11 ?_
  refine z_iconst (z := 1) C dX3_weakest_14 rfl ?_
  refine z_isub C dX3_weakest_15 ?_
  refine z_istore (lv' := [(6, .int (zI (sz - 1))), (5, .int (zI (0))), (4, .int (zI (9999))), (3, .int (zI (-1))), (0, .ref (ad a)), (1, .int (zI (z))), (2, .ref (ad b))]) C dX3_weakest_16 (by decide) rfl ?_
  refine z_lv (lv' := [(6, .int (zI (sz - 1))), (5, .int (zI (0))), (4, .int (zI (9999))), (3, .int (zI (-1))), (0, .ref (ad a)), (1, .int (zI (z))), (2, .ref (ad b))]) [0, 1, 2, 3, 4, 5, 6] rfl ?_
  exact lp _ (sz - 1) (0) (9999) (-1) _ rfl rfl (by omega) (by omega) (by omega) (by omega)

set_option maxRecDepth 100000 in
set_option maxHeartbeats 4000000 in
theorem c_X3_leastRatio (l : Launch) (D : va_G) (A : Nat → Prop) (cs : Nat → ClassId) (tt : Nat) (N : Nat) (ad : Nat → Nat) (g : Nat → va_E) (a : Nat) (hN : a + 2 ≤ N) (sz ro : Int) (r : Nat → Int) (hz : 0 ≤ sz ∧ sz ≤ 12) (ha : isPack cs ad g a sz ro r) (b : Nat) (hNb : b + 7 ≤ N) (sl ho ua : Int) (st op ai fa mu tb : Nat → Int) (hb : isPlan cs ad g b sl ho ua st op ai fa mu tb) (z : Int) (hzs : -2147483648 ≤ z ∧ z ≤ 2147483647) : zM l yX3_leastRatio cX3_leastRatio 4 (some .int) ({ frames := 5, cells := 0, slots := 0, locals := 300 } : Room) D A cs tt N ad g [.ref (ad a), .int (zI (z)), .ref (ad b)] (rI0 N ad fun r g' => (-2147483648 ≤ r ∧ r ≤ 2147483647) ∧ g = g') := by
  have hay1 : zAt ad (a) (ad a) := rfl
  have hay2 : zAt ad (a + 1) (ad (a + 1)) := rfl
  have hay3 : zAt ad (b) (ad b) := rfl
  have hay4 : zAt ad (b + 1) (ad (b + 1)) := rfl
  have hay5 : zAt ad (b + 2) (ad (b + 2)) := rfl
  have hay6 : zAt ad (b + 3) (ad (b + 3)) := rfl
  have hay7 : zAt ad (b + 4) (ad (b + 4)) := rfl
  have hay8 : zAt ad (b + 5) (ad (b + 5)) := rfl
  have hay9 : zAt ad (b + 6) (ad (b + 6)) := rfl
  refine z_of (by decide) (Nat.le_of_ble_eq_true rfl) ?_
  intro p e s m below meth c C hr hlk hnm
  refine z_lv (lv' := [(0, .ref (ad a)), (1, .int (zI (z))), (2, .ref (ad b))]) [0, 1, 2] rfl ?_
  refine z_aload_n C 0 dX3_leastRatio_0 rfl ?_
  refine z_iload_n C 1 dX3_leastRatio_1 rfl ?_
  refine z_aload_n C 2 dX3_leastRatio_2 rfl ?_
  refine z_cV (As := [.int (zI (z)), .ref (ad b)]) (rest := []) (ci := 5) C (c_X3_weakest l D A cs tt N ad _ (a) (by omega) _ _ _ (by omega) ⟨ha.1, ha.2⟩ (b) (by omega) _ _ _ _ _ _ _ _ _ ⟨hb.1, hb.2.1, hb.2.2.1, hb.2.2.2.1, hb.2.2.2.2.1, hb.2.2.2.2.2.1, hb.2.2.2.2.2.2⟩ (z) (by omega)) (lt_A0 hN rfl) hay1 ha.1 rfl rfl mv_yX3_weakest q_902 hd_yX3_weakest (by decide) (Nat.le_of_ble_eq_true rfl) (by decide) dX3_leastRatio_3 rfl (kI0 fun vy10 gvy10 hvy10 => ?_)
  obtain ⟨hvy10, rfl⟩ := hvy10
  refine z_istore_n (lv' := [(3, .int (zI (vy10))), (0, .ref (ad a)), (1, .int (zI (z))), (2, .ref (ad b))]) C dX3_leastRatio_6 rfl (by decide) rfl ?_
  refine z_iload_n C 0 dX3_leastRatio_7 rfl ?_
  refine z_iconst (z := -1) C dX3_leastRatio_8 rfl ?_
  refine z_icmp_ne (tgt := 18) C dX3_leastRatio_9 (by decide) (by omega) (by omega) (fun hby11 => ?_) (fun hby11 => ?_)
  · refine z_aload_n C 1 dX3_leastRatio_18 rfl ?_
    refine z_iload_n C 0 dX3_leastRatio_19 rfl ?_
    refine z_aload_n C 1 dX3_leastRatio_20 rfl ?_
    refine z_iload_n C 0 dX3_leastRatio_21 rfl ?_
    refine z_cV (As := [.int (zI (vy10))]) (rest := [.int (zI (vy10)), .ref (ad a)]) (ci := 5) C (c_X3_massAbove l D A cs tt N ad _ (a) (by omega) _ _ _ (by omega) ⟨ha.1, ha.2⟩  (vy10) (by omega)) (lt_A0 hN rfl) hay1 ha.1 rfl rfl mv_yX3_massAbove q_903 hd_yX3_massAbove (by decide) (Nat.le_of_ble_eq_true rfl) (by decide) dX3_leastRatio_22 rfl (kI0 fun vy12 gvy12 hvy12 => ?_)
    obtain ⟨hvy12, rfl⟩ := hvy12
    refine z_iload_n C 2 dX3_leastRatio_25 rfl ?_
    refine z_cSN (As := [.int (zI (vy12)), .int (zI (z))]) (rest := [.int (zI (vy10)), .ref (ad a)]) C (c_X9_burden l D A cs tt N ad _ (vy12) (z) (by omega) (by omega)) ms_yX9_burden n_568 hd_yX9_burden (by decide) (Nat.le_of_ble_eq_true rfl) (by decide) dX3_leastRatio_26 rfl (kI0 fun vy13 gvy13 hvy13 => ?_)
    obtain ⟨hvy13, rfl⟩ := hvy13
    refine z_aload_n C 3 dX3_leastRatio_29 rfl ?_
    refine z_cV (As := [.int (zI (vy10)), .int (zI (vy13)), .ref (ad b)]) (rest := []) (ci := 5) C (c_X3_ratio l D A cs tt N ad _ (a) (by omega) _ _ _ (by omega) ⟨ha.1, ha.2⟩ (b) (by omega) _ _ _ _ _ _ _ _ _ ⟨hb.1, hb.2.1, hb.2.2.1, hb.2.2.2.1, hb.2.2.2.2.1, hb.2.2.2.2.2.1, hb.2.2.2.2.2.2⟩ (vy10) (by omega) (vy13) (by omega)) (lt_A0 hN rfl) hay1 ha.1 rfl rfl mv_yX3_ratio q_573 hd_yX3_ratio (by decide) (Nat.le_of_ble_eq_true rfl) (by decide) dX3_leastRatio_30 rfl (kI0 fun vy14 gvy14 hvy14 => ?_)
    obtain ⟨hvy14, rfl⟩ := hvy14
    exact z_iret C hr hlk dX3_leastRatio_33 (by decide) (by decide) ⟨vy14, rfl, rfl, rfl, by omega, rfl⟩
  · refine z_sipush (z := 9999) C dX3_leastRatio_12 (by decide) ?_
    refine z_goto (tgt := 33) C dX3_leastRatio_15 (by decide) ?_
    exact z_iret C hr hlk dX3_leastRatio_33 (by decide) (by decide) ⟨9999, rfl, rfl, rfl, by omega, rfl⟩

set_option maxRecDepth 100000 in
set_option maxHeartbeats 4000000 in
theorem c_X3_lowestUnstable (l : Launch) (D : va_G) (A : Nat → Prop) (cs : Nat → ClassId) (tt : Nat) (N : Nat) (ad : Nat → Nat) (g : Nat → va_E) (a : Nat) (hN : a + 2 ≤ N) (sz ro : Int) (r : Nat → Int) (hz : 0 ≤ sz ∧ sz ≤ 12) (ha : isPack cs ad g a sz ro r) (b : Nat) (hNb : b + 7 ≤ N) (sl ho ua : Int) (st op ai fa mu tb : Nat → Int) (hb : isPlan cs ad g b sl ho ua st op ai fa mu tb) (z : Int) (hzs : -2147483648 ≤ z ∧ z ≤ 2147483647) (z1 : Int) (hz1 : -2147483648 ≤ z1 ∧ z1 ≤ 2147483647) : zM l yX3_lowestUnstable cX3_lowestUnstable 7 (some .int) ({ frames := 4, cells := 0, slots := 0, locals := 240 } : Room) D A cs tt N ad g [.ref (ad a), .int (zI (z)), .int (zI (z1)), .ref (ad b)] (rI0 N ad fun r g' => (-1 ≤ r ∧ r < sz) ∧ g = g') := by
  have hay1 : zAt ad (a) (ad a) := rfl
  have hay2 : zAt ad (a + 1) (ad (a + 1)) := rfl
  have hay3 : zAt ad (b) (ad b) := rfl
  have hay4 : zAt ad (b + 1) (ad (b + 1)) := rfl
  have hay5 : zAt ad (b + 2) (ad (b + 2)) := rfl
  have hay6 : zAt ad (b + 3) (ad (b + 3)) := rfl
  have hay7 : zAt ad (b + 4) (ad (b + 4)) := rfl
  have hay8 : zAt ad (b + 5) (ad (b + 5)) := rfl
  have hay9 : zAt ad (b + 6) (ad (b + 6)) := rfl
  refine z_of (by decide) (Nat.le_of_ble_eq_true rfl) ?_
  intro p e s m below meth c C hr hlk hnm
  refine z_lv (lv' := [(0, .ref (ad a)), (1, .int (zI (z))), (2, .int (zI (z1))), (3, .ref (ad b))]) [0, 1, 2, 3] rfl ?_
  have lp : ∀ (n9 : Nat) (i : Int) (ab : Int) (wh : Int) (g1 : Nat → va_E), (i + 1).toNat = n9 → (g1 = g) → (-1 ≤ i ∧ i < sz) → (-2147483648 ≤ ab ∧ ab ≤ 2147483647) → (-1 ≤ wh ∧ wh < sz) → zV p l e ({ frames := 4, cells := 0, slots := 0, locals := 240 } : Room) s m ([.ref (ad a), .int (zI (z)), .int (zI (z1)), .ref (ad b)] : List Value).toArray below meth c (MQ below (zPost D A (rI0 N ad fun r g' => (-1 ≤ r ∧ r < sz) ∧ g = g')) ([.ref (ad a), .int (zI (z)), .int (zI (z1)), .ref (ad b)] : List Value).toArray s ({ frames := 4, cells := 0, slots := 0, locals := 240 } : Room).cells ({ frames := 4, cells := 0, slots := 0, locals := 240 } : Room).slots A) D A 7 (N) ad g1 (0) (0) 14 [(6, .int (zI (i))), (5, .int (zI (ab))), (4, .int (zI (wh))), (0, .ref (ad a)), (1, .int (zI (z))), (2, .int (zI (z1))), (3, .ref (ad b))] [] := by
    intro n9
    induction n9 using Nat.strongRecOn with
    | ind n9 ih =>
      intro i ab wh g1 hm9 hg1 hv0 hv1 hv2
      subst hg1
      have hay10 : zAt ad (a) (ad a) := rfl
      have hay11 : zAt ad (a + 1) (ad (a + 1)) := rfl
      have hay12 : zAt ad (b) (ad b) := rfl
      have hay13 : zAt ad (b + 1) (ad (b + 1)) := rfl
      have hay14 : zAt ad (b + 2) (ad (b + 2)) := rfl
      have hay15 : zAt ad (b + 3) (ad (b + 3)) := rfl
      have hay16 : zAt ad (b + 4) (ad (b + 4)) := rfl
      have hay17 : zAt ad (b + 5) (ad (b + 5)) := rfl
      have hay18 : zAt ad (b + 6) (ad (b + 6)) := rfl
      refine z_iload C 0 dX3_lowestUnstable_14 rfl ?_
      refine z_if_lt (tgt := 58) C dX3_lowestUnstable_16 (by decide) (by omega) (fun hby19 => ?_) (fun hby19 => ?_)
      · refine z_iload C 2 dX3_lowestUnstable_58 rfl ?_
        exact z_iret C hr hlk dX3_lowestUnstable_60 (by decide) (by decide) ⟨wh, rfl, rfl, rfl, by omega, rfl⟩
      · refine z_aload_n C 3 dX3_lowestUnstable_19 rfl ?_
        refine z_iload C 0 dX3_lowestUnstable_20 rfl ?_
        refine z_iload C 1 dX3_lowestUnstable_22 rfl ?_
        refine z_iload_n C 4 dX3_lowestUnstable_24 rfl ?_
        refine z_cSN (As := [.int (zI (ab)), .int (zI (z))]) (rest := [.int (zI (i)), .ref (ad a)]) C (c_X9_burden l D A cs tt N ad _ (ab) (z) (by omega) (by omega)) ms_yX9_burden n_568 hd_yX9_burden (by decide) (Nat.le_of_ble_eq_true rfl) (by decide) dX3_lowestUnstable_25 rfl (kI0 fun vy20 gvy20 hvy20 => ?_)
        obtain ⟨hvy20, rfl⟩ := hvy20
        refine z_aload_n C 6 dX3_lowestUnstable_28 rfl ?_
        refine z_cV (As := [.int (zI (i)), .int (zI (vy20)), .ref (ad b)]) (rest := []) (ci := 5) C (c_X3_ratio l D A cs tt N ad _ (a) (by omega) _ _ _ (by omega) ⟨ha.1, ha.2⟩ (b) (by omega) _ _ _ _ _ _ _ _ _ ⟨hb.1, hb.2.1, hb.2.2.1, hb.2.2.2.1, hb.2.2.2.2.1, hb.2.2.2.2.2.1, hb.2.2.2.2.2.2⟩ (i) (by omega) (vy20) (by omega)) (lt_A0 hN rfl) hay10 ha.1 rfl rfl mv_yX3_ratio q_573 hd_yX3_ratio (by decide) (Nat.le_of_ble_eq_true rfl) (by decide) dX3_lowestUnstable_29 rfl (kI0 fun vy21 gvy21 hvy21 => ?_)
        obtain ⟨hvy21, rfl⟩ := hvy21
        refine z_bipush (z := 100) C dX3_lowestUnstable_32 (by decide) ?_
        refine z_icmp_ge (tgt := 41) C dX3_lowestUnstable_34 (by decide) (by omega) (by omega) (fun hby22 => ?_) (fun hby22 => ?_)
        · refine z_iload C 1 dX3_lowestUnstable_41 rfl ?_
          refine z_aload_n C 3 dX3_lowestUnstable_43 rfl ?_
          refine z_iload C 0 dX3_lowestUnstable_44 rfl ?_
          refine z_cV (As := [.int (zI (i))]) (rest := [.int (zI (ab))]) (ci := 5) C (c_X3_mass l D A cs tt N ad _ (a) (by omega) _ _ _ (by omega) ⟨ha.1, ha.2⟩  (i) (by omega)) (lt_A0 hN rfl) hay10 ha.1 rfl rfl mv_yX3_mass q_510 hd_yX3_mass (by decide) (Nat.le_of_ble_eq_true rfl) (by decide) dX3_lowestUnstable_46 rfl (kI0 fun vy23 gvy23 hvy23 => ?_)
          obtain ⟨hvy23, rfl⟩ := hvy23
          refine z_iadd C dX3_lowestUnstable_49 ?_
          refine z_istore (lv' := [(5, .int (zI (ab + vy23))), (6, .int (zI (i))), (4, .int (zI (wh))), (0, .ref (ad a)), (1, .int (zI (z))), (2, .int (zI (z1))), (3, .ref (ad b))]) C dX3_lowestUnstable_50 (by decide) rfl ?_
          refine z_iinc (z := i - 1) (lv' := [(6, .int (zI (i - 1))), (5, .int (zI (ab + vy23))), (4, .int (zI (wh))), (0, .ref (ad a)), (1, .int (zI (z))), (2, .int (zI (z1))), (3, .ref (ad b))]) (j := 1) C dX3_lowestUnstable_52 rfl (congrArg zI (by omega)) (by decide) rfl ?_
          refine z_goto (tgt := 14) C dX3_lowestUnstable_55 (by decide) ?_
          obtain ⟨xy24, exy25, hxy26⟩ := zI_of (zI (ab + vy23))
          rw [exy25]
          refine z_lv (lv' := [(6, .int (zI (i - 1))), (5, .int (zI (xy24))), (4, .int (zI (wh))), (0, .ref (ad a)), (1, .int (zI (z))), (2, .int (zI (z1))), (3, .ref (ad b))]) [0, 1, 2, 3, 4, 5, 6] rfl ?_
          exact ih _ (by omega) (i - 1) (xy24) (wh) _ rfl rfl (by omega) (by omega) (by omega)
        · refine z_iload C 0 dX3_lowestUnstable_37 rfl ?_
          refine z_istore (lv' := [(4, .int (zI (i))), (6, .int (zI (i))), (5, .int (zI (ab))), (0, .ref (ad a)), (1, .int (zI (z))), (2, .int (zI (z1))), (3, .ref (ad b))]) C dX3_lowestUnstable_39 (by decide) rfl ?_
          refine z_iload C 2 dX3_lowestUnstable_41 rfl ?_
          refine z_aload_n C 3 dX3_lowestUnstable_43 rfl ?_
          refine z_iload C 1 dX3_lowestUnstable_44 rfl ?_
          refine z_cV (As := [.int (zI (i))]) (rest := [.int (zI (ab))]) (ci := 5) C (c_X3_mass l D A cs tt N ad _ (a) (by omega) _ _ _ (by omega) ⟨ha.1, ha.2⟩  (i) (by omega)) (lt_A0 hN rfl) hay10 ha.1 rfl rfl mv_yX3_mass q_510 hd_yX3_mass (by decide) (Nat.le_of_ble_eq_true rfl) (by decide) dX3_lowestUnstable_46 rfl (kI0 fun vy27 gvy27 hvy27 => ?_)
          obtain ⟨hvy27, rfl⟩ := hvy27
          refine z_iadd C dX3_lowestUnstable_49 ?_
          refine z_istore (lv' := [(5, .int (zI (ab + vy27))), (4, .int (zI (i))), (6, .int (zI (i))), (0, .ref (ad a)), (1, .int (zI (z))), (2, .int (zI (z1))), (3, .ref (ad b))]) C dX3_lowestUnstable_50 (by decide) rfl ?_
          refine z_iinc (z := i - 1) (lv' := [(6, .int (zI (i - 1))), (5, .int (zI (ab + vy27))), (4, .int (zI (i))), (0, .ref (ad a)), (1, .int (zI (z))), (2, .int (zI (z1))), (3, .ref (ad b))]) (j := 2) C dX3_lowestUnstable_52 rfl (congrArg zI (by omega)) (by decide) rfl ?_
          refine z_goto (tgt := 14) C dX3_lowestUnstable_55 (by decide) ?_
          obtain ⟨xy28, exy29, hxy30⟩ := zI_of (zI (ab + vy27))
          rw [exy29]
          refine z_lv (lv' := [(6, .int (zI (i - 1))), (5, .int (zI (xy28))), (4, .int (zI (i))), (0, .ref (ad a)), (1, .int (zI (z))), (2, .int (zI (z1))), (3, .ref (ad b))]) [0, 1, 2, 3, 4, 5, 6] rfl ?_
          exact ih _ (by omega) (i - 1) (xy28) (i) _ rfl rfl (by omega) (by omega) (by omega)
  refine z_iconst (z := -1) C dX3_lowestUnstable_0 rfl ?_
  refine z_istore (lv' := [(4, .int (zI (-1))), (0, .ref (ad a)), (1, .int (zI (z))), (2, .int (zI (z1))), (3, .ref (ad b))]) C dX3_lowestUnstable_1 (by decide) rfl ?_
  refine z_iload_n C 3 dX3_lowestUnstable_3 rfl ?_
  refine z_istore (lv' := [(5, .int (zI (z1))), (4, .int (zI (-1))), (0, .ref (ad a)), (1, .int (zI (z))), (2, .int (zI (z1))), (3, .ref (ad b))]) C dX3_lowestUnstable_4 (by decide) rfl ?_
  refine z_aload_n C 2 dX3_lowestUnstable_6 rfl ?_
  refine z_get (v := .int (zI (sz))) C (lt_A0 hN rfl) hay1 ha.1 rfl inA_X3 0 (by decide) q_154 rfl rfl dX3_lowestUnstable_7 ?_
  refine z_iconst (z := 1) C dX3_lowestUnstable_10 rfl ?_
  refine z_isub C dX3_lowestUnstable_11 ?_
  refine z_istore (lv' := [(6, .int (zI (sz - 1))), (5, .int (zI (z1))), (4, .int (zI (-1))), (0, .ref (ad a)), (1, .int (zI (z))), (2, .int (zI (z1))), (3, .ref (ad b))]) C dX3_lowestUnstable_12 (by decide) rfl ?_
  refine z_lv (lv' := [(6, .int (zI (sz - 1))), (5, .int (zI (z1))), (4, .int (zI (-1))), (0, .ref (ad a)), (1, .int (zI (z))), (2, .int (zI (z1))), (3, .ref (ad b))]) [0, 1, 2, 3, 4, 5, 6] rfl ?_
  exact lp _ (sz - 1) (z1) (-1) _ rfl rfl (by omega) (by omega) (by omega)
end
section
-- 20.words.lean.txt
-- words of packm
theorem q_21 : (Jvm.Cond.initialized "java/lang/System") ∈ AW := AW_m1 21 (by decide +kernel) (by decide +kernel)
theorem q_428 : (Jvm.Cond.methodLink "SnowRecorder$Pack" (22 : Nat) ({ cls := "java/lang/System", name := "arraycopy", desc := "(Ljava/lang/Object;ILjava/lang/Object;II)V" } : Jvm.MethodName)) ∈ AW := AW_m2 188 (by decide +kernel) (by decide +kernel)
theorem q_429 : (Jvm.Cond.static ({ cls := "java/lang/System", name := "arraycopy", desc := "(Ljava/lang/Object;ILjava/lang/Object;II)V" } : Jvm.MethodName)) ∈ AW := AW_m2 189 (by decide +kernel) (by decide +kernel)
theorem q_430 : (Jvm.Cond.native ({ cls := "java/lang/System", name := "arraycopy", desc := "(Ljava/lang/Object;ILjava/lang/Object;II)V" } : Jvm.MethodName)) ∈ AW := AW_m2 190 (by decide +kernel) (by decide +kernel)
theorem q_459 : (Jvm.Cond.instanceMethod ({ cls := "SnowRecorder$Pack", name := "wet", desc := "(II)V" } : Jvm.MethodName)) ∈ AW := AW_m2 219 (by decide +kernel) (by decide +kernel)
theorem q_460 : (Jvm.Cond.selects "SnowRecorder$Pack" ({ cls := "SnowRecorder$Pack", name := "wet", desc := "(II)V" } : Jvm.MethodName) ({ cls := "SnowRecorder$Pack", name := "wet", desc := "(II)V" } : Jvm.MethodName)) ∈ AW := AW_m2 220 (by decide +kernel) (by decide +kernel)
theorem q_461 : (Jvm.Cond.code ({ cls := "SnowRecorder$Pack", name := "wet", desc := "(II)V" } : Jvm.MethodName) prog_5_method_12_code (3 : Nat) (Option.none : Option Jvm.ClassFile.FieldType)) ∈ AW := AW_m2 221 (by decide +kernel) (by decide +kernel)
theorem q_469 : (Jvm.Cond.methodLink "SnowRecorder$Pack" (40 : Nat) ({ cls := "java/lang/Math", name := "max", desc := "(II)I" } : Jvm.MethodName)) ∈ AW := AW_m2 229 (by decide +kernel) (by decide +kernel)
theorem q_470 : (Jvm.Cond.static ({ cls := "java/lang/Math", name := "max", desc := "(II)I" } : Jvm.MethodName)) ∈ AW := AW_m2 230 (by decide +kernel) (by decide +kernel)
theorem q_471 : (Jvm.Cond.code ({ cls := "java/lang/Math", name := "max", desc := "(II)I" } : Jvm.MethodName) prog_22_method_65_code (2 : Nat) (Option.some Jvm.ClassFile.FieldType.int)) ∈ AW := AW_m2 231 (by decide +kernel) (by decide +kernel)
theorem q_484 : (Jvm.Cond.methodLink "SnowRecorder$Pack" (49 : Nat) ({ cls := "SnowRecorder$Pack", name := "wet", desc := "(II)V" } : Jvm.MethodName)) ∈ AW := AW_m3 4 (by decide +kernel) (by decide +kernel)
theorem q_497 : (Jvm.Cond.methodLink "SnowRecorder$Pack" (53 : Nat) ({ cls := "SnowRecorder$Pack", name := "freeze", desc := "(I)V" } : Jvm.MethodName)) ∈ AW := AW_m3 17 (by decide +kernel) (by decide +kernel)
theorem q_499 : (Jvm.Cond.instanceMethod ({ cls := "SnowRecorder$Pack", name := "freeze", desc := "(I)V" } : Jvm.MethodName)) ∈ AW := AW_m3 19 (by decide +kernel) (by decide +kernel)
theorem q_500 : (Jvm.Cond.code ({ cls := "SnowRecorder$Pack", name := "freeze", desc := "(I)V" } : Jvm.MethodName) prog_5_method_17_code (5 : Nat) (Option.none : Option Jvm.ClassFile.FieldType)) ∈ AW := AW_m3 20 (by decide +kernel) (by decide +kernel)
theorem q_514 : (Jvm.Cond.methodLink "SnowRecorder$Pack" (64 : Nat) ({ cls := "java/lang/Math", name := "max", desc := "(JJ)J" } : Jvm.MethodName)) ∈ AW := AW_m3 34 (by decide +kernel) (by decide +kernel)
theorem q_515 : (Jvm.Cond.static ({ cls := "java/lang/Math", name := "max", desc := "(JJ)J" } : Jvm.MethodName)) ∈ AW := AW_m3 35 (by decide +kernel) (by decide +kernel)
theorem q_516 : (Jvm.Cond.code ({ cls := "java/lang/Math", name := "max", desc := "(JJ)J" } : Jvm.MethodName) prog_22_method_66_code (4 : Nat) (Option.some Jvm.ClassFile.FieldType.long)) ∈ AW := AW_m3 36 (by decide +kernel) (by decide +kernel)
theorem q_521 : (Jvm.Cond.methodLink "SnowRecorder$Pack" (67 : Nat) ({ cls := "SnowRecorder$Pack", name := "grade", desc := "(II)I" } : Jvm.MethodName)) ∈ AW := AW_m3 41 (by decide +kernel) (by decide +kernel)
theorem q_522 : (Jvm.Cond.instanceMethod ({ cls := "SnowRecorder$Pack", name := "grade", desc := "(II)I" } : Jvm.MethodName)) ∈ AW := AW_m3 42 (by decide +kernel) (by decide +kernel)
theorem q_523 : (Jvm.Cond.selects "SnowRecorder$Pack" ({ cls := "SnowRecorder$Pack", name := "grade", desc := "(II)I" } : Jvm.MethodName) ({ cls := "SnowRecorder$Pack", name := "grade", desc := "(II)I" } : Jvm.MethodName)) ∈ AW := AW_m3 43 (by decide +kernel) (by decide +kernel)
theorem q_524 : (Jvm.Cond.code ({ cls := "SnowRecorder$Pack", name := "grade", desc := "(II)I" } : Jvm.MethodName) prog_5_method_21_code (5 : Nat) (Option.some Jvm.ClassFile.FieldType.int)) ∈ AW := AW_m3 44 (by decide +kernel) (by decide +kernel)
theorem q_529 : (Jvm.Cond.methodLink "SnowRecorder$Pack" (70 : Nat) ({ cls := "SnowRecorder$Pack", name := "nextKind", desc := "(II)I" } : Jvm.MethodName)) ∈ AW := AW_m3 49 (by decide +kernel) (by decide +kernel)
theorem q_531 : (Jvm.Cond.instanceMethod ({ cls := "SnowRecorder$Pack", name := "nextKind", desc := "(II)I" } : Jvm.MethodName)) ∈ AW := AW_m3 51 (by decide +kernel) (by decide +kernel)
theorem q_532 : (Jvm.Cond.code ({ cls := "SnowRecorder$Pack", name := "nextKind", desc := "(II)I" } : Jvm.MethodName) prog_5_method_20_code (5 : Nat) (Option.some Jvm.ClassFile.FieldType.int)) ∈ AW := AW_m3 52 (by decide +kernel) (by decide +kernel)
theorem s_3 : Cond.selects "SnowRecorder$Pack" ({ cls := "SnowRecorder$Pack", name := "freeze", desc := "(I)V" } : Jvm.MethodName) ({ cls := "SnowRecorder$Pack", name := "freeze", desc := "(I)V" } : Jvm.MethodName) ∈ AW := AW_m 3 (by decide +kernel) (by decide +kernel)
theorem s_4 : Cond.selects "SnowRecorder$Pack" ({ cls := "SnowRecorder$Pack", name := "nextKind", desc := "(II)I" } : Jvm.MethodName) ({ cls := "SnowRecorder$Pack", name := "nextKind", desc := "(II)I" } : Jvm.MethodName) ∈ AW := AW_m 4 (by decide +kernel) (by decide +kernel)
theorem hd_yX3_wet : yX3_wet.cls ≠ "java/lang/invoke/MethodHandle" ∧ yX3_wet.cls ≠ "java/lang/invoke/VarHandle" ∧ (parseMethodDescriptor yX3_wet.desc).map (fun d => d.parameters.length) = some 2 := by decide +kernel
theorem hd_yX3_freeze : yX3_freeze.cls ≠ "java/lang/invoke/MethodHandle" ∧ yX3_freeze.cls ≠ "java/lang/invoke/VarHandle" ∧ (parseMethodDescriptor yX3_freeze.desc).map (fun d => d.parameters.length) = some 1 := by decide +kernel
theorem hd_yX3_grade : yX3_grade.cls ≠ "java/lang/invoke/MethodHandle" ∧ yX3_grade.cls ≠ "java/lang/invoke/VarHandle" ∧ (parseMethodDescriptor yX3_grade.desc).map (fun d => d.parameters.length) = some 2 := by decide +kernel
theorem hd_yX3_nextKind : yX3_nextKind.cls ≠ "java/lang/invoke/MethodHandle" ∧ yX3_nextKind.cls ≠ "java/lang/invoke/VarHandle" ∧ (parseMethodDescriptor yX3_nextKind.desc).map (fun d => d.parameters.length) = some 2 := by decide +kernel
theorem mv_yX3_wet : zWv yX3_wet cX3_wet 3 none := ⟨q_459, q_460, q_6, q_461⟩
theorem mv_yX3_freeze : zWv yX3_freeze cX3_freeze 5 none := ⟨q_499, s_3, q_6, q_500⟩
theorem mv_yX3_grade : zWv yX3_grade cX3_grade 5 (some .int) := ⟨q_522, q_523, q_6, q_524⟩
theorem mv_yX3_nextKind : zWv yX3_nextKind cX3_nextKind 5 (some .int) := ⟨q_531, s_4, q_6, q_532⟩
end
section
-- 21.dec.lean.txt
-- decode rows of packm
theorem dX3_wet_0 : decode cX3_wet 0 = .ok (.iload_n 1, 1) := by decide +kernel
theorem dX3_wet_1 : decode cX3_wet 1 = .ok (.ifCond .le 21, 3) := by decide +kernel
theorem dX3_wet_22 : decode cX3_wet 22 = .ok (.aload_n 0, 1) := by decide +kernel
theorem dX3_wet_23 : decode cX3_wet 23 = .ok (.dup, 1) := by decide +kernel
theorem dX3_wet_24 : decode cX3_wet 24 = .ok (.getfield 15, 3) := by decide +kernel
theorem dX3_wet_27 : decode cX3_wet 27 = .ok (.iload_n 2, 1) := by decide +kernel
theorem dX3_wet_28 : decode cX3_wet 28 = .ok (.iadd, 1) := by decide +kernel
theorem dX3_wet_29 : decode cX3_wet 29 = .ok (.putfield 15, 3) := by decide +kernel
theorem dX3_wet_32 : decode cX3_wet 32 = .ok (.return_, 1) := by decide +kernel
theorem dX3_wet_4 : decode cX3_wet 4 = .ok (.aload_n 0, 1) := by decide +kernel
theorem dX3_wet_5 : decode cX3_wet 5 = .ok (.getfield 18, 3) := by decide +kernel
theorem dX3_wet_8 : decode cX3_wet 8 = .ok (.bipush 24, 2) := by decide +kernel
theorem dX3_wet_10 : decode cX3_wet 10 = .ok (.iload_n 1, 1) := by decide +kernel
theorem dX3_wet_11 : decode cX3_wet 11 = .ok (.iadd, 1) := by decide +kernel
theorem dX3_wet_12 : decode cX3_wet 12 = .ok (.iconst 1, 1) := by decide +kernel
theorem dX3_wet_13 : decode cX3_wet 13 = .ok (.isub, 1) := by decide +kernel
theorem dX3_wet_14 : decode cX3_wet 14 = .ok (.dup2, 1) := by decide +kernel
theorem dX3_wet_15 : decode cX3_wet 15 = .ok (.iaload, 1) := by decide +kernel
theorem dX3_wet_16 : decode cX3_wet 16 = .ok (.iload_n 2, 1) := by decide +kernel
theorem dX3_wet_17 : decode cX3_wet 17 = .ok (.iadd, 1) := by decide +kernel
theorem dX3_wet_18 : decode cX3_wet 18 = .ok (.iastore, 1) := by decide +kernel
theorem dX3_wet_19 : decode cX3_wet 19 = .ok (.goto 13, 3) := by decide +kernel
theorem dX3_add_0 : decode cX3_add 0 = .ok (.aload_n 0, 1) := by decide +kernel
theorem dX3_add_1 : decode cX3_add 1 = .ok (.getfield 9, 3) := by decide +kernel
theorem dX3_add_4 : decode cX3_add 4 = .ok (.bipush 12, 2) := by decide +kernel
theorem dX3_add_6 : decode cX3_add 6 = .ok (.if_icmp .ge 106, 3) := by decide +kernel
theorem dX3_add_112 : decode cX3_add 112 = .ok (.return_, 1) := by decide +kernel
theorem dX3_add_9 : decode cX3_add 9 = .ok (.aload_n 0, 1) := by decide +kernel
theorem dX3_add_10 : decode cX3_add 10 = .ok (.getfield 18, 3) := by decide +kernel
theorem dX3_add_13 : decode cX3_add 13 = .ok (.iconst 0, 1) := by decide +kernel
theorem dX3_add_14 : decode cX3_add 14 = .ok (.aload_n 0, 1) := by decide +kernel
theorem dX3_add_15 : decode cX3_add 15 = .ok (.getfield 9, 3) := by decide +kernel
theorem dX3_add_18 : decode cX3_add 18 = .ok (.iadd, 1) := by decide +kernel
theorem dX3_add_19 : decode cX3_add 19 = .ok (.iload_n 1, 1) := by decide +kernel
theorem dX3_add_20 : decode cX3_add 20 = .ok (.iastore, 1) := by decide +kernel
theorem dX3_add_21 : decode cX3_add 21 = .ok (.aload_n 0, 1) := by decide +kernel
theorem dX3_add_22 : decode cX3_add 22 = .ok (.getfield 18, 3) := by decide +kernel
theorem dX3_add_25 : decode cX3_add 25 = .ok (.bipush 12, 2) := by decide +kernel
theorem dX3_add_27 : decode cX3_add 27 = .ok (.aload_n 0, 1) := by decide +kernel
theorem dX3_add_28 : decode cX3_add 28 = .ok (.getfield 9, 3) := by decide +kernel
theorem dX3_add_31 : decode cX3_add 31 = .ok (.iadd, 1) := by decide +kernel
theorem dX3_add_32 : decode cX3_add 32 = .ok (.iload_n 2, 1) := by decide +kernel
theorem dX3_add_33 : decode cX3_add 33 = .ok (.iastore, 1) := by decide +kernel
theorem dX3_add_34 : decode cX3_add 34 = .ok (.aload_n 0, 1) := by decide +kernel
theorem dX3_add_35 : decode cX3_add 35 = .ok (.getfield 18, 3) := by decide +kernel
theorem dX3_add_38 : decode cX3_add 38 = .ok (.bipush 24, 2) := by decide +kernel
theorem dX3_add_40 : decode cX3_add 40 = .ok (.aload_n 0, 1) := by decide +kernel
theorem dX3_add_41 : decode cX3_add 41 = .ok (.getfield 9, 3) := by decide +kernel
theorem dX3_add_44 : decode cX3_add 44 = .ok (.iadd, 1) := by decide +kernel
theorem dX3_add_45 : decode cX3_add 45 = .ok (.iload_n 3, 1) := by decide +kernel
theorem dX3_add_46 : decode cX3_add 46 = .ok (.iastore, 1) := by decide +kernel
theorem dX3_add_47 : decode cX3_add 47 = .ok (.aload_n 0, 1) := by decide +kernel
theorem dX3_add_48 : decode cX3_add 48 = .ok (.getfield 18, 3) := by decide +kernel
theorem dX3_add_51 : decode cX3_add 51 = .ok (.bipush 36, 2) := by decide +kernel
theorem dX3_add_53 : decode cX3_add 53 = .ok (.aload_n 0, 1) := by decide +kernel
theorem dX3_add_54 : decode cX3_add 54 = .ok (.getfield 9, 3) := by decide +kernel
theorem dX3_add_57 : decode cX3_add 57 = .ok (.iadd, 1) := by decide +kernel
theorem dX3_add_58 : decode cX3_add 58 = .ok (.iload 4, 2) := by decide +kernel
theorem dX3_add_60 : decode cX3_add 60 = .ok (.iastore, 1) := by decide +kernel
theorem dX3_add_61 : decode cX3_add 61 = .ok (.aload_n 0, 1) := by decide +kernel
theorem dX3_add_62 : decode cX3_add 62 = .ok (.getfield 18, 3) := by decide +kernel
theorem dX3_add_65 : decode cX3_add 65 = .ok (.bipush 48, 2) := by decide +kernel
theorem dX3_add_67 : decode cX3_add 67 = .ok (.aload_n 0, 1) := by decide +kernel
theorem dX3_add_68 : decode cX3_add 68 = .ok (.getfield 9, 3) := by decide +kernel
theorem dX3_add_71 : decode cX3_add 71 = .ok (.iadd, 1) := by decide +kernel
theorem dX3_add_72 : decode cX3_add 72 = .ok (.iload 5, 2) := by decide +kernel
theorem dX3_add_74 : decode cX3_add 74 = .ok (.iastore, 1) := by decide +kernel
theorem dX3_add_75 : decode cX3_add 75 = .ok (.aload_n 0, 1) := by decide +kernel
theorem dX3_add_76 : decode cX3_add 76 = .ok (.getfield 18, 3) := by decide +kernel
theorem dX3_add_79 : decode cX3_add 79 = .ok (.bipush 60, 2) := by decide +kernel
theorem dX3_add_81 : decode cX3_add 81 = .ok (.aload_n 0, 1) := by decide +kernel
theorem dX3_add_82 : decode cX3_add 82 = .ok (.getfield 9, 3) := by decide +kernel
theorem dX3_add_85 : decode cX3_add 85 = .ok (.iadd, 1) := by decide +kernel
theorem dX3_add_86 : decode cX3_add 86 = .ok (.iconst 0, 1) := by decide +kernel
theorem dX3_add_87 : decode cX3_add 87 = .ok (.iastore, 1) := by decide +kernel
theorem dX3_add_88 : decode cX3_add 88 = .ok (.aload_n 0, 1) := by decide +kernel
theorem dX3_add_89 : decode cX3_add 89 = .ok (.getfield 18, 3) := by decide +kernel
theorem dX3_add_92 : decode cX3_add 92 = .ok (.bipush 72, 2) := by decide +kernel
theorem dX3_add_94 : decode cX3_add 94 = .ok (.aload_n 0, 1) := by decide +kernel
theorem dX3_add_95 : decode cX3_add 95 = .ok (.getfield 9, 3) := by decide +kernel
theorem dX3_add_98 : decode cX3_add 98 = .ok (.iadd, 1) := by decide +kernel
theorem dX3_add_99 : decode cX3_add 99 = .ok (.iload 6, 2) := by decide +kernel
theorem dX3_add_101 : decode cX3_add 101 = .ok (.iastore, 1) := by decide +kernel
theorem dX3_add_102 : decode cX3_add 102 = .ok (.aload_n 0, 1) := by decide +kernel
theorem dX3_add_103 : decode cX3_add 103 = .ok (.dup, 1) := by decide +kernel
theorem dX3_add_104 : decode cX3_add 104 = .ok (.getfield 9, 3) := by decide +kernel
theorem dX3_add_107 : decode cX3_add 107 = .ok (.iconst 1, 1) := by decide +kernel
theorem dX3_add_108 : decode cX3_add 108 = .ok (.iadd, 1) := by decide +kernel
theorem dX3_add_109 : decode cX3_add 109 = .ok (.putfield 9, 3) := by decide +kernel
theorem dX3_cool_0 : decode cX3_cool 0 = .ok (.aload_n 0, 1) := by decide +kernel
theorem dX3_cool_1 : decode cX3_cool 1 = .ok (.getfield 9, 3) := by decide +kernel
theorem dX3_cool_4 : decode cX3_cool 4 = .ok (.ifCond .le 32, 3) := by decide +kernel
theorem dX3_cool_36 : decode cX3_cool 36 = .ok (.return_, 1) := by decide +kernel
theorem dX3_cool_7 : decode cX3_cool 7 = .ok (.bipush 48, 2) := by decide +kernel
theorem dX3_cool_9 : decode cX3_cool 9 = .ok (.aload_n 0, 1) := by decide +kernel
theorem dX3_cool_10 : decode cX3_cool 10 = .ok (.getfield 9, 3) := by decide +kernel
theorem dX3_cool_13 : decode cX3_cool 13 = .ok (.iadd, 1) := by decide +kernel
theorem dX3_cool_14 : decode cX3_cool 14 = .ok (.iconst 1, 1) := by decide +kernel
theorem dX3_cool_15 : decode cX3_cool 15 = .ok (.isub, 1) := by decide +kernel
theorem dX3_cool_16 : decode cX3_cool 16 = .ok (.istore_n 2, 1) := by decide +kernel
theorem dX3_cool_17 : decode cX3_cool 17 = .ok (.aload_n 0, 1) := by decide +kernel
theorem dX3_cool_18 : decode cX3_cool 18 = .ok (.getfield 18, 3) := by decide +kernel
theorem dX3_cool_21 : decode cX3_cool 21 = .ok (.iload_n 2, 1) := by decide +kernel
theorem dX3_cool_22 : decode cX3_cool 22 = .ok (.dup2, 1) := by decide +kernel
theorem dX3_cool_23 : decode cX3_cool 23 = .ok (.iaload, 1) := by decide +kernel
theorem dX3_cool_24 : decode cX3_cool 24 = .ok (.iload_n 1, 1) := by decide +kernel
theorem dX3_cool_25 : decode cX3_cool 25 = .ok (.aload_n 0, 1) := by decide +kernel
theorem dX3_cool_26 : decode cX3_cool 26 = .ok (.getfield 18, 3) := by decide +kernel
theorem dX3_cool_29 : decode cX3_cool 29 = .ok (.iload_n 2, 1) := by decide +kernel
theorem dX3_cool_30 : decode cX3_cool 30 = .ok (.iaload, 1) := by decide +kernel
theorem dX3_cool_31 : decode cX3_cool 31 = .ok (.isub, 1) := by decide +kernel
theorem dX3_cool_32 : decode cX3_cool 32 = .ok (.iconst 4, 1) := by decide +kernel
theorem dX3_cool_33 : decode cX3_cool 33 = .ok (.idiv, 1) := by decide +kernel
theorem dX3_cool_34 : decode cX3_cool 34 = .ok (.iadd, 1) := by decide +kernel
theorem dX3_cool_35 : decode cX3_cool 35 = .ok (.iastore, 1) := by decide +kernel
theorem dX3_clear_0 : decode cX3_clear 0 = .ok (.aload_n 0, 1) := by decide +kernel
theorem dX3_clear_1 : decode cX3_clear 1 = .ok (.iconst 0, 1) := by decide +kernel
theorem dX3_clear_2 : decode cX3_clear 2 = .ok (.putfield 9, 3) := by decide +kernel
theorem dX3_clear_5 : decode cX3_clear 5 = .ok (.aload_n 0, 1) := by decide +kernel
theorem dX3_clear_6 : decode cX3_clear 6 = .ok (.iconst 0, 1) := by decide +kernel
theorem dX3_clear_7 : decode cX3_clear 7 = .ok (.putfield 15, 3) := by decide +kernel
theorem dX3_clear_10 : decode cX3_clear 10 = .ok (.return_, 1) := by decide +kernel
theorem dX3_freeze_0 : decode cX3_freeze 0 = .ok (.aload_n 0, 1) := by decide +kernel
theorem dX3_freeze_1 : decode cX3_freeze 1 = .ok (.getfield 18, 3) := by decide +kernel
theorem dX3_freeze_4 : decode cX3_freeze 4 = .ok (.bipush 12, 2) := by decide +kernel
theorem dX3_freeze_6 : decode cX3_freeze 6 = .ok (.iload_n 1, 1) := by decide +kernel
theorem dX3_freeze_7 : decode cX3_freeze 7 = .ok (.iadd, 1) := by decide +kernel
theorem dX3_freeze_8 : decode cX3_freeze 8 = .ok (.iaload, 1) := by decide +kernel
theorem dX3_freeze_9 : decode cX3_freeze 9 = .ok (.istore_n 2, 1) := by decide +kernel
theorem dX3_freeze_10 : decode cX3_freeze 10 = .ok (.aload_n 0, 1) := by decide +kernel
theorem dX3_freeze_11 : decode cX3_freeze 11 = .ok (.getfield 18, 3) := by decide +kernel
theorem dX3_freeze_14 : decode cX3_freeze 14 = .ok (.bipush 48, 2) := by decide +kernel
theorem dX3_freeze_16 : decode cX3_freeze 16 = .ok (.iload_n 1, 1) := by decide +kernel
theorem dX3_freeze_17 : decode cX3_freeze 17 = .ok (.iadd, 1) := by decide +kernel
theorem dX3_freeze_18 : decode cX3_freeze 18 = .ok (.iaload, 1) := by decide +kernel
theorem dX3_freeze_19 : decode cX3_freeze 19 = .ok (.ineg, 1) := by decide +kernel
theorem dX3_freeze_20 : decode cX3_freeze 20 = .ok (.istore_n 3, 1) := by decide +kernel
theorem dX3_freeze_21 : decode cX3_freeze 21 = .ok (.iload_n 2, 1) := by decide +kernel
theorem dX3_freeze_22 : decode cX3_freeze 22 = .ok (.i2l, 1) := by decide +kernel
theorem dX3_freeze_23 : decode cX3_freeze 23 = .ok (.iload_n 3, 1) := by decide +kernel
theorem dX3_freeze_24 : decode cX3_freeze 24 = .ok (.i2l, 1) := by decide +kernel
theorem dX3_freeze_25 : decode cX3_freeze 25 = .ok (.lmul, 1) := by decide +kernel
theorem dX3_freeze_26 : decode cX3_freeze 26 = .ok (.ldc2_w 62, 3) := by decide +kernel
theorem dX3_freeze_29 : decode cX3_freeze 29 = .ok (.invokestatic 36, 3) := by decide +kernel
theorem dX3_freeze_32 : decode cX3_freeze 32 = .ok (.aload_n 0, 1) := by decide +kernel
theorem dX3_freeze_33 : decode cX3_freeze 33 = .ok (.getfield 18, 3) := by decide +kernel
theorem dX3_freeze_36 : decode cX3_freeze 36 = .ok (.bipush 24, 2) := by decide +kernel
theorem dX3_freeze_38 : decode cX3_freeze 38 = .ok (.iload_n 1, 1) := by decide +kernel
theorem dX3_freeze_39 : decode cX3_freeze 39 = .ok (.iadd, 1) := by decide +kernel
theorem dX3_freeze_40 : decode cX3_freeze 40 = .ok (.iaload, 1) := by decide +kernel
theorem dX3_freeze_41 : decode cX3_freeze 41 = .ok (.invokestatic 46, 3) := by decide +kernel
theorem dX3_freeze_44 : decode cX3_freeze 44 = .ok (.istore 4, 2) := by decide +kernel
theorem dX3_freeze_46 : decode cX3_freeze 46 = .ok (.aload_n 0, 1) := by decide +kernel
theorem dX3_freeze_47 : decode cX3_freeze 47 = .ok (.getfield 18, 3) := by decide +kernel
theorem dX3_freeze_50 : decode cX3_freeze 50 = .ok (.bipush 12, 2) := by decide +kernel
theorem dX3_freeze_52 : decode cX3_freeze 52 = .ok (.iload_n 1, 1) := by decide +kernel
theorem dX3_freeze_53 : decode cX3_freeze 53 = .ok (.iadd, 1) := by decide +kernel
theorem dX3_freeze_54 : decode cX3_freeze 54 = .ok (.dup2, 1) := by decide +kernel
theorem dX3_freeze_55 : decode cX3_freeze 55 = .ok (.iaload, 1) := by decide +kernel
theorem dX3_freeze_56 : decode cX3_freeze 56 = .ok (.iload 4, 2) := by decide +kernel
theorem dX3_freeze_58 : decode cX3_freeze 58 = .ok (.iadd, 1) := by decide +kernel
theorem dX3_freeze_59 : decode cX3_freeze 59 = .ok (.iastore, 1) := by decide +kernel
theorem dX3_freeze_60 : decode cX3_freeze 60 = .ok (.aload_n 0, 1) := by decide +kernel
theorem dX3_freeze_61 : decode cX3_freeze 61 = .ok (.getfield 18, 3) := by decide +kernel
theorem dX3_freeze_64 : decode cX3_freeze 64 = .ok (.bipush 24, 2) := by decide +kernel
theorem dX3_freeze_66 : decode cX3_freeze 66 = .ok (.iload_n 1, 1) := by decide +kernel
theorem dX3_freeze_67 : decode cX3_freeze 67 = .ok (.iadd, 1) := by decide +kernel
theorem dX3_freeze_68 : decode cX3_freeze 68 = .ok (.dup2, 1) := by decide +kernel
theorem dX3_freeze_69 : decode cX3_freeze 69 = .ok (.iaload, 1) := by decide +kernel
theorem dX3_freeze_70 : decode cX3_freeze 70 = .ok (.iload 4, 2) := by decide +kernel
theorem dX3_freeze_72 : decode cX3_freeze 72 = .ok (.isub, 1) := by decide +kernel
theorem dX3_freeze_73 : decode cX3_freeze 73 = .ok (.iastore, 1) := by decide +kernel
theorem dX3_freeze_74 : decode cX3_freeze 74 = .ok (.aload_n 0, 1) := by decide +kernel
theorem dX3_freeze_75 : decode cX3_freeze 75 = .ok (.getfield 18, 3) := by decide +kernel
theorem dX3_freeze_78 : decode cX3_freeze 78 = .ok (.bipush 24, 2) := by decide +kernel
theorem dX3_freeze_80 : decode cX3_freeze 80 = .ok (.iload_n 1, 1) := by decide +kernel
theorem dX3_freeze_81 : decode cX3_freeze 81 = .ok (.iadd, 1) := by decide +kernel
theorem dX3_freeze_82 : decode cX3_freeze 82 = .ok (.iaload, 1) := by decide +kernel
theorem dX3_freeze_83 : decode cX3_freeze 83 = .ok (.ifCond .le 16, 3) := by decide +kernel
theorem dX3_freeze_99 : decode cX3_freeze 99 = .ok (.aload_n 0, 1) := by decide +kernel
theorem dX3_freeze_100 : decode cX3_freeze 100 = .ok (.getfield 18, 3) := by decide +kernel
theorem dX3_freeze_103 : decode cX3_freeze 103 = .ok (.bipush 48, 2) := by decide +kernel
theorem dX3_freeze_105 : decode cX3_freeze 105 = .ok (.iload_n 1, 1) := by decide +kernel
theorem dX3_freeze_106 : decode cX3_freeze 106 = .ok (.iadd, 1) := by decide +kernel
theorem dX3_freeze_107 : decode cX3_freeze 107 = .ok (.ldc2_w 62, 3) := by decide +kernel
theorem dX3_freeze_110 : decode cX3_freeze 110 = .ok (.iload 4, 2) := by decide +kernel
theorem dX3_freeze_112 : decode cX3_freeze 112 = .ok (.i2l, 1) := by decide +kernel
theorem dX3_freeze_113 : decode cX3_freeze 113 = .ok (.lmul, 1) := by decide +kernel
theorem dX3_freeze_114 : decode cX3_freeze 114 = .ok (.iload_n 2, 1) := by decide +kernel
theorem dX3_freeze_115 : decode cX3_freeze 115 = .ok (.i2l, 1) := by decide +kernel
theorem dX3_freeze_116 : decode cX3_freeze 116 = .ok (.invokestatic 36, 3) := by decide +kernel
theorem dX3_freeze_119 : decode cX3_freeze 119 = .ok (.iload_n 3, 1) := by decide +kernel
theorem dX3_freeze_120 : decode cX3_freeze 120 = .ok (.isub, 1) := by decide +kernel
theorem dX3_freeze_121 : decode cX3_freeze 121 = .ok (.iconst 0, 1) := by decide +kernel
theorem dX3_freeze_122 : decode cX3_freeze 122 = .ok (.invokestatic 46, 3) := by decide +kernel
theorem dX3_freeze_125 : decode cX3_freeze 125 = .ok (.iastore, 1) := by decide +kernel
theorem dX3_freeze_126 : decode cX3_freeze 126 = .ok (.iload 4, 2) := by decide +kernel
theorem dX3_freeze_128 : decode cX3_freeze 128 = .ok (.ifCond .le 12, 3) := by decide +kernel
theorem dX3_freeze_140 : decode cX3_freeze 140 = .ok (.return_, 1) := by decide +kernel
theorem dX3_freeze_131 : decode cX3_freeze 131 = .ok (.aload_n 0, 1) := by decide +kernel
theorem dX3_freeze_132 : decode cX3_freeze 132 = .ok (.getfield 18, 3) := by decide +kernel
theorem dX3_freeze_135 : decode cX3_freeze 135 = .ok (.iconst 0, 1) := by decide +kernel
theorem dX3_freeze_136 : decode cX3_freeze 136 = .ok (.iload_n 1, 1) := by decide +kernel
theorem dX3_freeze_137 : decode cX3_freeze 137 = .ok (.iadd, 1) := by decide +kernel
theorem dX3_freeze_138 : decode cX3_freeze 138 = .ok (.iconst 3, 1) := by decide +kernel
theorem dX3_freeze_139 : decode cX3_freeze 139 = .ok (.iastore, 1) := by decide +kernel
theorem dX3_freeze_86 : decode cX3_freeze 86 = .ok (.aload_n 0, 1) := by decide +kernel
theorem dX3_freeze_87 : decode cX3_freeze 87 = .ok (.getfield 18, 3) := by decide +kernel
theorem dX3_freeze_90 : decode cX3_freeze 90 = .ok (.bipush 48, 2) := by decide +kernel
theorem dX3_freeze_92 : decode cX3_freeze 92 = .ok (.iload_n 1, 1) := by decide +kernel
theorem dX3_freeze_93 : decode cX3_freeze 93 = .ok (.iadd, 1) := by decide +kernel
theorem dX3_freeze_94 : decode cX3_freeze 94 = .ok (.iconst 0, 1) := by decide +kernel
theorem dX3_freeze_95 : decode cX3_freeze 95 = .ok (.iastore, 1) := by decide +kernel
theorem dX3_freeze_96 : decode cX3_freeze 96 = .ok (.goto 30, 3) := by decide +kernel
theorem dX3_nextKind_0 : decode cX3_nextKind 0 = .ok (.aload_n 0, 1) := by decide +kernel
theorem dX3_nextKind_1 : decode cX3_nextKind 1 = .ok (.getfield 18, 3) := by decide +kernel
theorem dX3_nextKind_4 : decode cX3_nextKind 4 = .ok (.iconst 0, 1) := by decide +kernel
theorem dX3_nextKind_5 : decode cX3_nextKind 5 = .ok (.iload_n 1, 1) := by decide +kernel
theorem dX3_nextKind_6 : decode cX3_nextKind 6 = .ok (.iadd, 1) := by decide +kernel
theorem dX3_nextKind_7 : decode cX3_nextKind 7 = .ok (.iaload, 1) := by decide +kernel
theorem dX3_nextKind_8 : decode cX3_nextKind 8 = .ok (.istore_n 3, 1) := by decide +kernel
theorem dX3_nextKind_9 : decode cX3_nextKind 9 = .ok (.iload_n 3, 1) := by decide +kernel
theorem dX3_nextKind_10 : decode cX3_nextKind 10 = .ok (.ifCond .eq 8, 3) := by decide +kernel
theorem dX3_nextKind_18 : decode cX3_nextKind 18 = .ok (.iconst 1, 1) := by decide +kernel
theorem dX3_nextKind_19 : decode cX3_nextKind 19 = .ok (.goto 4, 3) := by decide +kernel
theorem dX3_nextKind_23 : decode cX3_nextKind 23 = .ok (.istore 4, 2) := by decide +kernel
theorem dX3_nextKind_25 : decode cX3_nextKind 25 = .ok (.aload_n 0, 1) := by decide +kernel
theorem dX3_nextKind_26 : decode cX3_nextKind 26 = .ok (.getfield 18, 3) := by decide +kernel
theorem dX3_nextKind_29 : decode cX3_nextKind 29 = .ok (.bipush 24, 2) := by decide +kernel
theorem dX3_nextKind_31 : decode cX3_nextKind 31 = .ok (.iload_n 1, 1) := by decide +kernel
theorem dX3_nextKind_32 : decode cX3_nextKind 32 = .ok (.iadd, 1) := by decide +kernel
theorem dX3_nextKind_33 : decode cX3_nextKind 33 = .ok (.iaload, 1) := by decide +kernel
theorem dX3_nextKind_34 : decode cX3_nextKind 34 = .ok (.ifCond .le 19, 3) := by decide +kernel
theorem dX3_nextKind_53 : decode cX3_nextKind 53 = .ok (.iload_n 2, 1) := by decide +kernel
theorem dX3_nextKind_54 : decode cX3_nextKind 54 = .ok (.bipush 20, 2) := by decide +kernel
theorem dX3_nextKind_56 : decode cX3_nextKind 56 = .ok (.if_icmp .lt 18, 3) := by decide +kernel
theorem dX3_nextKind_74 : decode cX3_nextKind 74 = .ok (.iload 4, 2) := by decide +kernel
theorem dX3_nextKind_76 : decode cX3_nextKind 76 = .ok (.ifCond .eq 21, 3) := by decide +kernel
theorem dX3_nextKind_79 : decode cX3_nextKind 79 = .ok (.aload_n 0, 1) := by decide +kernel
theorem dX3_nextKind_80 : decode cX3_nextKind 80 = .ok (.getfield 18, 3) := by decide +kernel
theorem dX3_nextKind_83 : decode cX3_nextKind 83 = .ok (.bipush 60, 2) := by decide +kernel
theorem dX3_nextKind_85 : decode cX3_nextKind 85 = .ok (.iload_n 1, 1) := by decide +kernel
theorem dX3_nextKind_86 : decode cX3_nextKind 86 = .ok (.iadd, 1) := by decide +kernel
theorem dX3_nextKind_87 : decode cX3_nextKind 87 = .ok (.iaload, 1) := by decide +kernel
theorem dX3_nextKind_88 : decode cX3_nextKind 88 = .ok (.bipush 24, 2) := by decide +kernel
theorem dX3_nextKind_90 : decode cX3_nextKind 90 = .ok (.if_icmp .lt 7, 3) := by decide +kernel
theorem dX3_nextKind_97 : decode cX3_nextKind 97 = .ok (.iload_n 3, 1) := by decide +kernel
theorem dX3_nextKind_98 : decode cX3_nextKind 98 = .ok (.ireturn, 1) := by decide +kernel
theorem dX3_nextKind_93 : decode cX3_nextKind 93 = .ok (.iconst 1, 1) := by decide +kernel
theorem dX3_nextKind_94 : decode cX3_nextKind 94 = .ok (.goto 4, 3) := by decide +kernel
theorem dX3_nextKind_59 : decode cX3_nextKind 59 = .ok (.iload_n 3, 1) := by decide +kernel
theorem dX3_nextKind_60 : decode cX3_nextKind 60 = .ok (.ifCond .eq 8, 3) := by decide +kernel
theorem dX3_nextKind_68 : decode cX3_nextKind 68 = .ok (.iconst 2, 1) := by decide +kernel
theorem dX3_nextKind_69 : decode cX3_nextKind 69 = .ok (.goto 4, 3) := by decide +kernel
theorem dX3_nextKind_73 : decode cX3_nextKind 73 = .ok (.ireturn, 1) := by decide +kernel
theorem dX3_nextKind_63 : decode cX3_nextKind 63 = .ok (.iload_n 3, 1) := by decide +kernel
theorem dX3_nextKind_64 : decode cX3_nextKind 64 = .ok (.iconst 1, 1) := by decide +kernel
theorem dX3_nextKind_65 : decode cX3_nextKind 65 = .ok (.if_icmp .ne 7, 3) := by decide +kernel
theorem dX3_nextKind_72 : decode cX3_nextKind 72 = .ok (.iload_n 3, 1) := by decide +kernel
theorem dX3_nextKind_37 : decode cX3_nextKind 37 = .ok (.iload 4, 2) := by decide +kernel
theorem dX3_nextKind_39 : decode cX3_nextKind 39 = .ok (.ifCond .ne 8, 3) := by decide +kernel
theorem dX3_nextKind_47 : decode cX3_nextKind 47 = .ok (.iconst 1, 1) := by decide +kernel
theorem dX3_nextKind_48 : decode cX3_nextKind 48 = .ok (.goto 4, 3) := by decide +kernel
theorem dX3_nextKind_52 : decode cX3_nextKind 52 = .ok (.ireturn, 1) := by decide +kernel
theorem dX3_nextKind_13 : decode cX3_nextKind 13 = .ok (.iload_n 3, 1) := by decide +kernel
theorem dX3_nextKind_14 : decode cX3_nextKind 14 = .ok (.iconst 2, 1) := by decide +kernel
theorem dX3_nextKind_15 : decode cX3_nextKind 15 = .ok (.if_icmp .ne 7, 3) := by decide +kernel
theorem dX3_nextKind_22 : decode cX3_nextKind 22 = .ok (.iconst 0, 1) := by decide +kernel
theorem dX3_nextKind_42 : decode cX3_nextKind 42 = .ok (.iload_n 3, 1) := by decide +kernel
theorem dX3_nextKind_43 : decode cX3_nextKind 43 = .ok (.iconst 4, 1) := by decide +kernel
theorem dX3_nextKind_44 : decode cX3_nextKind 44 = .ok (.if_icmp .ne 7, 3) := by decide +kernel
theorem dX3_nextKind_51 : decode cX3_nextKind 51 = .ok (.iload_n 3, 1) := by decide +kernel
theorem dX3_melt_9 : decode cX3_melt 9 = .ok (.iload_n 3, 1) := by decide +kernel
theorem dX3_melt_10 : decode cX3_melt 10 = .ok (.ifCond .lt 163, 3) := by decide +kernel
theorem dX3_melt_173 : decode cX3_melt 173 = .ok (.return_, 1) := by decide +kernel
theorem dX3_melt_13 : decode cX3_melt 13 = .ok (.iload_n 2, 1) := by decide +kernel
theorem dX3_melt_14 : decode cX3_melt 14 = .ok (.ifCond .le 159, 3) := by decide +kernel
theorem dX3_melt_17 : decode cX3_melt 17 = .ok (.aload_n 0, 1) := by decide +kernel
theorem dX3_melt_18 : decode cX3_melt 18 = .ok (.getfield 18, 3) := by decide +kernel
theorem dX3_melt_21 : decode cX3_melt 21 = .ok (.bipush 12, 2) := by decide +kernel
theorem dX3_melt_23 : decode cX3_melt 23 = .ok (.iload_n 3, 1) := by decide +kernel
theorem dX3_melt_24 : decode cX3_melt 24 = .ok (.iadd, 1) := by decide +kernel
theorem dX3_melt_25 : decode cX3_melt 25 = .ok (.iaload, 1) := by decide +kernel
theorem dX3_melt_26 : decode cX3_melt 26 = .ok (.istore 4, 2) := by decide +kernel
theorem dX3_melt_28 : decode cX3_melt 28 = .ok (.iload_n 2, 1) := by decide +kernel
theorem dX3_melt_29 : decode cX3_melt 29 = .ok (.i2l, 1) := by decide +kernel
theorem dX3_melt_30 : decode cX3_melt 30 = .ok (.iload 4, 2) := by decide +kernel
theorem dX3_melt_32 : decode cX3_melt 32 = .ok (.i2l, 1) := by decide +kernel
theorem dX3_melt_33 : decode cX3_melt 33 = .ok (.invokestatic 36, 3) := by decide +kernel
theorem dX3_melt_36 : decode cX3_melt 36 = .ok (.aload_n 0, 1) := by decide +kernel
theorem dX3_melt_37 : decode cX3_melt 37 = .ok (.getfield 18, 3) := by decide +kernel
theorem dX3_melt_40 : decode cX3_melt 40 = .ok (.bipush 48, 2) := by decide +kernel
theorem dX3_melt_42 : decode cX3_melt 42 = .ok (.iload_n 3, 1) := by decide +kernel
theorem dX3_melt_43 : decode cX3_melt 43 = .ok (.iadd, 1) := by decide +kernel
theorem dX3_melt_44 : decode cX3_melt 44 = .ok (.iaload, 1) := by decide +kernel
theorem dX3_melt_45 : decode cX3_melt 45 = .ok (.ineg, 1) := by decide +kernel
theorem dX3_melt_46 : decode cX3_melt 46 = .ok (.invokestatic 46, 3) := by decide +kernel
theorem dX3_melt_49 : decode cX3_melt 49 = .ok (.istore 5, 2) := by decide +kernel
theorem dX3_melt_51 : decode cX3_melt 51 = .ok (.aload_n 0, 1) := by decide +kernel
theorem dX3_melt_52 : decode cX3_melt 52 = .ok (.getfield 18, 3) := by decide +kernel
theorem dX3_melt_55 : decode cX3_melt 55 = .ok (.bipush 48, 2) := by decide +kernel
theorem dX3_melt_57 : decode cX3_melt 57 = .ok (.iload_n 3, 1) := by decide +kernel
theorem dX3_melt_58 : decode cX3_melt 58 = .ok (.iadd, 1) := by decide +kernel
theorem dX3_melt_59 : decode cX3_melt 59 = .ok (.dup2, 1) := by decide +kernel
theorem dX3_melt_60 : decode cX3_melt 60 = .ok (.iaload, 1) := by decide +kernel
theorem dX3_melt_61 : decode cX3_melt 61 = .ok (.iload 5, 2) := by decide +kernel
theorem dX3_melt_63 : decode cX3_melt 63 = .ok (.iadd, 1) := by decide +kernel
theorem dX3_melt_64 : decode cX3_melt 64 = .ok (.iastore, 1) := by decide +kernel
theorem dX3_melt_65 : decode cX3_melt 65 = .ok (.iload_n 2, 1) := by decide +kernel
theorem dX3_melt_66 : decode cX3_melt 66 = .ok (.iload 5, 2) := by decide +kernel
theorem dX3_melt_68 : decode cX3_melt 68 = .ok (.iload 4, 2) := by decide +kernel
theorem dX3_melt_70 : decode cX3_melt 70 = .ok (.imul, 1) := by decide +kernel
theorem dX3_melt_71 : decode cX3_melt 71 = .ok (.isub, 1) := by decide +kernel
theorem dX3_melt_72 : decode cX3_melt 72 = .ok (.istore_n 2, 1) := by decide +kernel
theorem dX3_melt_73 : decode cX3_melt 73 = .ok (.aload_n 0, 1) := by decide +kernel
theorem dX3_melt_74 : decode cX3_melt 74 = .ok (.getfield 18, 3) := by decide +kernel
theorem dX3_melt_77 : decode cX3_melt 77 = .ok (.bipush 48, 2) := by decide +kernel
theorem dX3_melt_79 : decode cX3_melt 79 = .ok (.iload_n 3, 1) := by decide +kernel
theorem dX3_melt_80 : decode cX3_melt 80 = .ok (.iadd, 1) := by decide +kernel
theorem dX3_melt_81 : decode cX3_melt 81 = .ok (.iaload, 1) := by decide +kernel
theorem dX3_melt_82 : decode cX3_melt 82 = .ok (.ifCond .ne 50, 3) := by decide +kernel
theorem dX3_melt_132 : decode cX3_melt 132 = .ok (.aload_n 0, 1) := by decide +kernel
theorem dX3_melt_133 : decode cX3_melt 133 = .ok (.getfield 18, 3) := by decide +kernel
theorem dX3_melt_136 : decode cX3_melt 136 = .ok (.bipush 12, 2) := by decide +kernel
theorem dX3_melt_138 : decode cX3_melt 138 = .ok (.iload_n 3, 1) := by decide +kernel
theorem dX3_melt_139 : decode cX3_melt 139 = .ok (.iadd, 1) := by decide +kernel
theorem dX3_melt_140 : decode cX3_melt 140 = .ok (.iaload, 1) := by decide +kernel
theorem dX3_melt_141 : decode cX3_melt 141 = .ok (.ifCond .le 4, 3) := by decide +kernel
theorem dX3_melt_145 : decode cX3_melt 145 = .ok (.aload_n 0, 1) := by decide +kernel
theorem dX3_melt_146 : decode cX3_melt 146 = .ok (.iload_n 3, 1) := by decide +kernel
theorem dX3_melt_147 : decode cX3_melt 147 = .ok (.putfield 9, 3) := by decide +kernel
theorem dX3_melt_150 : decode cX3_melt 150 = .ok (.aload_n 0, 1) := by decide +kernel
theorem dX3_melt_151 : decode cX3_melt 151 = .ok (.aload_n 0, 1) := by decide +kernel
theorem dX3_melt_152 : decode cX3_melt 152 = .ok (.getfield 9, 3) := by decide +kernel
theorem dX3_melt_155 : decode cX3_melt 155 = .ok (.aload_n 0, 1) := by decide +kernel
theorem dX3_melt_156 : decode cX3_melt 156 = .ok (.getfield 18, 3) := by decide +kernel
theorem dX3_melt_159 : decode cX3_melt 159 = .ok (.bipush 24, 2) := by decide +kernel
theorem dX3_melt_161 : decode cX3_melt 161 = .ok (.iload_n 3, 1) := by decide +kernel
theorem dX3_melt_162 : decode cX3_melt 162 = .ok (.iadd, 1) := by decide +kernel
theorem dX3_melt_163 : decode cX3_melt 163 = .ok (.iaload, 1) := by decide +kernel
theorem dX3_melt_164 : decode cX3_melt 164 = .ok (.invokevirtual 49, 3) := by decide +kernel
theorem dX3_melt_167 : decode cX3_melt 167 = .ok (.iinc 3 (-1), 3) := by decide +kernel
theorem dX3_melt_170 : decode cX3_melt 170 = .ok (.goto (-161), 3) := by decide +kernel
theorem dX3_melt_144 : decode cX3_melt 144 = .ok (.return_, 1) := by decide +kernel
theorem dX3_melt_85 : decode cX3_melt 85 = .ok (.iload_n 2, 1) := by decide +kernel
theorem dX3_melt_86 : decode cX3_melt 86 = .ok (.bipush 100, 2) := by decide +kernel
theorem dX3_melt_88 : decode cX3_melt 88 = .ok (.idiv, 1) := by decide +kernel
theorem dX3_melt_89 : decode cX3_melt 89 = .ok (.iload 4, 2) := by decide +kernel
theorem dX3_melt_91 : decode cX3_melt 91 = .ok (.invokestatic 46, 3) := by decide +kernel
theorem dX3_melt_94 : decode cX3_melt 94 = .ok (.istore 6, 2) := by decide +kernel
theorem dX3_melt_96 : decode cX3_melt 96 = .ok (.aload_n 0, 1) := by decide +kernel
theorem dX3_melt_97 : decode cX3_melt 97 = .ok (.getfield 18, 3) := by decide +kernel
theorem dX3_melt_100 : decode cX3_melt 100 = .ok (.bipush 12, 2) := by decide +kernel
theorem dX3_melt_102 : decode cX3_melt 102 = .ok (.iload_n 3, 1) := by decide +kernel
theorem dX3_melt_103 : decode cX3_melt 103 = .ok (.iadd, 1) := by decide +kernel
theorem dX3_melt_104 : decode cX3_melt 104 = .ok (.dup2, 1) := by decide +kernel
theorem dX3_melt_105 : decode cX3_melt 105 = .ok (.iaload, 1) := by decide +kernel
theorem dX3_melt_106 : decode cX3_melt 106 = .ok (.iload 6, 2) := by decide +kernel
theorem dX3_melt_108 : decode cX3_melt 108 = .ok (.isub, 1) := by decide +kernel
theorem dX3_melt_109 : decode cX3_melt 109 = .ok (.iastore, 1) := by decide +kernel
theorem dX3_melt_110 : decode cX3_melt 110 = .ok (.aload_n 0, 1) := by decide +kernel
theorem dX3_melt_111 : decode cX3_melt 111 = .ok (.getfield 18, 3) := by decide +kernel
theorem dX3_melt_114 : decode cX3_melt 114 = .ok (.bipush 24, 2) := by decide +kernel
theorem dX3_melt_116 : decode cX3_melt 116 = .ok (.iload_n 3, 1) := by decide +kernel
theorem dX3_melt_117 : decode cX3_melt 117 = .ok (.iadd, 1) := by decide +kernel
theorem dX3_melt_118 : decode cX3_melt 118 = .ok (.dup2, 1) := by decide +kernel
theorem dX3_melt_119 : decode cX3_melt 119 = .ok (.iaload, 1) := by decide +kernel
theorem dX3_melt_120 : decode cX3_melt 120 = .ok (.iload 6, 2) := by decide +kernel
theorem dX3_melt_122 : decode cX3_melt 122 = .ok (.iadd, 1) := by decide +kernel
theorem dX3_melt_123 : decode cX3_melt 123 = .ok (.iastore, 1) := by decide +kernel
theorem dX3_melt_124 : decode cX3_melt 124 = .ok (.iload_n 2, 1) := by decide +kernel
theorem dX3_melt_125 : decode cX3_melt 125 = .ok (.bipush 100, 2) := by decide +kernel
theorem dX3_melt_127 : decode cX3_melt 127 = .ok (.iload 6, 2) := by decide +kernel
theorem dX3_melt_129 : decode cX3_melt 129 = .ok (.imul, 1) := by decide +kernel
theorem dX3_melt_130 : decode cX3_melt 130 = .ok (.isub, 1) := by decide +kernel
theorem dX3_melt_131 : decode cX3_melt 131 = .ok (.istore_n 2, 1) := by decide +kernel
theorem dX3_melt_0 : decode cX3_melt 0 = .ok (.iload_n 1, 1) := by decide +kernel
theorem dX3_melt_1 : decode cX3_melt 1 = .ok (.istore_n 2, 1) := by decide +kernel
theorem dX3_melt_2 : decode cX3_melt 2 = .ok (.aload_n 0, 1) := by decide +kernel
theorem dX3_melt_3 : decode cX3_melt 3 = .ok (.getfield 9, 3) := by decide +kernel
theorem dX3_melt_6 : decode cX3_melt 6 = .ok (.iconst 1, 1) := by decide +kernel
theorem dX3_melt_7 : decode cX3_melt 7 = .ok (.isub, 1) := by decide +kernel
theorem dX3_melt_8 : decode cX3_melt 8 = .ok (.istore_n 3, 1) := by decide +kernel
theorem dX3_evenTemps_24 : decode cX3_evenTemps 24 = .ok (.iload_n 2, 1) := by decide +kernel
theorem dX3_evenTemps_25 : decode cX3_evenTemps 25 = .ok (.aload_n 0, 1) := by decide +kernel
theorem dX3_evenTemps_26 : decode cX3_evenTemps 26 = .ok (.getfield 9, 3) := by decide +kernel
theorem dX3_evenTemps_29 : decode cX3_evenTemps 29 = .ok (.if_icmp .ge 73, 3) := by decide +kernel
theorem dX3_evenTemps_102 : decode cX3_evenTemps 102 = .ok (.return_, 1) := by decide +kernel
theorem dX3_evenTemps_32 : decode cX3_evenTemps 32 = .ok (.aload_n 0, 1) := by decide +kernel
theorem dX3_evenTemps_33 : decode cX3_evenTemps 33 = .ok (.getfield 18, 3) := by decide +kernel
theorem dX3_evenTemps_36 : decode cX3_evenTemps 36 = .ok (.bipush 48, 2) := by decide +kernel
theorem dX3_evenTemps_38 : decode cX3_evenTemps 38 = .ok (.iload_n 2, 1) := by decide +kernel
theorem dX3_evenTemps_39 : decode cX3_evenTemps 39 = .ok (.iadd, 1) := by decide +kernel
theorem dX3_evenTemps_40 : decode cX3_evenTemps 40 = .ok (.iaload, 1) := by decide +kernel
theorem dX3_evenTemps_41 : decode cX3_evenTemps 41 = .ok (.istore_n 3, 1) := by decide +kernel
theorem dX3_evenTemps_42 : decode cX3_evenTemps 42 = .ok (.iload_n 2, 1) := by decide +kernel
theorem dX3_evenTemps_43 : decode cX3_evenTemps 43 = .ok (.iconst 1, 1) := by decide +kernel
theorem dX3_evenTemps_44 : decode cX3_evenTemps 44 = .ok (.iadd, 1) := by decide +kernel
theorem dX3_evenTemps_45 : decode cX3_evenTemps 45 = .ok (.aload_n 0, 1) := by decide +kernel
theorem dX3_evenTemps_46 : decode cX3_evenTemps 46 = .ok (.getfield 9, 3) := by decide +kernel
theorem dX3_evenTemps_49 : decode cX3_evenTemps 49 = .ok (.if_icmp .ge 22, 3) := by decide +kernel
theorem dX3_evenTemps_71 : decode cX3_evenTemps 71 = .ok (.iconst 0, 1) := by decide +kernel
theorem dX3_evenTemps_72 : decode cX3_evenTemps 72 = .ok (.istore 4, 2) := by decide +kernel
theorem dX3_evenTemps_74 : decode cX3_evenTemps 74 = .ok (.aload_n 0, 1) := by decide +kernel
theorem dX3_evenTemps_75 : decode cX3_evenTemps 75 = .ok (.getfield 18, 3) := by decide +kernel
theorem dX3_evenTemps_78 : decode cX3_evenTemps 78 = .ok (.bipush 48, 2) := by decide +kernel
theorem dX3_evenTemps_80 : decode cX3_evenTemps 80 = .ok (.iload_n 2, 1) := by decide +kernel
theorem dX3_evenTemps_81 : decode cX3_evenTemps 81 = .ok (.iadd, 1) := by decide +kernel
theorem dX3_evenTemps_82 : decode cX3_evenTemps 82 = .ok (.iload_n 3, 1) := by decide +kernel
theorem dX3_evenTemps_83 : decode cX3_evenTemps 83 = .ok (.iload_n 1, 1) := by decide +kernel
theorem dX3_evenTemps_84 : decode cX3_evenTemps 84 = .ok (.isub, 1) := by decide +kernel
theorem dX3_evenTemps_85 : decode cX3_evenTemps 85 = .ok (.iload 4, 2) := by decide +kernel
theorem dX3_evenTemps_87 : decode cX3_evenTemps 87 = .ok (.iadd, 1) := by decide +kernel
theorem dX3_evenTemps_88 : decode cX3_evenTemps 88 = .ok (.iconst 0, 1) := by decide +kernel
theorem dX3_evenTemps_89 : decode cX3_evenTemps 89 = .ok (.invokestatic 46, 3) := by decide +kernel
theorem dX3_evenTemps_92 : decode cX3_evenTemps 92 = .ok (.iastore, 1) := by decide +kernel
theorem dX3_evenTemps_93 : decode cX3_evenTemps 93 = .ok (.iload 4, 2) := by decide +kernel
theorem dX3_evenTemps_95 : decode cX3_evenTemps 95 = .ok (.istore_n 1, 1) := by decide +kernel
theorem dX3_evenTemps_96 : decode cX3_evenTemps 96 = .ok (.iinc 2 1, 3) := by decide +kernel
theorem dX3_evenTemps_99 : decode cX3_evenTemps 99 = .ok (.goto (-75), 3) := by decide +kernel
theorem dX3_evenTemps_52 : decode cX3_evenTemps 52 = .ok (.aload_n 0, 1) := by decide +kernel
theorem dX3_evenTemps_53 : decode cX3_evenTemps 53 = .ok (.getfield 18, 3) := by decide +kernel
theorem dX3_evenTemps_56 : decode cX3_evenTemps 56 = .ok (.bipush 48, 2) := by decide +kernel
theorem dX3_evenTemps_58 : decode cX3_evenTemps 58 = .ok (.iload_n 2, 1) := by decide +kernel
theorem dX3_evenTemps_59 : decode cX3_evenTemps 59 = .ok (.iadd, 1) := by decide +kernel
theorem dX3_evenTemps_60 : decode cX3_evenTemps 60 = .ok (.iconst 1, 1) := by decide +kernel
theorem dX3_evenTemps_61 : decode cX3_evenTemps 61 = .ok (.iadd, 1) := by decide +kernel
theorem dX3_evenTemps_62 : decode cX3_evenTemps 62 = .ok (.iaload, 1) := by decide +kernel
theorem dX3_evenTemps_63 : decode cX3_evenTemps 63 = .ok (.iload_n 3, 1) := by decide +kernel
theorem dX3_evenTemps_64 : decode cX3_evenTemps 64 = .ok (.isub, 1) := by decide +kernel
theorem dX3_evenTemps_65 : decode cX3_evenTemps 65 = .ok (.bipush 8, 2) := by decide +kernel
theorem dX3_evenTemps_67 : decode cX3_evenTemps 67 = .ok (.idiv, 1) := by decide +kernel
theorem dX3_evenTemps_68 : decode cX3_evenTemps 68 = .ok (.goto 4, 3) := by decide +kernel
theorem dX3_evenTemps_0 : decode cX3_evenTemps 0 = .ok (.aload_n 0, 1) := by decide +kernel
theorem dX3_evenTemps_1 : decode cX3_evenTemps 1 = .ok (.getfield 9, 3) := by decide +kernel
theorem dX3_evenTemps_4 : decode cX3_evenTemps 4 = .ok (.ifCond .le 16, 3) := by decide +kernel
theorem dX3_evenTemps_20 : decode cX3_evenTemps 20 = .ok (.iconst 0, 1) := by decide +kernel
theorem dX3_evenTemps_21 : decode cX3_evenTemps 21 = .ok (.istore_n 1, 1) := by decide +kernel
theorem dX3_evenTemps_22 : decode cX3_evenTemps 22 = .ok (.iconst 0, 1) := by decide +kernel
theorem dX3_evenTemps_23 : decode cX3_evenTemps 23 = .ok (.istore_n 2, 1) := by decide +kernel
theorem dX3_evenTemps_7 : decode cX3_evenTemps 7 = .ok (.aload_n 0, 1) := by decide +kernel
theorem dX3_evenTemps_8 : decode cX3_evenTemps 8 = .ok (.getfield 18, 3) := by decide +kernel
theorem dX3_evenTemps_11 : decode cX3_evenTemps 11 = .ok (.bipush 48, 2) := by decide +kernel
theorem dX3_evenTemps_13 : decode cX3_evenTemps 13 = .ok (.iaload, 1) := by decide +kernel
theorem dX3_evenTemps_14 : decode cX3_evenTemps 14 = .ok (.bipush 8, 2) := by decide +kernel
theorem dX3_evenTemps_16 : decode cX3_evenTemps 16 = .ok (.idiv, 1) := by decide +kernel
theorem dX3_evenTemps_17 : decode cX3_evenTemps 17 = .ok (.goto 4, 3) := by decide +kernel
theorem dX3_freezeAndSink_7 : decode cX3_freezeAndSink 7 = .ok (.iload_n 2, 1) := by decide +kernel
theorem dX3_freezeAndSink_8 : decode cX3_freezeAndSink 8 = .ok (.ifCond .lt 105, 3) := by decide +kernel
theorem dX3_freezeAndSink_113 : decode cX3_freezeAndSink 113 = .ok (.return_, 1) := by decide +kernel
theorem dX3_freezeAndSink_11 : decode cX3_freezeAndSink 11 = .ok (.aload_n 0, 1) := by decide +kernel
theorem dX3_freezeAndSink_12 : decode cX3_freezeAndSink 12 = .ok (.getfield 18, 3) := by decide +kernel
theorem dX3_freezeAndSink_15 : decode cX3_freezeAndSink 15 = .ok (.bipush 24, 2) := by decide +kernel
theorem dX3_freezeAndSink_17 : decode cX3_freezeAndSink 17 = .ok (.iload_n 2, 1) := by decide +kernel
theorem dX3_freezeAndSink_18 : decode cX3_freezeAndSink 18 = .ok (.iadd, 1) := by decide +kernel
theorem dX3_freezeAndSink_19 : decode cX3_freezeAndSink 19 = .ok (.iaload, 1) := by decide +kernel
theorem dX3_freezeAndSink_20 : decode cX3_freezeAndSink 20 = .ok (.ifCond .le 20, 3) := by decide +kernel
theorem dX3_freezeAndSink_40 : decode cX3_freezeAndSink 40 = .ok (.aload_n 0, 1) := by decide +kernel
theorem dX3_freezeAndSink_41 : decode cX3_freezeAndSink 41 = .ok (.getfield 18, 3) := by decide +kernel
theorem dX3_freezeAndSink_44 : decode cX3_freezeAndSink 44 = .ok (.bipush 12, 2) := by decide +kernel
theorem dX3_freezeAndSink_46 : decode cX3_freezeAndSink 46 = .ok (.iload_n 2, 1) := by decide +kernel
theorem dX3_freezeAndSink_47 : decode cX3_freezeAndSink 47 = .ok (.iadd, 1) := by decide +kernel
theorem dX3_freezeAndSink_48 : decode cX3_freezeAndSink 48 = .ok (.iaload, 1) := by decide +kernel
theorem dX3_freezeAndSink_49 : decode cX3_freezeAndSink 49 = .ok (.i2l, 1) := by decide +kernel
theorem dX3_freezeAndSink_50 : decode cX3_freezeAndSink 50 = .ok (.aload_n 1, 1) := by decide +kernel
theorem dX3_freezeAndSink_51 : decode cX3_freezeAndSink 51 = .ok (.iconst 5, 1) := by decide +kernel
theorem dX3_freezeAndSink_52 : decode cX3_freezeAndSink 52 = .ok (.aload_n 0, 1) := by decide +kernel
theorem dX3_freezeAndSink_53 : decode cX3_freezeAndSink 53 = .ok (.getfield 18, 3) := by decide +kernel
theorem dX3_freezeAndSink_56 : decode cX3_freezeAndSink 56 = .ok (.iconst 0, 1) := by decide +kernel
theorem dX3_freezeAndSink_57 : decode cX3_freezeAndSink 57 = .ok (.iload_n 2, 1) := by decide +kernel
theorem dX3_freezeAndSink_58 : decode cX3_freezeAndSink 58 = .ok (.iadd, 1) := by decide +kernel
theorem dX3_freezeAndSink_59 : decode cX3_freezeAndSink 59 = .ok (.iaload, 1) := by decide +kernel
theorem dX3_freezeAndSink_60 : decode cX3_freezeAndSink 60 = .ok (.invokevirtual 57, 3) := by decide +kernel
theorem dX3_freezeAndSink_63 : decode cX3_freezeAndSink 63 = .ok (.i2l, 1) := by decide +kernel
theorem dX3_freezeAndSink_64 : decode cX3_freezeAndSink 64 = .ok (.lmul, 1) := by decide +kernel
theorem dX3_freezeAndSink_65 : decode cX3_freezeAndSink 65 = .ok (.ldc2_w 62, 3) := by decide +kernel
theorem dX3_freezeAndSink_68 : decode cX3_freezeAndSink 68 = .ok (.invokestatic 36, 3) := by decide +kernel
theorem dX3_freezeAndSink_71 : decode cX3_freezeAndSink 71 = .ok (.istore_n 3, 1) := by decide +kernel
theorem dX3_freezeAndSink_72 : decode cX3_freezeAndSink 72 = .ok (.aload_n 0, 1) := by decide +kernel
theorem dX3_freezeAndSink_73 : decode cX3_freezeAndSink 73 = .ok (.getfield 18, 3) := by decide +kernel
theorem dX3_freezeAndSink_76 : decode cX3_freezeAndSink 76 = .ok (.bipush 24, 2) := by decide +kernel
theorem dX3_freezeAndSink_78 : decode cX3_freezeAndSink 78 = .ok (.iload_n 2, 1) := by decide +kernel
theorem dX3_freezeAndSink_79 : decode cX3_freezeAndSink 79 = .ok (.iadd, 1) := by decide +kernel
theorem dX3_freezeAndSink_80 : decode cX3_freezeAndSink 80 = .ok (.iaload, 1) := by decide +kernel
theorem dX3_freezeAndSink_81 : decode cX3_freezeAndSink 81 = .ok (.iload_n 3, 1) := by decide +kernel
theorem dX3_freezeAndSink_82 : decode cX3_freezeAndSink 82 = .ok (.isub, 1) := by decide +kernel
theorem dX3_freezeAndSink_83 : decode cX3_freezeAndSink 83 = .ok (.istore 4, 2) := by decide +kernel
theorem dX3_freezeAndSink_85 : decode cX3_freezeAndSink 85 = .ok (.iload 4, 2) := by decide +kernel
theorem dX3_freezeAndSink_87 : decode cX3_freezeAndSink 87 = .ok (.ifCond .le 20, 3) := by decide +kernel
theorem dX3_freezeAndSink_107 : decode cX3_freezeAndSink 107 = .ok (.iinc 2 (-1), 3) := by decide +kernel
theorem dX3_freezeAndSink_110 : decode cX3_freezeAndSink 110 = .ok (.goto (-103), 3) := by decide +kernel
theorem dX3_freezeAndSink_90 : decode cX3_freezeAndSink 90 = .ok (.aload_n 0, 1) := by decide +kernel
theorem dX3_freezeAndSink_91 : decode cX3_freezeAndSink 91 = .ok (.getfield 18, 3) := by decide +kernel
theorem dX3_freezeAndSink_94 : decode cX3_freezeAndSink 94 = .ok (.bipush 24, 2) := by decide +kernel
theorem dX3_freezeAndSink_96 : decode cX3_freezeAndSink 96 = .ok (.iload_n 2, 1) := by decide +kernel
theorem dX3_freezeAndSink_97 : decode cX3_freezeAndSink 97 = .ok (.iadd, 1) := by decide +kernel
theorem dX3_freezeAndSink_98 : decode cX3_freezeAndSink 98 = .ok (.iload_n 3, 1) := by decide +kernel
theorem dX3_freezeAndSink_99 : decode cX3_freezeAndSink 99 = .ok (.iastore, 1) := by decide +kernel
theorem dX3_freezeAndSink_100 : decode cX3_freezeAndSink 100 = .ok (.aload_n 0, 1) := by decide +kernel
theorem dX3_freezeAndSink_101 : decode cX3_freezeAndSink 101 = .ok (.iload_n 2, 1) := by decide +kernel
theorem dX3_freezeAndSink_102 : decode cX3_freezeAndSink 102 = .ok (.iload 4, 2) := by decide +kernel
theorem dX3_freezeAndSink_104 : decode cX3_freezeAndSink 104 = .ok (.invokevirtual 49, 3) := by decide +kernel
theorem dX3_freezeAndSink_23 : decode cX3_freezeAndSink 23 = .ok (.aload_n 0, 1) := by decide +kernel
theorem dX3_freezeAndSink_24 : decode cX3_freezeAndSink 24 = .ok (.getfield 18, 3) := by decide +kernel
theorem dX3_freezeAndSink_27 : decode cX3_freezeAndSink 27 = .ok (.bipush 48, 2) := by decide +kernel
theorem dX3_freezeAndSink_29 : decode cX3_freezeAndSink 29 = .ok (.iload_n 2, 1) := by decide +kernel
theorem dX3_freezeAndSink_30 : decode cX3_freezeAndSink 30 = .ok (.iadd, 1) := by decide +kernel
theorem dX3_freezeAndSink_31 : decode cX3_freezeAndSink 31 = .ok (.iaload, 1) := by decide +kernel
theorem dX3_freezeAndSink_32 : decode cX3_freezeAndSink 32 = .ok (.ifCond .ge 8, 3) := by decide +kernel
theorem dX3_freezeAndSink_35 : decode cX3_freezeAndSink 35 = .ok (.aload_n 0, 1) := by decide +kernel
theorem dX3_freezeAndSink_36 : decode cX3_freezeAndSink 36 = .ok (.iload_n 2, 1) := by decide +kernel
theorem dX3_freezeAndSink_37 : decode cX3_freezeAndSink 37 = .ok (.invokevirtual 53, 3) := by decide +kernel
theorem dX3_freezeAndSink_0 : decode cX3_freezeAndSink 0 = .ok (.aload_n 0, 1) := by decide +kernel
theorem dX3_freezeAndSink_1 : decode cX3_freezeAndSink 1 = .ok (.getfield 9, 3) := by decide +kernel
theorem dX3_freezeAndSink_4 : decode cX3_freezeAndSink 4 = .ok (.iconst 1, 1) := by decide +kernel
theorem dX3_freezeAndSink_5 : decode cX3_freezeAndSink 5 = .ok (.isub, 1) := by decide +kernel
theorem dX3_freezeAndSink_6 : decode cX3_freezeAndSink 6 = .ok (.istore_n 2, 1) := by decide +kernel
theorem dX3_press_9 : decode cX3_press 9 = .ok (.iload_n 3, 1) := by decide +kernel
theorem dX3_press_10 : decode cX3_press 10 = .ok (.ifCond .lt 90, 3) := by decide +kernel
theorem dX3_press_100 : decode cX3_press 100 = .ok (.return_, 1) := by decide +kernel
theorem dX3_press_13 : decode cX3_press 13 = .ok (.aload_n 0, 1) := by decide +kernel
theorem dX3_press_14 : decode cX3_press 14 = .ok (.iload_n 3, 1) := by decide +kernel
theorem dX3_press_15 : decode cX3_press 15 = .ok (.invokevirtual 28, 3) := by decide +kernel
theorem dX3_press_18 : decode cX3_press 18 = .ok (.istore 4, 2) := by decide +kernel
theorem dX3_press_20 : decode cX3_press 20 = .ok (.aload_n 0, 1) := by decide +kernel
theorem dX3_press_21 : decode cX3_press 21 = .ok (.getfield 18, 3) := by decide +kernel
theorem dX3_press_24 : decode cX3_press 24 = .ok (.bipush 36, 2) := by decide +kernel
theorem dX3_press_26 : decode cX3_press 26 = .ok (.iload_n 3, 1) := by decide +kernel
theorem dX3_press_27 : decode cX3_press 27 = .ok (.iadd, 1) := by decide +kernel
theorem dX3_press_28 : decode cX3_press 28 = .ok (.iaload, 1) := by decide +kernel
theorem dX3_press_29 : decode cX3_press 29 = .ok (.i2l, 1) := by decide +kernel
theorem dX3_press_30 : decode cX3_press 30 = .ok (.lstore 5, 2) := by decide +kernel
theorem dX3_press_32 : decode cX3_press 32 = .ok (.iload_n 2, 1) := by decide +kernel
theorem dX3_press_33 : decode cX3_press 33 = .ok (.iload 4, 2) := by decide +kernel
theorem dX3_press_35 : decode cX3_press 35 = .ok (.iconst 2, 1) := by decide +kernel
theorem dX3_press_36 : decode cX3_press 36 = .ok (.idiv, 1) := by decide +kernel
theorem dX3_press_37 : decode cX3_press 37 = .ok (.iadd, 1) := by decide +kernel
theorem dX3_press_38 : decode cX3_press 38 = .ok (.i2l, 1) := by decide +kernel
theorem dX3_press_39 : decode cX3_press 39 = .ok (.lstore 7, 2) := by decide +kernel
theorem dX3_press_41 : decode cX3_press 41 = .ok (.aload_n 1, 1) := by decide +kernel
theorem dX3_press_42 : decode cX3_press 42 = .ok (.bipush 10, 2) := by decide +kernel
theorem dX3_press_44 : decode cX3_press 44 = .ok (.aload_n 0, 1) := by decide +kernel
theorem dX3_press_45 : decode cX3_press 45 = .ok (.getfield 18, 3) := by decide +kernel
theorem dX3_press_48 : decode cX3_press 48 = .ok (.iconst 0, 1) := by decide +kernel
theorem dX3_press_49 : decode cX3_press 49 = .ok (.iload_n 3, 1) := by decide +kernel
theorem dX3_press_50 : decode cX3_press 50 = .ok (.iadd, 1) := by decide +kernel
theorem dX3_press_51 : decode cX3_press 51 = .ok (.iaload, 1) := by decide +kernel
theorem dX3_press_52 : decode cX3_press 52 = .ok (.invokevirtual 57, 3) := by decide +kernel
theorem dX3_press_55 : decode cX3_press 55 = .ok (.iconst 1, 1) := by decide +kernel
theorem dX3_press_56 : decode cX3_press 56 = .ok (.invokestatic 40, 3) := by decide +kernel
theorem dX3_press_59 : decode cX3_press 59 = .ok (.i2l, 1) := by decide +kernel
theorem dX3_press_60 : decode cX3_press 60 = .ok (.lstore 9, 2) := by decide +kernel
theorem dX3_press_62 : decode cX3_press 62 = .ok (.aload_n 0, 1) := by decide +kernel
theorem dX3_press_63 : decode cX3_press 63 = .ok (.getfield 18, 3) := by decide +kernel
theorem dX3_press_66 : decode cX3_press 66 = .ok (.bipush 36, 2) := by decide +kernel
theorem dX3_press_68 : decode cX3_press 68 = .ok (.iload_n 3, 1) := by decide +kernel
theorem dX3_press_69 : decode cX3_press 69 = .ok (.iadd, 1) := by decide +kernel
theorem dX3_press_70 : decode cX3_press 70 = .ok (.lload 5, 2) := by decide +kernel
theorem dX3_press_72 : decode cX3_press 72 = .ok (.lload 5, 2) := by decide +kernel
theorem dX3_press_74 : decode cX3_press 74 = .ok (.lload 7, 2) := by decide +kernel
theorem dX3_press_76 : decode cX3_press 76 = .ok (.lmul, 1) := by decide +kernel
theorem dX3_press_77 : decode cX3_press 77 = .ok (.lload 9, 2) := by decide +kernel
theorem dX3_press_79 : decode cX3_press 79 = .ok (.ldiv, 1) := by decide +kernel
theorem dX3_press_80 : decode cX3_press 80 = .ok (.lsub, 1) := by decide +kernel
theorem dX3_press_81 : decode cX3_press 81 = .ok (.iload 4, 2) := by decide +kernel
theorem dX3_press_83 : decode cX3_press 83 = .ok (.i2l, 1) := by decide +kernel
theorem dX3_press_84 : decode cX3_press 84 = .ok (.invokestatic 64, 3) := by decide +kernel
theorem dX3_press_87 : decode cX3_press 87 = .ok (.l2i, 1) := by decide +kernel
theorem dX3_press_88 : decode cX3_press 88 = .ok (.iastore, 1) := by decide +kernel
theorem dX3_press_89 : decode cX3_press 89 = .ok (.iload_n 2, 1) := by decide +kernel
theorem dX3_press_90 : decode cX3_press 90 = .ok (.iload 4, 2) := by decide +kernel
theorem dX3_press_92 : decode cX3_press 92 = .ok (.iadd, 1) := by decide +kernel
theorem dX3_press_93 : decode cX3_press 93 = .ok (.istore_n 2, 1) := by decide +kernel
theorem dX3_press_94 : decode cX3_press 94 = .ok (.iinc 3 (-1), 3) := by decide +kernel
theorem dX3_press_97 : decode cX3_press 97 = .ok (.goto (-88), 3) := by decide +kernel
theorem dX3_press_0 : decode cX3_press 0 = .ok (.iconst 0, 1) := by decide +kernel
theorem dX3_press_1 : decode cX3_press 1 = .ok (.istore_n 2, 1) := by decide +kernel
theorem dX3_press_2 : decode cX3_press 2 = .ok (.aload_n 0, 1) := by decide +kernel
theorem dX3_press_3 : decode cX3_press 3 = .ok (.getfield 9, 3) := by decide +kernel
theorem dX3_press_6 : decode cX3_press 6 = .ok (.iconst 1, 1) := by decide +kernel
theorem dX3_press_7 : decode cX3_press 7 = .ok (.isub, 1) := by decide +kernel
theorem dX3_press_8 : decode cX3_press 8 = .ok (.istore_n 3, 1) := by decide +kernel
theorem dX3_turnAndAge_2 : decode cX3_turnAndAge 2 = .ok (.iload_n 2, 1) := by decide +kernel
theorem dX3_turnAndAge_3 : decode cX3_turnAndAge 3 = .ok (.aload_n 0, 1) := by decide +kernel
theorem dX3_turnAndAge_4 : decode cX3_turnAndAge 4 = .ok (.getfield 9, 3) := by decide +kernel
theorem dX3_turnAndAge_7 : decode cX3_turnAndAge 7 = .ok (.if_icmp .ge 41, 3) := by decide +kernel
theorem dX3_turnAndAge_48 : decode cX3_turnAndAge 48 = .ok (.return_, 1) := by decide +kernel
theorem dX3_turnAndAge_10 : decode cX3_turnAndAge 10 = .ok (.aload_n 0, 1) := by decide +kernel
theorem dX3_turnAndAge_11 : decode cX3_turnAndAge 11 = .ok (.getfield 18, 3) := by decide +kernel
theorem dX3_turnAndAge_14 : decode cX3_turnAndAge 14 = .ok (.iconst 0, 1) := by decide +kernel
theorem dX3_turnAndAge_15 : decode cX3_turnAndAge 15 = .ok (.iload_n 2, 1) := by decide +kernel
theorem dX3_turnAndAge_16 : decode cX3_turnAndAge 16 = .ok (.iadd, 1) := by decide +kernel
theorem dX3_turnAndAge_17 : decode cX3_turnAndAge 17 = .ok (.aload_n 0, 1) := by decide +kernel
theorem dX3_turnAndAge_18 : decode cX3_turnAndAge 18 = .ok (.iload_n 2, 1) := by decide +kernel
theorem dX3_turnAndAge_19 : decode cX3_turnAndAge 19 = .ok (.aload_n 0, 1) := by decide +kernel
theorem dX3_turnAndAge_20 : decode cX3_turnAndAge 20 = .ok (.iload_n 2, 1) := by decide +kernel
theorem dX3_turnAndAge_21 : decode cX3_turnAndAge 21 = .ok (.iload_n 1, 1) := by decide +kernel
theorem dX3_turnAndAge_22 : decode cX3_turnAndAge 22 = .ok (.invokevirtual 67, 3) := by decide +kernel
theorem dX3_turnAndAge_25 : decode cX3_turnAndAge 25 = .ok (.invokevirtual 70, 3) := by decide +kernel
theorem dX3_turnAndAge_28 : decode cX3_turnAndAge 28 = .ok (.iastore, 1) := by decide +kernel
theorem dX3_turnAndAge_29 : decode cX3_turnAndAge 29 = .ok (.aload_n 0, 1) := by decide +kernel
theorem dX3_turnAndAge_30 : decode cX3_turnAndAge 30 = .ok (.getfield 18, 3) := by decide +kernel
theorem dX3_turnAndAge_33 : decode cX3_turnAndAge 33 = .ok (.bipush 60, 2) := by decide +kernel
theorem dX3_turnAndAge_35 : decode cX3_turnAndAge 35 = .ok (.iload_n 2, 1) := by decide +kernel
theorem dX3_turnAndAge_36 : decode cX3_turnAndAge 36 = .ok (.iadd, 1) := by decide +kernel
theorem dX3_turnAndAge_37 : decode cX3_turnAndAge 37 = .ok (.dup2, 1) := by decide +kernel
theorem dX3_turnAndAge_38 : decode cX3_turnAndAge 38 = .ok (.iaload, 1) := by decide +kernel
theorem dX3_turnAndAge_39 : decode cX3_turnAndAge 39 = .ok (.iconst 1, 1) := by decide +kernel
theorem dX3_turnAndAge_40 : decode cX3_turnAndAge 40 = .ok (.iadd, 1) := by decide +kernel
theorem dX3_turnAndAge_41 : decode cX3_turnAndAge 41 = .ok (.iastore, 1) := by decide +kernel
theorem dX3_turnAndAge_42 : decode cX3_turnAndAge 42 = .ok (.iinc 2 1, 3) := by decide +kernel
theorem dX3_turnAndAge_45 : decode cX3_turnAndAge 45 = .ok (.goto (-43), 3) := by decide +kernel
theorem dX3_turnAndAge_0 : decode cX3_turnAndAge 0 = .ok (.iconst 0, 1) := by decide +kernel
theorem dX3_turnAndAge_1 : decode cX3_turnAndAge 1 = .ok (.istore_n 2, 1) := by decide +kernel
theorem dX3_copyFrom_0 : decode cX3_copyFrom 0 = .ok (.aload_n 0, 1) := by decide +kernel
theorem dX3_copyFrom_1 : decode cX3_copyFrom 1 = .ok (.aload_n 1, 1) := by decide +kernel
theorem dX3_copyFrom_2 : decode cX3_copyFrom 2 = .ok (.getfield 9, 3) := by decide +kernel
theorem dX3_copyFrom_5 : decode cX3_copyFrom 5 = .ok (.putfield 9, 3) := by decide +kernel
theorem dX3_copyFrom_8 : decode cX3_copyFrom 8 = .ok (.aload_n 0, 1) := by decide +kernel
theorem dX3_copyFrom_9 : decode cX3_copyFrom 9 = .ok (.aload_n 1, 1) := by decide +kernel
theorem dX3_copyFrom_10 : decode cX3_copyFrom 10 = .ok (.getfield 15, 3) := by decide +kernel
theorem dX3_copyFrom_13 : decode cX3_copyFrom 13 = .ok (.putfield 15, 3) := by decide +kernel
theorem dX3_copyFrom_16 : decode cX3_copyFrom 16 = .ok (.aload_n 1, 1) := by decide +kernel
theorem dX3_copyFrom_17 : decode cX3_copyFrom 17 = .ok (.getfield 18, 3) := by decide +kernel
theorem dX3_copyFrom_20 : decode cX3_copyFrom 20 = .ok (.iconst 0, 1) := by decide +kernel
theorem dX3_copyFrom_21 : decode cX3_copyFrom 21 = .ok (.aload_n 0, 1) := by decide +kernel
theorem dX3_copyFrom_22 : decode cX3_copyFrom 22 = .ok (.getfield 18, 3) := by decide +kernel
theorem dX3_copyFrom_25 : decode cX3_copyFrom 25 = .ok (.iconst 0, 1) := by decide +kernel
theorem dX3_copyFrom_26 : decode cX3_copyFrom 26 = .ok (.aload_n 0, 1) := by decide +kernel
theorem dX3_copyFrom_27 : decode cX3_copyFrom 27 = .ok (.getfield 18, 3) := by decide +kernel
theorem dX3_copyFrom_30 : decode cX3_copyFrom 30 = .ok (.arraylength, 1) := by decide +kernel
theorem dX3_copyFrom_31 : decode cX3_copyFrom 31 = .ok (.invokestatic 22, 3) := by decide +kernel
theorem dX3_copyFrom_34 : decode cX3_copyFrom 34 = .ok (.return_, 1) := by decide +kernel
theorem dX3_joinLowest_175 : decode cX3_joinLowest 175 = .ok (.iload 6, 2) := by decide +kernel
theorem dX3_joinLowest_177 : decode cX3_joinLowest 177 = .ok (.bipush 84, 2) := by decide +kernel
theorem dX3_joinLowest_179 : decode cX3_joinLowest 179 = .ok (.if_icmp .ge 49, 3) := by decide +kernel
theorem dX3_joinLowest_228 : decode cX3_joinLowest 228 = .ok (.aload_n 0, 1) := by decide +kernel
theorem dX3_joinLowest_229 : decode cX3_joinLowest 229 = .ok (.dup, 1) := by decide +kernel
theorem dX3_joinLowest_230 : decode cX3_joinLowest 230 = .ok (.getfield 9, 3) := by decide +kernel
theorem dX3_joinLowest_233 : decode cX3_joinLowest 233 = .ok (.iconst 1, 1) := by decide +kernel
theorem dX3_joinLowest_234 : decode cX3_joinLowest 234 = .ok (.isub, 1) := by decide +kernel
theorem dX3_joinLowest_235 : decode cX3_joinLowest 235 = .ok (.putfield 9, 3) := by decide +kernel
theorem dX3_joinLowest_238 : decode cX3_joinLowest 238 = .ok (.return_, 1) := by decide +kernel
theorem dX3_joinLowest_182 : decode cX3_joinLowest 182 = .ok (.iconst 2, 1) := by decide +kernel
theorem dX3_joinLowest_183 : decode cX3_joinLowest 183 = .ok (.istore 7, 2) := by decide +kernel
theorem dX3_joinLowest_185 : decode cX3_joinLowest 185 = .ok (.iload 7, 2) := by decide +kernel
theorem dX3_joinLowest_187 : decode cX3_joinLowest 187 = .ok (.aload_n 0, 1) := by decide +kernel
theorem dX3_joinLowest_188 : decode cX3_joinLowest 188 = .ok (.getfield 9, 3) := by decide +kernel
theorem dX3_joinLowest_191 : decode cX3_joinLowest 191 = .ok (.if_icmp .ge 31, 3) := by decide +kernel
theorem dX3_joinLowest_222 : decode cX3_joinLowest 222 = .ok (.iinc 6 12, 3) := by decide +kernel
theorem dX3_joinLowest_225 : decode cX3_joinLowest 225 = .ok (.goto (-50), 3) := by decide +kernel
theorem dX3_joinLowest_194 : decode cX3_joinLowest 194 = .ok (.aload_n 0, 1) := by decide +kernel
theorem dX3_joinLowest_195 : decode cX3_joinLowest 195 = .ok (.getfield 18, 3) := by decide +kernel
theorem dX3_joinLowest_198 : decode cX3_joinLowest 198 = .ok (.iload 6, 2) := by decide +kernel
theorem dX3_joinLowest_200 : decode cX3_joinLowest 200 = .ok (.iload 7, 2) := by decide +kernel
theorem dX3_joinLowest_202 : decode cX3_joinLowest 202 = .ok (.iadd, 1) := by decide +kernel
theorem dX3_joinLowest_203 : decode cX3_joinLowest 203 = .ok (.iconst 1, 1) := by decide +kernel
theorem dX3_joinLowest_204 : decode cX3_joinLowest 204 = .ok (.isub, 1) := by decide +kernel
theorem dX3_joinLowest_205 : decode cX3_joinLowest 205 = .ok (.aload_n 0, 1) := by decide +kernel
theorem dX3_joinLowest_206 : decode cX3_joinLowest 206 = .ok (.getfield 18, 3) := by decide +kernel
theorem dX3_joinLowest_209 : decode cX3_joinLowest 209 = .ok (.iload 6, 2) := by decide +kernel
theorem dX3_joinLowest_211 : decode cX3_joinLowest 211 = .ok (.iload 7, 2) := by decide +kernel
theorem dX3_joinLowest_213 : decode cX3_joinLowest 213 = .ok (.iadd, 1) := by decide +kernel
theorem dX3_joinLowest_214 : decode cX3_joinLowest 214 = .ok (.iaload, 1) := by decide +kernel
theorem dX3_joinLowest_215 : decode cX3_joinLowest 215 = .ok (.iastore, 1) := by decide +kernel
theorem dX3_joinLowest_216 : decode cX3_joinLowest 216 = .ok (.iinc 7 1, 3) := by decide +kernel
theorem dX3_joinLowest_219 : decode cX3_joinLowest 219 = .ok (.goto (-34), 3) := by decide +kernel
theorem dX3_joinLowest_0 : decode cX3_joinLowest 0 = .ok (.aload_n 0, 1) := by decide +kernel
theorem dX3_joinLowest_1 : decode cX3_joinLowest 1 = .ok (.getfield 18, 3) := by decide +kernel
theorem dX3_joinLowest_4 : decode cX3_joinLowest 4 = .ok (.bipush 12, 2) := by decide +kernel
theorem dX3_joinLowest_6 : decode cX3_joinLowest 6 = .ok (.iaload, 1) := by decide +kernel
theorem dX3_joinLowest_7 : decode cX3_joinLowest 7 = .ok (.i2l, 1) := by decide +kernel
theorem dX3_joinLowest_8 : decode cX3_joinLowest 8 = .ok (.lstore_n 1, 1) := by decide +kernel
theorem dX3_joinLowest_9 : decode cX3_joinLowest 9 = .ok (.aload_n 0, 1) := by decide +kernel
theorem dX3_joinLowest_10 : decode cX3_joinLowest 10 = .ok (.getfield 18, 3) := by decide +kernel
theorem dX3_joinLowest_13 : decode cX3_joinLowest 13 = .ok (.bipush 13, 2) := by decide +kernel
theorem dX3_joinLowest_15 : decode cX3_joinLowest 15 = .ok (.iaload, 1) := by decide +kernel
theorem dX3_joinLowest_16 : decode cX3_joinLowest 16 = .ok (.i2l, 1) := by decide +kernel
theorem dX3_joinLowest_17 : decode cX3_joinLowest 17 = .ok (.lstore_n 3, 1) := by decide +kernel
theorem dX3_joinLowest_18 : decode cX3_joinLowest 18 = .ok (.lload_n 3, 1) := by decide +kernel
theorem dX3_joinLowest_19 : decode cX3_joinLowest 19 = .ok (.lload_n 1, 1) := by decide +kernel
theorem dX3_joinLowest_20 : decode cX3_joinLowest 20 = .ok (.lcmp, 1) := by decide +kernel
theorem dX3_joinLowest_21 : decode cX3_joinLowest 21 = .ok (.ifCond .le 7, 3) := by decide +kernel
theorem dX3_joinLowest_28 : decode cX3_joinLowest 28 = .ok (.iconst 0, 1) := by decide +kernel
theorem dX3_joinLowest_29 : decode cX3_joinLowest 29 = .ok (.istore 5, 2) := by decide +kernel
theorem dX3_joinLowest_31 : decode cX3_joinLowest 31 = .ok (.aload_n 0, 1) := by decide +kernel
theorem dX3_joinLowest_32 : decode cX3_joinLowest 32 = .ok (.getfield 18, 3) := by decide +kernel
theorem dX3_joinLowest_35 : decode cX3_joinLowest 35 = .ok (.iconst 0, 1) := by decide +kernel
theorem dX3_joinLowest_36 : decode cX3_joinLowest 36 = .ok (.aload_n 0, 1) := by decide +kernel
theorem dX3_joinLowest_37 : decode cX3_joinLowest 37 = .ok (.getfield 18, 3) := by decide +kernel
theorem dX3_joinLowest_40 : decode cX3_joinLowest 40 = .ok (.iconst 0, 1) := by decide +kernel
theorem dX3_joinLowest_41 : decode cX3_joinLowest 41 = .ok (.iload 5, 2) := by decide +kernel
theorem dX3_joinLowest_43 : decode cX3_joinLowest 43 = .ok (.iadd, 1) := by decide +kernel
theorem dX3_joinLowest_44 : decode cX3_joinLowest 44 = .ok (.iaload, 1) := by decide +kernel
theorem dX3_joinLowest_45 : decode cX3_joinLowest 45 = .ok (.iastore, 1) := by decide +kernel
theorem dX3_joinLowest_46 : decode cX3_joinLowest 46 = .ok (.aload_n 0, 1) := by decide +kernel
theorem dX3_joinLowest_47 : decode cX3_joinLowest 47 = .ok (.getfield 18, 3) := by decide +kernel
theorem dX3_joinLowest_50 : decode cX3_joinLowest 50 = .ok (.bipush 72, 2) := by decide +kernel
theorem dX3_joinLowest_52 : decode cX3_joinLowest 52 = .ok (.aload_n 0, 1) := by decide +kernel
theorem dX3_joinLowest_53 : decode cX3_joinLowest 53 = .ok (.getfield 18, 3) := by decide +kernel
theorem dX3_joinLowest_56 : decode cX3_joinLowest 56 = .ok (.bipush 72, 2) := by decide +kernel
theorem dX3_joinLowest_58 : decode cX3_joinLowest 58 = .ok (.iload 5, 2) := by decide +kernel
theorem dX3_joinLowest_60 : decode cX3_joinLowest 60 = .ok (.iadd, 1) := by decide +kernel
theorem dX3_joinLowest_61 : decode cX3_joinLowest 61 = .ok (.iaload, 1) := by decide +kernel
theorem dX3_joinLowest_62 : decode cX3_joinLowest 62 = .ok (.iastore, 1) := by decide +kernel
theorem dX3_joinLowest_63 : decode cX3_joinLowest 63 = .ok (.aload_n 0, 1) := by decide +kernel
theorem dX3_joinLowest_64 : decode cX3_joinLowest 64 = .ok (.getfield 18, 3) := by decide +kernel
theorem dX3_joinLowest_67 : decode cX3_joinLowest 67 = .ok (.bipush 48, 2) := by decide +kernel
theorem dX3_joinLowest_69 : decode cX3_joinLowest 69 = .ok (.aload_n 0, 1) := by decide +kernel
theorem dX3_joinLowest_70 : decode cX3_joinLowest 70 = .ok (.getfield 18, 3) := by decide +kernel
theorem dX3_joinLowest_73 : decode cX3_joinLowest 73 = .ok (.bipush 48, 2) := by decide +kernel
theorem dX3_joinLowest_75 : decode cX3_joinLowest 75 = .ok (.iaload, 1) := by decide +kernel
theorem dX3_joinLowest_76 : decode cX3_joinLowest 76 = .ok (.i2l, 1) := by decide +kernel
theorem dX3_joinLowest_77 : decode cX3_joinLowest 77 = .ok (.lload_n 1, 1) := by decide +kernel
theorem dX3_joinLowest_78 : decode cX3_joinLowest 78 = .ok (.lmul, 1) := by decide +kernel
theorem dX3_joinLowest_79 : decode cX3_joinLowest 79 = .ok (.aload_n 0, 1) := by decide +kernel
theorem dX3_joinLowest_80 : decode cX3_joinLowest 80 = .ok (.getfield 18, 3) := by decide +kernel
theorem dX3_joinLowest_83 : decode cX3_joinLowest 83 = .ok (.bipush 49, 2) := by decide +kernel
theorem dX3_joinLowest_85 : decode cX3_joinLowest 85 = .ok (.iaload, 1) := by decide +kernel
theorem dX3_joinLowest_86 : decode cX3_joinLowest 86 = .ok (.i2l, 1) := by decide +kernel
theorem dX3_joinLowest_87 : decode cX3_joinLowest 87 = .ok (.lload_n 3, 1) := by decide +kernel
theorem dX3_joinLowest_88 : decode cX3_joinLowest 88 = .ok (.lmul, 1) := by decide +kernel
theorem dX3_joinLowest_89 : decode cX3_joinLowest 89 = .ok (.ladd, 1) := by decide +kernel
theorem dX3_joinLowest_90 : decode cX3_joinLowest 90 = .ok (.lload_n 1, 1) := by decide +kernel
theorem dX3_joinLowest_91 : decode cX3_joinLowest 91 = .ok (.lload_n 3, 1) := by decide +kernel
theorem dX3_joinLowest_92 : decode cX3_joinLowest 92 = .ok (.ladd, 1) := by decide +kernel
theorem dX3_joinLowest_93 : decode cX3_joinLowest 93 = .ok (.invokestatic 36, 3) := by decide +kernel
theorem dX3_joinLowest_96 : decode cX3_joinLowest 96 = .ok (.iastore, 1) := by decide +kernel
theorem dX3_joinLowest_97 : decode cX3_joinLowest 97 = .ok (.aload_n 0, 1) := by decide +kernel
theorem dX3_joinLowest_98 : decode cX3_joinLowest 98 = .ok (.getfield 18, 3) := by decide +kernel
theorem dX3_joinLowest_101 : decode cX3_joinLowest 101 = .ok (.bipush 12, 2) := by decide +kernel
theorem dX3_joinLowest_103 : decode cX3_joinLowest 103 = .ok (.dup2, 1) := by decide +kernel
theorem dX3_joinLowest_104 : decode cX3_joinLowest 104 = .ok (.iaload, 1) := by decide +kernel
theorem dX3_joinLowest_105 : decode cX3_joinLowest 105 = .ok (.aload_n 0, 1) := by decide +kernel
theorem dX3_joinLowest_106 : decode cX3_joinLowest 106 = .ok (.getfield 18, 3) := by decide +kernel
theorem dX3_joinLowest_109 : decode cX3_joinLowest 109 = .ok (.bipush 13, 2) := by decide +kernel
theorem dX3_joinLowest_111 : decode cX3_joinLowest 111 = .ok (.iaload, 1) := by decide +kernel
theorem dX3_joinLowest_112 : decode cX3_joinLowest 112 = .ok (.iadd, 1) := by decide +kernel
theorem dX3_joinLowest_113 : decode cX3_joinLowest 113 = .ok (.iastore, 1) := by decide +kernel
theorem dX3_joinLowest_114 : decode cX3_joinLowest 114 = .ok (.aload_n 0, 1) := by decide +kernel
theorem dX3_joinLowest_115 : decode cX3_joinLowest 115 = .ok (.getfield 18, 3) := by decide +kernel
theorem dX3_joinLowest_118 : decode cX3_joinLowest 118 = .ok (.bipush 24, 2) := by decide +kernel
theorem dX3_joinLowest_120 : decode cX3_joinLowest 120 = .ok (.dup2, 1) := by decide +kernel
theorem dX3_joinLowest_121 : decode cX3_joinLowest 121 = .ok (.iaload, 1) := by decide +kernel
theorem dX3_joinLowest_122 : decode cX3_joinLowest 122 = .ok (.aload_n 0, 1) := by decide +kernel
theorem dX3_joinLowest_123 : decode cX3_joinLowest 123 = .ok (.getfield 18, 3) := by decide +kernel
theorem dX3_joinLowest_126 : decode cX3_joinLowest 126 = .ok (.bipush 25, 2) := by decide +kernel
theorem dX3_joinLowest_128 : decode cX3_joinLowest 128 = .ok (.iaload, 1) := by decide +kernel
theorem dX3_joinLowest_129 : decode cX3_joinLowest 129 = .ok (.iadd, 1) := by decide +kernel
theorem dX3_joinLowest_130 : decode cX3_joinLowest 130 = .ok (.iastore, 1) := by decide +kernel
theorem dX3_joinLowest_131 : decode cX3_joinLowest 131 = .ok (.aload_n 0, 1) := by decide +kernel
theorem dX3_joinLowest_132 : decode cX3_joinLowest 132 = .ok (.getfield 18, 3) := by decide +kernel
theorem dX3_joinLowest_135 : decode cX3_joinLowest 135 = .ok (.bipush 36, 2) := by decide +kernel
theorem dX3_joinLowest_137 : decode cX3_joinLowest 137 = .ok (.dup2, 1) := by decide +kernel
theorem dX3_joinLowest_138 : decode cX3_joinLowest 138 = .ok (.iaload, 1) := by decide +kernel
theorem dX3_joinLowest_139 : decode cX3_joinLowest 139 = .ok (.aload_n 0, 1) := by decide +kernel
theorem dX3_joinLowest_140 : decode cX3_joinLowest 140 = .ok (.getfield 18, 3) := by decide +kernel
theorem dX3_joinLowest_143 : decode cX3_joinLowest 143 = .ok (.bipush 37, 2) := by decide +kernel
theorem dX3_joinLowest_145 : decode cX3_joinLowest 145 = .ok (.iaload, 1) := by decide +kernel
theorem dX3_joinLowest_146 : decode cX3_joinLowest 146 = .ok (.iadd, 1) := by decide +kernel
theorem dX3_joinLowest_147 : decode cX3_joinLowest 147 = .ok (.iastore, 1) := by decide +kernel
theorem dX3_joinLowest_148 : decode cX3_joinLowest 148 = .ok (.aload_n 0, 1) := by decide +kernel
theorem dX3_joinLowest_149 : decode cX3_joinLowest 149 = .ok (.getfield 18, 3) := by decide +kernel
theorem dX3_joinLowest_152 : decode cX3_joinLowest 152 = .ok (.bipush 60, 2) := by decide +kernel
theorem dX3_joinLowest_154 : decode cX3_joinLowest 154 = .ok (.aload_n 0, 1) := by decide +kernel
theorem dX3_joinLowest_155 : decode cX3_joinLowest 155 = .ok (.getfield 18, 3) := by decide +kernel
theorem dX3_joinLowest_158 : decode cX3_joinLowest 158 = .ok (.bipush 60, 2) := by decide +kernel
theorem dX3_joinLowest_160 : decode cX3_joinLowest 160 = .ok (.iaload, 1) := by decide +kernel
theorem dX3_joinLowest_161 : decode cX3_joinLowest 161 = .ok (.aload_n 0, 1) := by decide +kernel
theorem dX3_joinLowest_162 : decode cX3_joinLowest 162 = .ok (.getfield 18, 3) := by decide +kernel
theorem dX3_joinLowest_165 : decode cX3_joinLowest 165 = .ok (.bipush 61, 2) := by decide +kernel
theorem dX3_joinLowest_167 : decode cX3_joinLowest 167 = .ok (.iaload, 1) := by decide +kernel
theorem dX3_joinLowest_168 : decode cX3_joinLowest 168 = .ok (.invokestatic 40, 3) := by decide +kernel
theorem dX3_joinLowest_171 : decode cX3_joinLowest 171 = .ok (.iastore, 1) := by decide +kernel
theorem dX3_joinLowest_172 : decode cX3_joinLowest 172 = .ok (.iconst 0, 1) := by decide +kernel
theorem dX3_joinLowest_173 : decode cX3_joinLowest 173 = .ok (.istore 6, 2) := by decide +kernel
theorem dX3_joinLowest_24 : decode cX3_joinLowest 24 = .ok (.iconst 1, 1) := by decide +kernel
theorem dX3_joinLowest_25 : decode cX3_joinLowest 25 = .ok (.goto 4, 3) := by decide +kernel
end
