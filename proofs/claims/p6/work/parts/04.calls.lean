/-! ===== contracts ===== -/
abbrev zR : Type := Option Value → Nat → (Nat → Nat) → (Nat → va_E) → Prop
def zPre (D : va_G) (A : Nat → Prop) (cs : Nat → ClassId) (tt : Nat) (N : Nat) (ad : Nat → Nat) (g : Nat → va_E) (avs : List Value) : Array Value → State → Prop := fun v U => v = avs.toArray ∧ zE D A cs tt U ∧ va_P D vwCl (wl N ad g) U.heap ∧ va_D A (wl N ad g)
def zPost (D : va_G) (A : Nat → Prop) (Qr : zR) : Array Value → State → Outcome → State → Prop := fun _ st oc t => ∃ (r : Option Value) (N' : Nat) (ad' : Nat → Nat) (g' : Nat → va_E), oc = .returned r ∧ Qr r N' ad' g' ∧ va_P D vwCl (wl N' ad' g') t.heap ∧ va_D A (wl N' ad' g') ∧ va_F A st t
def zM (l : Launch) (y : MethodName) (cc : ByteArray) (mL : Nat) (ret : Option FieldType) (rm : Room) (D : va_G) (A : Nat → Prop) (cs : Nat → ClassId) (tt : Nat) (N : Nat) (ad : Nat → Nat) (g : Nat → va_E) (avs : List Value) (Qr : zR) : Prop := Met l y (.code y cc mL ret :: AW) rm (zPre D A cs tt N ad g avs) (zPost D A Qr) rm.cells rm.slots A
abbrev rI (Qz : Int → Nat → (Nat → Nat) → (Nat → va_E) → Prop) : zR := fun r N' ad' g' => ∃ z : Int, r = some (.int (zI z)) ∧ Qz z N' ad' g'
abbrev rV (Qz : Nat → (Nat → Nat) → (Nat → va_E) → Prop) : zR := fun r N' ad' g' => r = none ∧ Qz N' ad' g'
abbrev rR (Qz : Nat → Nat → (Nat → Nat) → (Nat → va_E) → Prop) : zR := fun r N' ad' g' => ∃ a : Nat, r = some (.ref a) ∧ Qz a N' ad' g'
abbrev rI0 (N : Nat) (ad : Nat → Nat) (Qz : Int → (Nat → va_E) → Prop) : zR := rI (fun z N' ad' g' => N' = N ∧ ad' = ad ∧ Qz z g')
abbrev rV0 (N : Nat) (ad : Nat → Nat) (Qz : (Nat → va_E) → Prop) : zR := rV (fun N' ad' g' => N' = N ∧ ad' = ad ∧ Qz g')
abbrev rR0 (N : Nat) (ad : Nat → Nat) (Qz : Nat → (Nat → va_E) → Prop) : zR := rR (fun a N' ad' g' => N' = N ∧ ad' = ad ∧ Qz a g')
theorem zPre.blind {D : va_G} {A : Nat → Prop} {cs : Nat → ClassId} {tt N : Nat} {ad : Nat → Nat} {g : Nat → va_E} {avs : List Value} : FrameBlind (zPre D A cs tt N ad g avs) := fun _ _ _ _ h => ⟨h.1, h.2.1.calling, h.2.2.1, h.2.2.2⟩
theorem z_of {l : Launch} {y : MethodName} {cc : ByteArray} {mL : Nat} {ret : Option FieldType} {rm : Room} {D : va_G} {A : Nat → Prop} {cs : Nat → ClassId} {tt N : Nat} {ad : Nat → Nat} {g : Nat → va_E} {avs : List Value} {Qr : zR} (hy : plainName y.cls = true) (hlen : (lg_sl avs).length ≤ mL)
    (body : ∀ (p : Program) (e : Env) (s : State) (m : MethodId) (below : List Frame) (meth : Method) (c : Code), zC p s m avs.toArray c cc mL y.cls D A cs tt → meth.sig.returnType = ret → meth.locks = false → meth.name = y.name →
      zV p l e rm s m avs.toArray below meth c (MQ below (zPost D A Qr) avs.toArray s rm.cells rm.slots A) D A mL N ad g 0 0 0 (lv_args 0 avs) []) : zM l y cc mL ret rm D A cs tt N ad g avs Qr := by
  refine Met.ofW (cc := cc) (maxL := mL) (ret := ret) hy rfl ?_
  intro p e s m args below meth c s₁ B hml hv
  obtain ⟨rfl, hE, hP, hD⟩ := hv
  have hts := atoms_spec (ws := Cond.code y cc mL ret :: AW) B.pre
  have hl := lv_entry avs (n := mL) hlen
  rw [lg_entry_eq]
  exact body p e s m below meth c ⟨B.exec, B.bytes, hml, findClass_of_methodNamed B.named, fun w h => hts w (List.mem_cons_of_mem _ h), hE⟩ B.returns B.notSynchronized (name_of_methodNamed B.named B.method).1 s.heap [] _ hP hD va_S.rf hl
def zWv (y : MethodName) (cb : ByteArray) (mL : Nat) (ret : Option FieldType) : Prop := Cond.instanceMethod y ∈ AW ∧ Cond.selects y.cls y y ∈ AW ∧ Cond.initialized y.cls ∈ AW ∧ Cond.code y cb mL ret ∈ AW
def zWs (y : MethodName) (cb : ByteArray) (mL : Nat) (ret : Option FieldType) : Prop := Cond.static y ∈ AW ∧ Cond.initialized y.cls ∈ AW ∧ Cond.code y cb mL ret ∈ AW
def zWi (y : MethodName) (cb : ByteArray) (mL : Nat) : Prop := Cond.instanceMethod y ∈ AW ∧ Cond.initialized y.cls ∈ AW ∧ Cond.code y cb mL none ∈ AW
section ZM
variable {p : Program} {l : Launch} {e : Env} {R : Room} {s : State} {m : MethodId} {args : Array Value} {below : List Frame} {meth : Method} {c : Code} {Q : State → Prop} {D : va_G} {A : Nat → Prop} {cs : Nat → ClassId} {tt : Nat} {cc : ByteArray} {nL : Nat} {own : String} {N : Nat} {ad : Nat → Nat} {g : Nat → va_E} {k n pc : Nat} {lv lv' : List (Nat × Value)} {rest st : List Value} {Qr : zR} {mc ms : Nat}
theorem z_iret (C : zC p s m args c cc nL own D A cs tt) {z : Int} (hr : meth.sig.returnType = some .int) (hlocks : meth.locks = false) (hdg : decode cc pc = .ok (.ireturn, 1)) (hk : k ≤ mc) (hn : n ≤ ms) (hq : Qr (some (.int (zI z))) N ad g) : zV p l e R s m args below meth c (MQ below (zPost D A Qr) args s mc ms A) D A nL N ad g k n (pc) (lv) ([.int (zI z)]) := fun H locs ls hP hD hS hl => W.widen hk hn (W.iret C.1 C.2.1 hr (fun t ht hW => ⟨_, _, _, _, rfl, hq, by rw [ht]; exact hP, hD, hS.F ht⟩) hS.2.2 hdg hlocks)
theorem z_zret (C : zC p s m args c cc nL own D A cs tt) {z : Int} {ty : FieldType} (hr : meth.sig.returnType = some ty) (hlocks : meth.locks = false) (hdg : decode cc pc = .ok (.ireturn, 1)) (hnz : narrow ty (.int (zI z)) = .int (zI z)) (hk : k ≤ mc) (hn : n ≤ ms) (hq : Qr (some (.int (zI z))) N ad g) : zV p l e R s m args below meth c (MQ below (zPost D A Qr) args s mc ms A) D A nL N ad g k n (pc) (lv) ([.int (zI z)]) := fun H locs ls hP hD hS hl => W.widen hk hn (W.zret C.1 C.2.1 hr hnz (fun t ht hW => ⟨_, _, _, _, rfl, hq, by rw [ht]; exact hP, hD, hS.F ht⟩) hS.2.2 hdg hlocks)
theorem z_vret (C : zC p s m args c cc nL own D A cs tt) (hr : meth.sig.returnType = none) (hlocks : meth.locks = false) (hdg : decode cc pc = .ok (.return_, 1)) (hk : k ≤ mc) (hn : n ≤ ms) (hq : Qr none N ad g) : zV p l e R s m args below meth c (MQ below (zPost D A Qr) args s mc ms A) D A nL N ad g k n (pc) (lv) ([]) := fun H locs ls hP hD hS hl => W.widen hk hn (W.vret C.1 C.2.1 hr (fun t ht hW => ⟨_, _, _, _, rfl, hq, by rw [ht]; exact hP, hD, hS.F ht⟩) hS.2.2 hdg hlocks)
theorem z_aret (C : zC p s m args c cc nL own D A cs tt) {a : Nat} {rt : FieldType} (hr : meth.sig.returnType = some rt) (hrt : (∃ n, rt = .object n) ∨ ∃ t, rt = .array t) (hlocks : meth.locks = false) (hdg : decode cc pc = .ok (.areturn, 1)) (hk : k ≤ mc) (hn : n ≤ ms) (hq : Qr (some (.ref a)) N ad g) : zV p l e R s m args below meth c (MQ below (zPost D A Qr) args s mc ms A) D A nL N ad g k n (pc) (lv) ([.ref a]) := fun H locs ls hP hD hS hl => W.widen hk hn (W.aret C.1 C.2.1 hr hrt (Or.inr ⟨a, rfl⟩) (fun t ht hW => ⟨_, _, _, _, rfl, hq, by rw [ht]; exact hP, hD, hS.F ht⟩) hS.2.2 hdg hlocks)
theorem z_widen {k2 n2 : Nat} (hk : k ≤ k2) (hn : n ≤ n2) (kk : zV p l e R s m args below meth c Q D A nL N ad g k2 n2 (pc) (lv) (st)) : zV p l e R s m args below meth c Q D A nL N ad g k n (pc) (lv) (st) := fun H locs ls hP hD hS hl => W.widen hk hn (kk H locs ls hP hD hS hl)
theorem z_lv (ks : List Nat) (h : lv_pick lv ks = lv') (kk : zV p l e R s m args below meth c Q D A nL N ad g k n (pc) (lv') (st)) : zV p l e R s m args below meth c Q D A nL N ad g k n (pc) (lv) (st) := fun H locs ls hP hD hS hl => kk H locs ls hP hD hS (lv_sub hl ks h)
theorem z_objInit (C : zC p s m args c cc nL own D A cs tt) {v : Nat} {idx : Nat} (hlk : Cond.methodLink own idx Lib.objectInit ∈ AW) (hw : Cond.instanceMethod Lib.objectInit ∈ AW) (hcd : Cond.code Lib.objectInit ⟨#[0xb1]⟩ 1 none ∈ AW) (hd : decode cc pc = .ok (.invokespecial idx, 3)) (hframes : 1 ≤ R.frames) (hlocals : (rest.map fun v => v.category).sum + 12 ≤ R.locals) (kk : zV p l e R s m args below meth c Q D A nL N ad g k n (pc + 3) (lv) (rest)) : zV p l e R s m args below meth c Q D A nL N ad g k n (pc) (lv) (.ref v :: rest) := fun H locs ls hP hD hS hl => W.objInit C.1 C.2.1 C.2.2.2.1 (C.2.2.2.2.1 _ hlk) (C.2.2.2.2.1 _ hw) (C.2.2.2.2.1 _ hcd) rfl (by rw [C.2.2.1]; exact hl.1) rfl hd hframes (by show 2 * 0 + _ + 12 ≤ _; omega) (kk H locs ls hP hD hS hl)
theorem z_run {As : Array Value} {H : Heap} {locs : List Loc} {ls : Array Slot} {rm : Room} (hr : va_Run p l e R s m args below meth c H locs k n rm.cells rm.slots (F0 m pc ls st) rest (zPost D A Qr As) A) (hS : va_S A s.heap H locs) (hl : lv_has ls nL lv)
    (kk : ∀ (r : Option Value) (N' : Nat) (ad' : Nat → Nat) (g' : Nat → va_E), Qr r N' ad' g' → zV p l e R s m args below meth c Q D A nL N' ad' g' (k + rm.cells) (n + rm.slots) (pc + 3) (lv) (r.toList ++ rest)) : W p l e R s m args below meth c H locs k n Q (F0 m pc ls st) := by
  intro T hT X
  obtain ⟨v, st₀, t, T', L, h0, X', hL, e1, e2, ⟨r, N', ad', g', hv, hq, hP, hD, hz, hk⟩, st9⟩ := hr T hT X
  cases hv
  rw [h0] at hz hk
  obtain ⟨t2, a1, b1⟩ := kk v N' ad' g' hq T'.heap (locs ++ L) ls (by rw [e1]; exact hP) hD ⟨Nat.le_trans hS.1 (by rw [e1]; exact hz), fun q h1 h2 => by rw [e1, hk q (Nat.lt_of_lt_of_le h1 hS.1) h2]; exact hS.2.1 q h1 h2, fun q hq => by
      rcases List.mem_append.mp hq with h | h
      · exact hS.2.2 q h
      · exact hL q h⟩ hl T' rfl X'
  exact ⟨t2, st9 t2 a1, b1⟩
theorem z_preS {avs : List Value} {H : Heap} {locs : List Loc} (C : zC p s m args c cc nL own D A cs tt) (hP : va_P D vwCl (wl N ad g) H) (hD : va_D A (wl N ad g)) (hS : va_S A s.heap H locs) : PreS s H (zPre D A cs tt N ad g avs) avs :=
  ⟨zPre.blind, fun U hU hW => ⟨rfl, C.2.2.2.2.2.next hS hU hW, by rw [hU]; exact hP, hD⟩⟩
theorem z_cV (C : zC p s m args c cc nL own D A cs tt) {y : MethodName} {cb : ByteArray} {mL index : Nat} {ret : Option FieldType} {rm : Room} {As : List Value} {i a ci : Nat} {fs : List Value} {q : vw_C} (hM : zM l y cb mL ret rm D A cs tt N ad g (.ref a :: As) Qr) (hi : i < N) (ha : ad i = a) (hg : g i = oC ci fs) (hc : vwCl[ci]? = some q) (hq : q.1 = y.cls) (hw : zWv y cb mL ret) (hlk : Cond.methodLink own index y ∈ AW) (hd : y.cls ≠ "java/lang/invoke/MethodHandle" ∧ y.cls ≠ "java/lang/invoke/VarHandle" ∧ (parseMethodDescriptor y.desc).map (fun d => d.parameters.length) = some As.length) (hR : rm.frames + 1 ≤ R.frames ∧ 8 + (mL + 11) + rm.locals ≤ R.locals) (hrest : (rest.map fun v => v.category).sum ≤ 8) (hf : k + rm.cells ≤ R.cells ∧ n + rm.slots ≤ R.slots) (hdg : decode cc pc = .ok (.invokevirtual index, 3)) (hst : st = As.reverse ++ .ref a :: rest)
    (kk : ∀ (r : Option Value) (N' : Nat) (ad' : Nat → Nat) (g' : Nat → va_E), Qr r N' ad' g' → zV p l e R s m args below meth c Q D A nL N' ad' g' (k + rm.cells) (n + rm.slots) (pc + 3) (lv) (r.toList ++ rest)) : zV p l e R s m args below meth c Q D A nL N ad g k n (pc) (lv) (st) := fun H locs ls hP hD hS hl => by
  have hG : GoodIn AW (wsV own index y.cls y (Cond.code y cb mL ret :: AW)) := AW_in (fun w h => by
    rcases List.mem_append.mp h with h | h
    · rcases List.mem_cons.mp h with rfl | h
      · exact hlk
      · rcases List.mem_cons.mp h with rfl | h
        · exact hw.1
        · rcases List.mem_cons.mp h with rfl | h
          · exact hw.2.1
          · rcases List.mem_cons.mp h with rfl | h
            · exact hw.2.2.1
            · exact absurd h List.not_mem_nil
    · rcases List.mem_cons.mp h with rfl | h
      · exact hw.2.2.2
      · exact h)
  have hrc : ∃ cell : Cell, H[a]? = some cell ∧ cell.vm.isStatics = false ∧ s.vm.findClass y.cls = some cell.cls := by
    rw [← hq]; exact va_recv C.2.2.2.2.2.1 hP hc ((wl_at hi).trans (by rw [hg, ha]))
  exact z_run (va_runV (As := As) (rest := rest) ⟨C.1, C.2.1, C.2.2.1, C.2.2.2.1, C.2.2.2.2.1⟩ hM (cwV As.length C.2.2.2.2.1 hG rfl rfl rfl ⟨rfl, hd⟩ hR) ⟨zPre.blind, hrc, (z_preS C hP hD hS).2⟩ rfl rfl hl.1 hst (lv_room hrest) hdg hf) hS hl kk
theorem z_cS (C : zC p s m args c cc nL own D A cs tt) {y : MethodName} {cb : ByteArray} {mL index : Nat} {ret : Option FieldType} {rm : Room} {As : List Value} (hM : zM l y cb mL ret rm D A cs tt N ad g As Qr) (hw : zWs y cb mL ret) (hlk : Cond.methodLink own index y ∈ AW) (hd : y.cls ≠ "java/lang/invoke/MethodHandle" ∧ y.cls ≠ "java/lang/invoke/VarHandle" ∧ (parseMethodDescriptor y.desc).map (fun d => d.parameters.length) = some As.length) (hR : rm.frames + 1 ≤ R.frames ∧ 8 + (mL + 11) + rm.locals ≤ R.locals) (hrest : (rest.map fun v => v.category).sum ≤ 8) (hf : k + rm.cells ≤ R.cells ∧ n + rm.slots ≤ R.slots) (hdg : decode cc pc = .ok (.invokestatic index, 3)) (hst : st = As.reverse ++ rest)
    (kk : ∀ (r : Option Value) (N' : Nat) (ad' : Nat → Nat) (g' : Nat → va_E), Qr r N' ad' g' → zV p l e R s m args below meth c Q D A nL N' ad' g' (k + rm.cells) (n + rm.slots) (pc + 3) (lv) (r.toList ++ rest)) : zV p l e R s m args below meth c Q D A nL N ad g k n (pc) (lv) (st) := fun H locs ls hP hD hS hl => by
  have hG : GoodIn AW (va_wsS own index y (Cond.code y cb mL ret :: AW)) := AW_in (fun w h => by
    rcases List.mem_append.mp h with h | h
    · rcases List.mem_cons.mp h with rfl | h
      · exact hlk
      · rcases List.mem_cons.mp h with rfl | h
        · exact hw.1
        · rcases List.mem_cons.mp h with rfl | h
          · exact hw.2.1
          · exact absurd h List.not_mem_nil
    · rcases List.mem_cons.mp h with rfl | h
      · exact hw.2.2
      · exact h)
  exact z_run (va_runS (As := As) (rest := rest) ⟨C.1, C.2.1, C.2.2.1, C.2.2.2.1, C.2.2.2.2.1⟩ hM (va_cwS As.length C.2.2.2.2.1 hG rfl rfl rfl hd hR) (z_preS C hP hD hS) rfl rfl hl.1 hst (lv_room hrest) hdg hf) hS hl kk
theorem AW_cons {w0 : Cond} (h0 : w0 ∈ AW) : GoodIn AW (w0 :: AW) := AW_in (fun w h => by
    rcases List.mem_cons.mp h with rfl | h
    · exact h0
    · exact h)
theorem z_cI (C : zC p s m args c cc nL own D A cs tt) {y : MethodName} {cb : ByteArray} {mL index : Nat} {rm : Room} {As : List Value} {b : Nat} (hM : zM l y cb mL none rm D A cs tt N ad g (.ref b :: As) Qr) (hw : zWi y cb mL) (hlk : Cond.methodLink own index y ∈ AW) (hin : y.name = "<init>") (hd : y.cls ≠ "java/lang/invoke/MethodHandle" ∧ y.cls ≠ "java/lang/invoke/VarHandle" ∧ (parseMethodDescriptor y.desc).map (fun d => d.parameters.length) = some As.length) (hR : rm.frames + 1 ≤ R.frames ∧ 8 + (mL + 11) + rm.locals ≤ R.locals) (hrest : (rest.map fun v => v.category).sum ≤ 8) (hf : k + rm.cells ≤ R.cells ∧ n + rm.slots ≤ R.slots) (hdg : decode cc pc = .ok (.invokespecial index, 3)) (hst : st = As.reverse ++ .ref b :: rest)
    (kk : ∀ (r : Option Value) (N' : Nat) (ad' : Nat → Nat) (g' : Nat → va_E), Qr r N' ad' g' → zV p l e R s m args below meth c Q D A nL N' ad' g' (k + rm.cells) (n + rm.slots) (pc + 3) (lv) (r.toList ++ rest)) : zV p l e R s m args below meth c Q D A nL N ad g k n (pc) (lv) (st) := fun H locs ls hP hD hS hl => by
  exact z_run (va_runI (As := As) (rest := rest) ⟨C.1, C.2.1, C.2.2.1, C.2.2.2.1, C.2.2.2.2.1⟩ hM (cwI As.length C.2.2.2.2.1 (AW_cons hw.2.2) rfl rfl rfl (C.2.2.2.2.1 _ hw.2.1) (C.2.2.2.2.1 _ hlk) (C.2.2.2.2.1 _ hw.1) hin hd hR) (z_preS C hP hD hS) rfl rfl hl.1 hst (lv_room hrest) hdg hf) hS hl kk
theorem z_cIN (C : zC p s m args c cc nL own D A cs tt) {y : MethodName} {cb : ByteArray} {mL index : Nat} {rm : Room} {As : List Value} {b : Nat} {host : String} (hM : zM l y cb mL none rm D A cs tt N ad g (.ref b :: As) Qr) (hw : zWi y cb mL) (hlk : Cond.methodLinkNest own index y host ∈ NW) (hin : y.name = "<init>") (hd : y.cls ≠ "java/lang/invoke/MethodHandle" ∧ y.cls ≠ "java/lang/invoke/VarHandle" ∧ (parseMethodDescriptor y.desc).map (fun d => d.parameters.length) = some As.length) (hR : rm.frames + 1 ≤ R.frames ∧ 8 + (mL + 11) + rm.locals ≤ R.locals) (hrest : (rest.map fun v => v.category).sum ≤ 8) (hf : k + rm.cells ≤ R.cells ∧ n + rm.slots ≤ R.slots) (hdg : decode cc pc = .ok (.invokespecial index, 3)) (hst : st = As.reverse ++ .ref b :: rest)
    (kk : ∀ (r : Option Value) (N' : Nat) (ad' : Nat → Nat) (g' : Nat → va_E), Qr r N' ad' g' → zV p l e R s m args below meth c Q D A nL N' ad' g' (k + rm.cells) (n + rm.slots) (pc + 3) (lv) (r.toList ++ rest)) : zV p l e R s m args below meth c Q D A nL N ad g k n (pc) (lv) (st) := fun H locs ls hP hD hS hl => by
  exact z_run (va_runIN (As := As) (rest := rest) ⟨C.1, C.2.1, C.2.2.1, C.2.2.2.1, C.2.2.2.2.1⟩ hM ⟨va_cnB As.length C.2.2.2.2.1 (AW_cons hw.2.2) rfl rfl rfl (C.2.2.2.2.2.2.1 _ hlk) (C.2.2.2.2.1 _ hw.2.1) hd hR, hin, C.2.2.2.2.1 _ hw.1⟩ (z_preS C hP hD hS) rfl rfl hl.1 hst (lv_room hrest) hdg hf) hS hl kk
theorem z_cSN (C : zC p s m args c cc nL own D A cs tt) {y : MethodName} {cb : ByteArray} {mL index : Nat} {ret : Option FieldType} {rm : Room} {As : List Value} {host : String} (hM : zM l y cb mL ret rm D A cs tt N ad g As Qr) (hw : zWs y cb mL ret) (hlk : Cond.methodLinkNest own index y host ∈ NW) (hd : y.cls ≠ "java/lang/invoke/MethodHandle" ∧ y.cls ≠ "java/lang/invoke/VarHandle" ∧ (parseMethodDescriptor y.desc).map (fun d => d.parameters.length) = some As.length) (hR : rm.frames + 1 ≤ R.frames ∧ 8 + (mL + 11) + rm.locals ≤ R.locals) (hrest : (rest.map fun v => v.category).sum ≤ 8) (hf : k + rm.cells ≤ R.cells ∧ n + rm.slots ≤ R.slots) (hdg : decode cc pc = .ok (.invokestatic index, 3)) (hst : st = As.reverse ++ rest)
    (kk : ∀ (r : Option Value) (N' : Nat) (ad' : Nat → Nat) (g' : Nat → va_E), Qr r N' ad' g' → zV p l e R s m args below meth c Q D A nL N' ad' g' (k + rm.cells) (n + rm.slots) (pc + 3) (lv) (r.toList ++ rest)) : zV p l e R s m args below meth c Q D A nL N ad g k n (pc) (lv) (st) := fun H locs ls hP hD hS hl => by
  exact z_run (va_runSN (As := As) (rest := rest) ⟨C.1, C.2.1, C.2.2.1, C.2.2.2.1, C.2.2.2.2.1⟩ hM ⟨va_cnB As.length C.2.2.2.2.1 (AW_cons hw.2.2) rfl rfl rfl (C.2.2.2.2.2.2.1 _ hlk) (C.2.2.2.2.1 _ hw.2.1) hd hR, C.2.2.2.2.1 _ hw.1, trivial⟩ (z_preS C hP hD hS) rfl rfl hl.1 hst (lv_room hrest) hdg hf) hS hl kk
theorem kI {Qz : Int → Nat → (Nat → Nat) → (Nat → va_E) → Prop} (h : ∀ (z : Int) (N' : Nat) (ad' : Nat → Nat) (g' : Nat → va_E), Qz z N' ad' g' → zV p l e R s m args below meth c Q D A nL N' ad' g' k n pc lv (.int (zI z) :: rest)) : ∀ (r : Option Value) (N' : Nat) (ad' : Nat → Nat) (g' : Nat → va_E), rI Qz r N' ad' g' → zV p l e R s m args below meth c Q D A nL N' ad' g' k n pc lv (r.toList ++ rest) := by
  rintro r N' ad' g' ⟨z, rfl, hq⟩
  exact h z N' ad' g' hq
theorem kV {Qz : Nat → (Nat → Nat) → (Nat → va_E) → Prop} (h : ∀ (N' : Nat) (ad' : Nat → Nat) (g' : Nat → va_E), Qz N' ad' g' → zV p l e R s m args below meth c Q D A nL N' ad' g' k n pc lv (rest)) : ∀ (r : Option Value) (N' : Nat) (ad' : Nat → Nat) (g' : Nat → va_E), rV Qz r N' ad' g' → zV p l e R s m args below meth c Q D A nL N' ad' g' k n pc lv (r.toList ++ rest) := by
  rintro r N' ad' g' ⟨rfl, hq⟩
  exact h N' ad' g' hq
theorem kR {Qz : Nat → Nat → (Nat → Nat) → (Nat → va_E) → Prop} (h : ∀ (a : Nat) (N' : Nat) (ad' : Nat → Nat) (g' : Nat → va_E), Qz a N' ad' g' → zV p l e R s m args below meth c Q D A nL N' ad' g' k n pc lv (.ref a :: rest)) : ∀ (r : Option Value) (N' : Nat) (ad' : Nat → Nat) (g' : Nat → va_E), rR Qz r N' ad' g' → zV p l e R s m args below meth c Q D A nL N' ad' g' k n pc lv (r.toList ++ rest) := by
  rintro r N' ad' g' ⟨a, rfl, hq⟩
  exact h a N' ad' g' hq
theorem kI0 {Qz : Int → (Nat → va_E) → Prop} (h : ∀ (z : Int) (g' : Nat → va_E), Qz z g' → zV p l e R s m args below meth c Q D A nL N ad g' k n pc lv (.int (zI z) :: rest)) : ∀ (r : Option Value) (N' : Nat) (ad' : Nat → Nat) (g' : Nat → va_E), rI0 N ad Qz r N' ad' g' → zV p l e R s m args below meth c Q D A nL N' ad' g' k n pc lv (r.toList ++ rest) := by
  rintro r N' ad' g' ⟨z, rfl, rfl, rfl, hq⟩
  exact h z g' hq
theorem kV0 {Qz : (Nat → va_E) → Prop} (h : ∀ (g' : Nat → va_E), Qz g' → zV p l e R s m args below meth c Q D A nL N ad g' k n pc lv (rest)) : ∀ (r : Option Value) (N' : Nat) (ad' : Nat → Nat) (g' : Nat → va_E), rV0 N ad Qz r N' ad' g' → zV p l e R s m args below meth c Q D A nL N' ad' g' k n pc lv (r.toList ++ rest) := by
  rintro r N' ad' g' ⟨rfl, rfl, rfl, hq⟩
  exact h g' hq
theorem kR0 {Qz : Nat → (Nat → va_E) → Prop} (h : ∀ (a : Nat) (g' : Nat → va_E), Qz a g' → zV p l e R s m args below meth c Q D A nL N ad g' k n pc lv (.ref a :: rest)) : ∀ (r : Option Value) (N' : Nat) (ad' : Nat → Nat) (g' : Nat → va_E), rR0 N ad Qz r N' ad' g' → zV p l e R s m args below meth c Q D A nL N' ad' g' k n pc lv (r.toList ++ rest) := by
  rintro r N' ad' g' ⟨a, rfl, rfl, rfl, hq⟩
  exact h a g' hq
end ZM
