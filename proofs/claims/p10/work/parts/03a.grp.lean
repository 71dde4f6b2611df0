section
-- 03a.bytes.lean.txt
/-- byte s (0 the highest) of an int: 0 to 255 -/
def by8 (v : Int) (s : Nat) : Int := (((zI v).toUInt32.toNat >>> (24 - 8 * s)) % 256 : Nat)
/-- such a byte, signed -/
def sB (v : Int) (s : Nat) (y : Int) : Prop := (-128 ≤ y ∧ y ≤ 127) ∧ (y = by8 v s ∨ y = by8 v s - 256)
theorem sh_u : ∀ s : Fin 4, ((zI (24 - 8 * (s.val : Int))).toUInt32 &&& Int32.toUInt32 31).toNat = 24 - 8 * s.val := by decide
theorem sB_c {v x y sh : Int} {s : Nat} (hs : s < 4 ∧ sh = 24 - 8 * (s : Int)) (e1 : ((zI v).toUInt32 >>> ((zI sh).toUInt32 &&& Int32.toUInt32 31)).toInt32 = zI x) (h1 : -2147483648 ≤ x ∧ x ≤ 2147483647) (e2 : (zI x).toInt8.toInt32 = zI y) (h2 : -128 ≤ y ∧ y ≤ 127) : sB v s y := by
  obtain ⟨hs, rfl⟩ := hs
  have e3 : (zI x).toInt8.toInt = y := by
    have e4 := congrArg Int32.toInt e2
    rw [zI_to (by omega)] at e4
    rw [← e4, Int8.toInt_toInt32]
  rw [← e1, Int32.toInt_toInt8] at e3
  have hk := sh_u ⟨s, hs⟩
  have e5 : (((zI v).toUInt32 >>> ((zI (24 - 8 * (s : Int))).toUInt32 &&& Int32.toUInt32 31)).toInt32).toInt = (((zI v).toUInt32 >>> ((zI (24 - 8 * (s : Int))).toUInt32 &&& Int32.toUInt32 31)).toNat : Int).bmod (2 ^ 32) := by
    rw [← Int32.toInt_toBitVec, UInt32.toBitVec_toInt32, BitVec.toInt_eq_toNat_bmod, UInt32.toNat_toBitVec]
  rw [e5, UInt32.toNat_shiftRight] at e3
  have e6 : ((zI (24 - 8 * (s : Int))).toUInt32 &&& Int32.toUInt32 31).toNat % 32 = 24 - 8 * s := by
    rw [show ((zI (24 - 8 * (s : Int))).toUInt32 &&& Int32.toUInt32 31).toNat = 24 - 8 * s from hk]
    omega
  rw [e6, Int.bmod_bmod_of_dvd (by decide)] at e3
  have e7 : by8 v s = (((zI v).toUInt32.toNat >>> (24 - 8 * s) : Nat) : Int) % 256 := by unfold by8; omega
  refine ⟨h2, ?_⟩
  rw [e7, ← e3, Int.bmod_def]
  show (if _ then _ else _) = _ ∨ (if _ then _ else _) = _
  split
  · exact Or.inl rfl
  · exact Or.inr rfl
/-- as the reference takes it -/
theorem by8_r2 {v x y sh : Int} {s : Nat} (hs : s < 4 ∧ sh = 24 - 8 * (s : Int)) (e1 : zI v >>> (zI sh &&& 31) = zI x) (e2 : zI x &&& zI 255 = zI y) (h2 : 0 ≤ y ∧ y ≤ 255) : y = by8 v s := by
  obtain ⟨hs, rfl⟩ := hs
  have hk : ∀ s : Fin 4, (zI (24 - 8 * (s.val : Int)) &&& 31).toBitVec.smod 32 = BitVec.ofNat 32 (24 - 8 * s.val) := by decide
  have e0 := hk ⟨s, hs⟩
  have e3 : (zI y).toBitVec = ((zI v).toBitVec >>> (24 - 8 * s)) &&& 255#32 := by
    rw [← e2, ← e1, Int32.toBitVec_and, Int32.toBitVec_shiftRight, e0, show (zI 255).toBitVec = 255#32 from rfl]
    apply BitVec.eq_of_getLsbD_eq
    intro i hi
    have h255 : ∀ i, i < 32 → (255#32).getLsbD i = decide (i < 8) := by decide
    rw [BitVec.getLsbD_and, BitVec.getLsbD_and, h255 i hi]
    by_cases h8 : i < 8
    · rw [BitVec.sshiftRight_eq', BitVec.getLsbD_sshiftRight, BitVec.getLsbD_ushiftRight]
      rw [show (BitVec.ofNat 32 (24 - 8 * s)).toNat = 24 - 8 * s by rw [BitVec.toNat_ofNat]; omega]
      rw [if_pos (by omega)]
      simp [show ¬ 32 ≤ i by omega]
    · simp [h8]
  have e4 : (zI y).toBitVec.toNat = (((zI v).toBitVec.toNat >>> (24 - 8 * s)) % 256) := by
    rw [e3, BitVec.toNat_and, BitVec.toNat_ushiftRight]
    exact Nat.and_two_pow_sub_one_eq_mod _ 8
  have e5 : y = ((zI y).toBitVec.toNat : Int) := by
    obtain ⟨n, rfl⟩ := Int.eq_ofNat_of_zero_le h2.1
    rw [← zI_nat]
    show (n : Int) = ((Int32.ofNat n).toBitVec.toNat : Int)
    have hn : n < 256 := by omega
    simp
    omega
  rw [e5, e4]
  rfl
end
section
-- 04.calls.lean.txt
/-! ===== contracts ===== -/
abbrev zR : Type := Option Value → Nat → (Nat → Nat) → (Nat → va_E) → Prop
def zPre (D : va_G) (A : Nat → Prop) (cs : Nat → ClassId) (tt : Nat) (N : Nat) (ad : Nat → Nat) (g : Nat → va_E) (avs : List Value) : Array Value → State → Prop := fun v U => v = avs.toArray ∧ zE D A cs tt U ∧ va_P D vwCl (wl N ad g) U.heap ∧ va_D A (wl N ad g)
def zPost (D : va_G) (A : Nat → Prop) (Qr : zR) : Array Value → State → Outcome → State → Prop := fun _ st oc t => ∃ (r : Option Value) (N' : Nat) (ad' : Nat → Nat) (g' : Nat → va_E), oc = .returned r ∧ Qr r N' ad' g' ∧ va_P D vwCl (wl N' ad' g') t.heap ∧ va_D A (wl N' ad' g') ∧ va_F A st t
def zM (l : Launch) (y : MethodName) (cc : ByteArray) (mL : Nat) (ret : Option FieldType) (rm : Room) (D : va_G) (A : Nat → Prop) (cs : Nat → ClassId) (tt : Nat) (N : Nat) (ad : Nat → Nat) (g : Nat → va_E) (avs : List Value) (Qr : zR) : Prop := Met l y (.code y cc mL ret :: AW) rm (zPre D A cs tt N ad g avs) (zPost D A Qr) rm.cells rm.slots A
abbrev rI (Qz : Int → Nat → (Nat → Nat) → (Nat → va_E) → Prop) : zR := fun r N' ad' g' => ∃ z : Int, r = some (.int (zI z)) ∧ Qz z N' ad' g'
abbrev rV (Qz : Nat → (Nat → Nat) → (Nat → va_E) → Prop) : zR := fun r N' ad' g' => r = none ∧ Qz N' ad' g'
abbrev rR (Qz : Nat → Nat → (Nat → Nat) → (Nat → va_E) → Prop) : zR := fun r N' ad' g' => ∃ a : Nat, r = some (.ref a) ∧ Qz a N' ad' g'
abbrev rI0 (N : Nat) (ad : Nat → Nat) (Qz : Int → (Nat → va_E) → Prop) : zR := rI (fun z N' ad' g' => N' = N ∧ ad' = ad ∧ Qz z g')
abbrev rV0 (N : Nat) (ad : Nat → Nat) (Qz : (Nat → va_E) → Prop) : zR := rV (fun N' ad' g' => N' = N ∧ ad' = ad ∧ Qz g')
abbrev rR0 (N : Nat) (ad : Nat → Nat) (Qz : Nat → (Nat → va_E) → Prop) : zR := rR (fun a N' ad' g' => N' = N ∧ ad' = ad ∧ Qz a g')
theorem zPre.blind {D : va_G} {A : Nat → Prop} {cs : Nat → ClassId} {tt N : Nat} {ad : Nat → Nat} {g : Nat → va_E} {avs : List Value} : FrameBlind (zPre D A cs tt N ad g avs) := fun _ _ _ _ h => ⟨h.1, h.2.1.calling, h.2.2.1, h.2.2.2⟩
theorem z_of {l : Launch} {y : MethodName} {cc : ByteArray} {mL : Nat} {ret : Option FieldType} {rm : Room} {D : va_G} {A : Nat → Prop} {cs : Nat → ClassId} {tt N : Nat} {ad : Nat → Nat} {g : Nat → va_E} {avs : List Value} {Qr : zR} (hy : plainName y.cls = true) (hlen : (lg_sl avs).length ≤ mL)
    (body : ∀ (p : Program) (e : Env) (s : State) (m : MethodId) (below : List Frame) (meth : Method) (c : Code), zC p s m avs.toArray c cc mL y.cls D A cs tt → meth.sig.returnType = ret → meth.locks = false → meth.name = y.name →
      zV p l e rm s m avs.toArray below meth c (MQ below (zPost D A Qr) avs.toArray s rm.cells rm.slots A) D A mL N ad g 0 0 0 (lv_args 0 avs) []) : zM l y cc mL ret rm D A cs tt N ad g avs Qr := by
  refine Met.ofW (cc := cc) (maxL := mL) (ret := ret) hy rfl ?_
  intro p e s m args below meth c s₁ B hml hv
  obtain ⟨rfl, hE, hP, hD⟩ := hv
  have hts := atoms_spec (ws := Cond.code y cc mL ret :: AW) B.pre
  have hl := lv_entry avs (n := mL) hlen
  rw [lg_entry_eq]
  exact body p e s m below meth c ⟨B.exec, B.bytes, hml, findClass_of_methodNamed B.named, fun w h => hts w (List.mem_cons_of_mem _ h), hE⟩ B.returns B.notSynchronized (name_of_methodNamed B.named B.method).1 s.heap [] _ hP hD va_S.rf hl
def zWv (y : MethodName) (cb : ByteArray) (mL : Nat) (ret : Option FieldType) : Prop := Cond.instanceMethod y ∈ AW ∧ Cond.selects y.cls y y ∈ AW ∧ Cond.initialized y.cls ∈ AW ∧ Cond.code y cb mL ret ∈ AW
def zWs (y : MethodName) (cb : ByteArray) (mL : Nat) (ret : Option FieldType) : Prop := Cond.static y ∈ AW ∧ Cond.initialized y.cls ∈ AW ∧ Cond.code y cb mL ret ∈ AW
def zWi (y : MethodName) (cb : ByteArray) (mL : Nat) : Prop := Cond.instanceMethod y ∈ AW ∧ Cond.initialized y.cls ∈ AW ∧ Cond.code y cb mL none ∈ AW
section ZM
variable {p : Program} {l : Launch} {e : Env} {R : Room} {s : State} {m : MethodId} {args : Array Value} {below : List Frame} {meth : Method} {c : Code} {Q : State → Prop} {D : va_G} {A : Nat → Prop} {cs : Nat → ClassId} {tt : Nat} {cc : ByteArray} {nL : Nat} {own : String} {N : Nat} {ad : Nat → Nat} {g : Nat → va_E} {k n pc : Nat} {lv lv' : List (Nat × Value)} {rest st : List Value} {Qr : zR} {mc ms : Nat}
theorem z_iret (C : zC p s m args c cc nL own D A cs tt) {z : Int} (hr : meth.sig.returnType = some .int) (hlocks : meth.locks = false) (hdg : decode cc pc = .ok (.ireturn, 1)) (hk : k ≤ mc) (hn : n ≤ ms) (hq : Qr (some (.int (zI z))) N ad g) : zV p l e R s m args below meth c (MQ below (zPost D A Qr) args s mc ms A) D A nL N ad g k n (pc) (lv) ([.int (zI z)]) := fun H locs ls hP hD hS hl => W.widen hk hn (W.iret C.1 C.2.1 hr (fun t ht hW => ⟨_, _, _, _, rfl, hq, by rw [ht]; exact hP, hD, hS.F ht⟩) hS.2.2 hdg hlocks)
theorem z_zret (C : zC p s m args c cc nL own D A cs tt) {z : Int} {ty : FieldType} (hr : meth.sig.returnType = some ty) (hlocks : meth.locks = false) (hdg : decode cc pc = .ok (.ireturn, 1)) (hnz : narrow ty (.int (zI z)) = .int (zI z)) (hk : k ≤ mc) (hn : n ≤ ms) (hq : Qr (some (.int (zI z))) N ad g) : zV p l e R s m args below meth c (MQ below (zPost D A Qr) args s mc ms A) D A nL N ad g k n (pc) (lv) ([.int (zI z)]) := fun H locs ls hP hD hS hl => W.widen hk hn (W.zret C.1 C.2.1 hr hnz (fun t ht hW => ⟨_, _, _, _, rfl, hq, by rw [ht]; exact hP, hD, hS.F ht⟩) hS.2.2 hdg hlocks)
theorem z_vret (C : zC p s m args c cc nL own D A cs tt) (hr : meth.sig.returnType = none) (hlocks : meth.locks = false) (hdg : decode cc pc = .ok (.return_, 1)) (hk : k ≤ mc) (hn : n ≤ ms) (hq : Qr none N ad g) : zV p l e R s m args below meth c (MQ below (zPost D A Qr) args s mc ms A) D A nL N ad g k n (pc) (lv) ([]) := fun H locs ls hP hD hS hl => W.widen hk hn (W.vret C.1 C.2.1 hr (fun t ht hW => ⟨_, _, _, _, rfl, hq, by rw [ht]; exact hP, hD, hS.F ht⟩) hS.2.2 hdg hlocks)
theorem z_aret (C : zC p s m args c cc nL own D A cs tt) {a : Nat} {rt : FieldType} (hr : meth.sig.returnType = some rt) (hrt : (∃ n, rt = .object n) ∨ ∃ t, rt = .array t) (hlocks : meth.locks = false) (hdg : decode cc pc = .ok (.areturn, 1)) (hk : k ≤ mc) (hn : n ≤ ms) (hq : Qr (some (.ref a)) N ad g) : zV p l e R s m args below meth c (MQ below (zPost D A Qr) args s mc ms A) D A nL N ad g k n (pc) (lv) ([.ref a]) := fun H locs ls hP hD hS hl => W.widen hk hn (W.aret C.1 C.2.1 hr hrt (Or.inr ⟨a, rfl⟩) (fun t ht hW => ⟨_, _, _, _, rfl, hq, by rw [ht]; exact hP, hD, hS.F ht⟩) hS.2.2 hdg hlocks)
theorem z_widen {k2 n2 : Nat} (hk : k ≤ k2) (hn : n ≤ n2) (kk : zV p l e R s m args below meth c Q D A nL N ad g k2 n2 (pc) (lv) (st)) : zV p l e R s m args below meth c Q D A nL N ad g k n (pc) (lv) (st) := fun H locs ls hP hD hS hl => W.widen hk hn (kk H locs ls hP hD hS hl)
theorem z_lv (ks : List Nat) (h : lv_pick lv ks = lv') (kk : zV p l e R s m args below meth c Q D A nL N ad g k n (pc) (lv') (st)) : zV p l e R s m args below meth c Q D A nL N ad g k n (pc) (lv) (st) := fun H locs ls hP hD hS hl => kk H locs ls hP hD hS (lv_sub hl ks h)
theorem z_objInit (C : zC p s m args c cc nL own D A cs tt) {v : Nat} {idx : Nat} (hlk : Cond.methodLink own idx Lib.objectInit ∈ AW) (hw : Cond.instanceMethod Lib.objectInit ∈ AW) (hcd : Cond.code Lib.objectInit ⟨#[0xb1]⟩ 1 none ∈ AW) (hd : decode cc pc = .ok (.invokespecial idx, 3)) (hframes : 1 ≤ R.frames) (hlocals : (rest.map fun v => v.category).sum + 12 ≤ R.locals) (kk : zV p l e R s m args below meth c Q D A nL N ad g k n (pc + 3) (lv) (rest)) : zV p l e R s m args below meth c Q D A nL N ad g k n (pc) (lv) (.ref v :: rest) := fun H locs ls hP hD hS hl => W.objInit C.1 C.2.1 C.2.2.2.1 (C.2.2.2.2.1 _ hlk) (C.2.2.2.2.1 _ hw) (C.2.2.2.2.1 _ hcd) rfl (by rw [C.2.2.1]; exact hl.1) rfl hd hframes (by show 2 * 0 + _ + 12 ≤ _; omega) (kk H locs ls hP hD hS hl)
theorem z_run {As : Array Value} {H : Heap} {locs : List Loc} {ls : Array Slot} {rm : Room} (hr : va_Run p l e R s m args below meth c H locs k n rm.cells rm.slots (F0 m pc ls st) rest (zPost D A Qr As) A) (hS : va_S A s.heap H locs) (hl : lv_has ls nL lv)
    (kk : ∀ (r : Option Value) (N' : Nat) (ad' : Nat → Nat) (g' : Nat → va_E), Qr r N' ad' g' → zV p l e R s m args below meth c Q D A nL N' ad' g' (k + rm.cells) (n + rm.slots) (pc + 3) (lv) (r.toList ++ rest)) : W p l e R s m args below meth c H locs k n Q (F0 m pc ls st) := by
  intro T hT X
  obtain ⟨v, st₀, t, T', L, h0, X', hL, e1, e2, ⟨r, N', ad', g', hv, hq, hP, hD, hz, hk⟩, st9⟩ := hr T hT X
  cases hv
  rw [h0] at hz hk
  obtain ⟨t2, a1, b1⟩ := kk v N' ad' g' hq T'.heap (locs ++ L) ls (by rw [e1]; exact hP) hD ⟨Nat.le_trans hS.1 (by rw [e1]; exact hz), fun q h1 h2 => by rw [e1, hk q (Nat.lt_of_lt_of_le h1 hS.1) h2]; exact hS.2.1 q h1 h2, fun q hq => by
      rcases List.mem_append.mp hq with h | h
      · exact hS.2.2 q h
      · exact hL q h⟩ hl T' rfl X'
  exact ⟨t2, st9 t2 a1, b1⟩
theorem z_preS {avs : List Value} {H : Heap} {locs : List Loc} (C : zC p s m args c cc nL own D A cs tt) (hP : va_P D vwCl (wl N ad g) H) (hD : va_D A (wl N ad g)) (hS : va_S A s.heap H locs) : PreS s H (zPre D A cs tt N ad g avs) avs :=
  ⟨zPre.blind, fun U hU hW => ⟨rfl, C.2.2.2.2.2.next hS hU hW, by rw [hU]; exact hP, hD⟩⟩
theorem z_cV (C : zC p s m args c cc nL own D A cs tt) {y : MethodName} {cb : ByteArray} {mL index : Nat} {ret : Option FieldType} {rm : Room} {As : List Value} {i a ci : Nat} {fs : List Value} {q : vw_C} (hM : zM l y cb mL ret rm D A cs tt N ad g (.ref a :: As) Qr) (hi : i < N) (ha : ad i = a) (hg : g i = oC ci fs) (hc : vwCl[ci]? = some q) (hq : q.1 = y.cls) (hw : zWv y cb mL ret) (hlk : Cond.methodLink own index y ∈ AW) (hd : y.cls ≠ "java/lang/invoke/MethodHandle" ∧ y.cls ≠ "java/lang/invoke/VarHandle" ∧ (parseMethodDescriptor y.desc).map (fun d => d.parameters.length) = some As.length) (hR : rm.frames + 1 ≤ R.frames ∧ 8 + (mL + 11) + rm.locals ≤ R.locals) (hrest : (rest.map fun v => v.category).sum ≤ 8) (hf : k + rm.cells ≤ R.cells ∧ n + rm.slots ≤ R.slots) (hdg : decode cc pc = .ok (.invokevirtual index, 3)) (hst : st = As.reverse ++ .ref a :: rest)
    (kk : ∀ (r : Option Value) (N' : Nat) (ad' : Nat → Nat) (g' : Nat → va_E), Qr r N' ad' g' → zV p l e R s m args below meth c Q D A nL N' ad' g' (k + rm.cells) (n + rm.slots) (pc + 3) (lv) (r.toList ++ rest)) : zV p l e R s m args below meth c Q D A nL N ad g k n (pc) (lv) (st) := fun H locs ls hP hD hS hl => by
  have hG : GoodIn AW (wsV own index y.cls y (Cond.code y cb mL ret :: AW)) := AW_in (fun w h => by
    rcases List.mem_append.mp h with h | h
    · rcases List.mem_cons.mp h with rfl | h
      · exact hlk
      · rcases List.mem_cons.mp h with rfl | h
        · exact hw.1
        · rcases List.mem_cons.mp h with rfl | h
          · exact hw.2.1
          · rcases List.mem_cons.mp h with rfl | h
            · exact hw.2.2.1
            · exact absurd h List.not_mem_nil
    · rcases List.mem_cons.mp h with rfl | h
      · exact hw.2.2.2
      · exact h)
  have hrc : ∃ cell : Cell, H[a]? = some cell ∧ cell.vm.isStatics = false ∧ s.vm.findClass y.cls = some cell.cls := by
    rw [← hq]; exact va_recv C.2.2.2.2.2.1 hP hc ((wl_at hi).trans (by rw [hg, ha]))
  exact z_run (va_runV (As := As) (rest := rest) ⟨C.1, C.2.1, C.2.2.1, C.2.2.2.1, C.2.2.2.2.1⟩ hM (cwV As.length C.2.2.2.2.1 hG rfl rfl rfl ⟨rfl, hd⟩ hR) ⟨zPre.blind, hrc, (z_preS C hP hD hS).2⟩ rfl rfl hl.1 hst (lv_room hrest) hdg hf) hS hl kk
theorem z_cS (C : zC p s m args c cc nL own D A cs tt) {y : MethodName} {cb : ByteArray} {mL index : Nat} {ret : Option FieldType} {rm : Room} {As : List Value} (hM : zM l y cb mL ret rm D A cs tt N ad g As Qr) (hw : zWs y cb mL ret) (hlk : Cond.methodLink own index y ∈ AW) (hd : y.cls ≠ "java/lang/invoke/MethodHandle" ∧ y.cls ≠ "java/lang/invoke/VarHandle" ∧ (parseMethodDescriptor y.desc).map (fun d => d.parameters.length) = some As.length) (hR : rm.frames + 1 ≤ R.frames ∧ 8 + (mL + 11) + rm.locals ≤ R.locals) (hrest : (rest.map fun v => v.category).sum ≤ 8) (hf : k + rm.cells ≤ R.cells ∧ n + rm.slots ≤ R.slots) (hdg : decode cc pc = .ok (.invokestatic index, 3)) (hst : st = As.reverse ++ rest)
    (kk : ∀ (r : Option Value) (N' : Nat) (ad' : Nat → Nat) (g' : Nat → va_E), Qr r N' ad' g' → zV p l e R s m args below meth c Q D A nL N' ad' g' (k + rm.cells) (n + rm.slots) (pc + 3) (lv) (r.toList ++ rest)) : zV p l e R s m args below meth c Q D A nL N ad g k n (pc) (lv) (st) := fun H locs ls hP hD hS hl => by
  have hG : GoodIn AW (va_wsS own index y (Cond.code y cb mL ret :: AW)) := AW_in (fun w h => by
    rcases List.mem_append.mp h with h | h
    · rcases List.mem_cons.mp h with rfl | h
      · exact hlk
      · rcases List.mem_cons.mp h with rfl | h
        · exact hw.1
        · rcases List.mem_cons.mp h with rfl | h
          · exact hw.2.1
          · exact absurd h List.not_mem_nil
    · rcases List.mem_cons.mp h with rfl | h
      · exact hw.2.2
      · exact h)
  exact z_run (va_runS (As := As) (rest := rest) ⟨C.1, C.2.1, C.2.2.1, C.2.2.2.1, C.2.2.2.2.1⟩ hM (va_cwS As.length C.2.2.2.2.1 hG rfl rfl rfl hd hR) (z_preS C hP hD hS) rfl rfl hl.1 hst (lv_room hrest) hdg hf) hS hl kk
theorem AW_cons {w0 : Cond} (h0 : w0 ∈ AW) : GoodIn AW (w0 :: AW) := AW_in (fun w h => by
    rcases List.mem_cons.mp h with rfl | h
    · exact h0
    · exact h)
theorem z_cI (C : zC p s m args c cc nL own D A cs tt) {y : MethodName} {cb : ByteArray} {mL index : Nat} {rm : Room} {As : List Value} {b : Nat} (hM : zM l y cb mL none rm D A cs tt N ad g (.ref b :: As) Qr) (hw : zWi y cb mL) (hlk : Cond.methodLink own index y ∈ AW) (hin : y.name = "<init>") (hd : y.cls ≠ "java/lang/invoke/MethodHandle" ∧ y.cls ≠ "java/lang/invoke/VarHandle" ∧ (parseMethodDescriptor y.desc).map (fun d => d.parameters.length) = some As.length) (hR : rm.frames + 1 ≤ R.frames ∧ 8 + (mL + 11) + rm.locals ≤ R.locals) (hrest : (rest.map fun v => v.category).sum ≤ 8) (hf : k + rm.cells ≤ R.cells ∧ n + rm.slots ≤ R.slots) (hdg : decode cc pc = .ok (.invokespecial index, 3)) (hst : st = As.reverse ++ .ref b :: rest)
    (kk : ∀ (r : Option Value) (N' : Nat) (ad' : Nat → Nat) (g' : Nat → va_E), Qr r N' ad' g' → zV p l e R s m args below meth c Q D A nL N' ad' g' (k + rm.cells) (n + rm.slots) (pc + 3) (lv) (r.toList ++ rest)) : zV p l e R s m args below meth c Q D A nL N ad g k n (pc) (lv) (st) := fun H locs ls hP hD hS hl => by
  exact z_run (va_runI (As := As) (rest := rest) ⟨C.1, C.2.1, C.2.2.1, C.2.2.2.1, C.2.2.2.2.1⟩ hM (cwI As.length C.2.2.2.2.1 (AW_cons hw.2.2) rfl rfl rfl (C.2.2.2.2.1 _ hw.2.1) (C.2.2.2.2.1 _ hlk) (C.2.2.2.2.1 _ hw.1) hin hd hR) (z_preS C hP hD hS) rfl rfl hl.1 hst (lv_room hrest) hdg hf) hS hl kk
theorem z_cIN (C : zC p s m args c cc nL own D A cs tt) {y : MethodName} {cb : ByteArray} {mL index : Nat} {rm : Room} {As : List Value} {b : Nat} {host : String} (hM : zM l y cb mL none rm D A cs tt N ad g (.ref b :: As) Qr) (hw : zWi y cb mL) (hlk : Cond.methodLinkNest own index y host ∈ NW) (hin : y.name = "<init>") (hd : y.cls ≠ "java/lang/invoke/MethodHandle" ∧ y.cls ≠ "java/lang/invoke/VarHandle" ∧ (parseMethodDescriptor y.desc).map (fun d => d.parameters.length) = some As.length) (hR : rm.frames + 1 ≤ R.frames ∧ 8 + (mL + 11) + rm.locals ≤ R.locals) (hrest : (rest.map fun v => v.category).sum ≤ 8) (hf : k + rm.cells ≤ R.cells ∧ n + rm.slots ≤ R.slots) (hdg : decode cc pc = .ok (.invokespecial index, 3)) (hst : st = As.reverse ++ .ref b :: rest)
    (kk : ∀ (r : Option Value) (N' : Nat) (ad' : Nat → Nat) (g' : Nat → va_E), Qr r N' ad' g' → zV p l e R s m args below meth c Q D A nL N' ad' g' (k + rm.cells) (n + rm.slots) (pc + 3) (lv) (r.toList ++ rest)) : zV p l e R s m args below meth c Q D A nL N ad g k n (pc) (lv) (st) := fun H locs ls hP hD hS hl => by
  exact z_run (va_runIN (As := As) (rest := rest) ⟨C.1, C.2.1, C.2.2.1, C.2.2.2.1, C.2.2.2.2.1⟩ hM ⟨va_cnB As.length C.2.2.2.2.1 (AW_cons hw.2.2) rfl rfl rfl (C.2.2.2.2.2.2.1 _ hlk) (C.2.2.2.2.1 _ hw.2.1) hd hR, hin, C.2.2.2.2.1 _ hw.1⟩ (z_preS C hP hD hS) rfl rfl hl.1 hst (lv_room hrest) hdg hf) hS hl kk
theorem z_cSN (C : zC p s m args c cc nL own D A cs tt) {y : MethodName} {cb : ByteArray} {mL index : Nat} {ret : Option FieldType} {rm : Room} {As : List Value} {host : String} (hM : zM l y cb mL ret rm D A cs tt N ad g As Qr) (hw : zWs y cb mL ret) (hlk : Cond.methodLinkNest own index y host ∈ NW) (hd : y.cls ≠ "java/lang/invoke/MethodHandle" ∧ y.cls ≠ "java/lang/invoke/VarHandle" ∧ (parseMethodDescriptor y.desc).map (fun d => d.parameters.length) = some As.length) (hR : rm.frames + 1 ≤ R.frames ∧ 8 + (mL + 11) + rm.locals ≤ R.locals) (hrest : (rest.map fun v => v.category).sum ≤ 8) (hf : k + rm.cells ≤ R.cells ∧ n + rm.slots ≤ R.slots) (hdg : decode cc pc = .ok (.invokestatic index, 3)) (hst : st = As.reverse ++ rest)
    (kk : ∀ (r : Option Value) (N' : Nat) (ad' : Nat → Nat) (g' : Nat → va_E), Qr r N' ad' g' → zV p l e R s m args below meth c Q D A nL N' ad' g' (k + rm.cells) (n + rm.slots) (pc + 3) (lv) (r.toList ++ rest)) : zV p l e R s m args below meth c Q D A nL N ad g k n (pc) (lv) (st) := fun H locs ls hP hD hS hl => by
  exact z_run (va_runSN (As := As) (rest := rest) ⟨C.1, C.2.1, C.2.2.1, C.2.2.2.1, C.2.2.2.2.1⟩ hM ⟨va_cnB As.length C.2.2.2.2.1 (AW_cons hw.2.2) rfl rfl rfl (C.2.2.2.2.2.2.1 _ hlk) (C.2.2.2.2.1 _ hw.2.1) hd hR, C.2.2.2.2.1 _ hw.1, trivial⟩ (z_preS C hP hD hS) rfl rfl hl.1 hst (lv_room hrest) hdg hf) hS hl kk
theorem kI {Qz : Int → Nat → (Nat → Nat) → (Nat → va_E) → Prop} (h : ∀ (z : Int) (N' : Nat) (ad' : Nat → Nat) (g' : Nat → va_E), Qz z N' ad' g' → zV p l e R s m args below meth c Q D A nL N' ad' g' k n pc lv (.int (zI z) :: rest)) : ∀ (r : Option Value) (N' : Nat) (ad' : Nat → Nat) (g' : Nat → va_E), rI Qz r N' ad' g' → zV p l e R s m args below meth c Q D A nL N' ad' g' k n pc lv (r.toList ++ rest) := by
  rintro r N' ad' g' ⟨z, rfl, hq⟩
  exact h z N' ad' g' hq
theorem kV {Qz : Nat → (Nat → Nat) → (Nat → va_E) → Prop} (h : ∀ (N' : Nat) (ad' : Nat → Nat) (g' : Nat → va_E), Qz N' ad' g' → zV p l e R s m args below meth c Q D A nL N' ad' g' k n pc lv (rest)) : ∀ (r : Option Value) (N' : Nat) (ad' : Nat → Nat) (g' : Nat → va_E), rV Qz r N' ad' g' → zV p l e R s m args below meth c Q D A nL N' ad' g' k n pc lv (r.toList ++ rest) := by
  rintro r N' ad' g' ⟨rfl, hq⟩
  exact h N' ad' g' hq
theorem kR {Qz : Nat → Nat → (Nat → Nat) → (Nat → va_E) → Prop} (h : ∀ (a : Nat) (N' : Nat) (ad' : Nat → Nat) (g' : Nat → va_E), Qz a N' ad' g' → zV p l e R s m args below meth c Q D A nL N' ad' g' k n pc lv (.ref a :: rest)) : ∀ (r : Option Value) (N' : Nat) (ad' : Nat → Nat) (g' : Nat → va_E), rR Qz r N' ad' g' → zV p l e R s m args below meth c Q D A nL N' ad' g' k n pc lv (r.toList ++ rest) := by
  rintro r N' ad' g' ⟨a, rfl, hq⟩
  exact h a N' ad' g' hq
theorem kI0 {Qz : Int → (Nat → va_E) → Prop} (h : ∀ (z : Int) (g' : Nat → va_E), Qz z g' → zV p l e R s m args below meth c Q D A nL N ad g' k n pc lv (.int (zI z) :: rest)) : ∀ (r : Option Value) (N' : Nat) (ad' : Nat → Nat) (g' : Nat → va_E), rI0 N ad Qz r N' ad' g' → zV p l e R s m args below meth c Q D A nL N' ad' g' k n pc lv (r.toList ++ rest) := by
  rintro r N' ad' g' ⟨z, rfl, rfl, rfl, hq⟩
  exact h z g' hq
theorem kV0 {Qz : (Nat → va_E) → Prop} (h : ∀ (g' : Nat → va_E), Qz g' → zV p l e R s m args below meth c Q D A nL N ad g' k n pc lv (rest)) : ∀ (r : Option Value) (N' : Nat) (ad' : Nat → Nat) (g' : Nat → va_E), rV0 N ad Qz r N' ad' g' → zV p l e R s m args below meth c Q D A nL N' ad' g' k n pc lv (r.toList ++ rest) := by
  rintro r N' ad' g' ⟨rfl, rfl, rfl, hq⟩
  exact h g' hq
theorem kR0 {Qz : Nat → (Nat → va_E) → Prop} (h : ∀ (a : Nat) (g' : Nat → va_E), Qz a g' → zV p l e R s m args below meth c Q D A nL N ad g' k n pc lv (.ref a :: rest)) : ∀ (r : Option Value) (N' : Nat) (ad' : Nat → Nat) (g' : Nat → va_E), rR0 N ad Qz r N' ad' g' → zV p l e R s m args below meth c Q D A nL N' ad' g' k n pc lv (r.toList ++ rest) := by
  rintro r N' ad' g' ⟨a, rfl, rfl, rfl, hq⟩
  exact h a g' hq
end ZM
end
section
-- 05.alloc.lean.txt
theorem zRA_fc {U : State} {cA : ClassId} {ty : FieldType} (h : va_RA U cA ty) : U.vm.findClass ("[" ++ ty.toString) = some cA := by
  cases ty with
  | object Cn => obtain ⟨_, _, _, _, _, h4⟩ := h; exact h4
  | _ => exact h
theorem zK_cls {D : va_G} {cs : Nat → ClassId} {s : State} {cA cB : ClassId} {ty : FieldType} (t : Nat) (ht : (tyL cs)[t]? = some (cB, ty)) (hK : va_K D vwCl (tyL cs ++ [(cA, ty)]) s) : cA = cB := by
  have h1 := zRA_fc (hK.2 (tyL cs).length _ (by rw [List.getElem?_append_right (Nat.le_refl _), Nat.sub_self]; rfl)).2
  have hlt : t < (tyL cs).length := (List.getElem?_eq_some_iff.mp ht).1
  have h2 := zRA_fc (hK.2 t _ (by rw [List.getElem?_append_left hlt]; exact ht)).2
  exact Option.some.inj (h1.symm.trans h2)
section ZA
variable {p : Program} {l : Launch} {e : Env} {R : Room} {s : State} {m : MethodId} {args : Array Value} {below : List Frame} {meth : Method} {c : Code} {Q : State → Prop} {D : va_G} {A : Nat → Prop} {cs : Nat → ClassId} {tt : Nat} {cc : ByteArray} {nL : Nat} {own : String} {N : Nat} {ad : Nat → Nat} {g : Nat → va_E} {k n pc : Nat} {lv lv' : List (Nat × Value)} {rest st : List Value}
theorem z_newI (C : zC p s m args c cc nL own D A cs tt) {z : Int} (M : Nat) (hz : z = (M : Int)) (hw : Cond.arrayClass .int ∈ AW) (hM : M * componentBytes .int ≤ 536870912 ∧ M ≤ 2147483647) (hcells : k + 1 ≤ R.cells) (hslots : n + M ≤ R.slots) (hdg : decode cc pc = .ok (.newarray .int, 2)) (kk : ∀ (q : Nat) (ad' : Nat → Nat) (g' : Nat → va_E), ad' = va_up ad N q → g' = va_up g N (iA cs M (fun _ => 0)) → zV p l e R s m args below meth c Q D A nL (N + 1) ad' g' (k + 1) (n + M) (pc + 2) (lv) (.ref q :: rest)) : zV p l e R s m args below meth c Q D A nL N ad g k n (pc) (lv) (.int (zI z) :: rest) := by
  subst hz
  exact fun H locs ls hP hD hS hl => va_newa (atype := .int) (ty := .int) (a0 := (M, .inl (fun _ => zI 0))) (N' := M) C.1 C.2.1 (C.2.2.2.2.1 _ hw) rfl C.2.2.2.2.2.1 hP hD hS C.2.2.2.2.2.2.2.1 (fun cA => rfl) (by rw [← zI_0, zI_lt (by omega) (by omega)]; omega) (zI_clN hM.2) hM.1 hcells hslots hdg (fun q cA H1 hK1 hP1 hD1 hS1 => by
    obtain rfl := zK_cls 1 rfl hK1
    rw [wl_push] at hP1 hD1
    exact kk q _ _ rfl rfl H1 locs ls hP1 hD1 hS1 hl)
theorem z_newB (C : zC p s m args c cc nL own D A cs tt) {z : Int} (M : Nat) (hz : z = (M : Int)) (hw : Cond.arrayClass .byte ∈ AW) (hM : M * componentBytes .byte ≤ 536870912 ∧ M ≤ 2147483647) (hcells : k + 1 ≤ R.cells) (hslots : n + M ≤ R.slots) (hdg : decode cc pc = .ok (.newarray .byte, 2)) (kk : ∀ (q : Nat) (ad' : Nat → Nat) (g' : Nat → va_E), ad' = va_up ad N q → g' = va_up g N (bA cs M (fun _ => 0)) → zV p l e R s m args below meth c Q D A nL (N + 1) ad' g' (k + 1) (n + M) (pc + 2) (lv) (.ref q :: rest)) : zV p l e R s m args below meth c Q D A nL N ad g k n (pc) (lv) (.int (zI z) :: rest) := by
  subst hz
  exact fun H locs ls hP hD hS hl => va_newa (atype := .byte) (ty := .byte) (a0 := (M, .inl (fun _ => zI 0))) (N' := M) C.1 C.2.1 (C.2.2.2.2.1 _ hw) rfl C.2.2.2.2.2.1 hP hD hS C.2.2.2.2.2.2.2.1 (fun cA => rfl) (by rw [← zI_0, zI_lt (by omega) (by omega)]; omega) (zI_clN hM.2) hM.1 hcells hslots hdg (fun q cA H1 hK1 hP1 hD1 hS1 => by
    obtain rfl := zK_cls 0 rfl hK1
    rw [wl_push] at hP1 hD1
    exact kk q _ _ rfl rfl H1 locs ls hP1 hD1 hS1 hl)
theorem z_newJ (C : zC p s m args c cc nL own D A cs tt) {z : Int} (M : Nat) (hz : z = (M : Int)) (hw : Cond.arrayClass .long ∈ AW) (hM : M * componentBytes .long ≤ 536870912 ∧ M ≤ 2147483647) (hcells : k + 1 ≤ R.cells) (hslots : n + M ≤ R.slots) (hdg : decode cc pc = .ok (.newarray .long, 2)) (kk : ∀ (q : Nat) (ad' : Nat → Nat) (g' : Nat → va_E), ad' = va_up ad N q → g' = va_up g N (jA cs M (fun _ => 0)) → zV p l e R s m args below meth c Q D A nL (N + 1) ad' g' (k + 1) (n + M) (pc + 2) (lv) (.ref q :: rest)) : zV p l e R s m args below meth c Q D A nL N ad g k n (pc) (lv) (.int (zI z) :: rest) := by
  subst hz
  exact fun H locs ls hP hD hS hl => va_newa (atype := .long) (ty := .long) (a0 := (M, .inr (.inl (fun _ => zJ 0)))) (N' := M) C.1 C.2.1 (C.2.2.2.2.1 _ hw) rfl C.2.2.2.2.2.1 hP hD hS C.2.2.2.2.2.2.2.1 (fun cA => rfl) (by rw [← zI_0, zI_lt (by omega) (by omega)]; omega) (zI_clN hM.2) hM.1 hcells hslots hdg (fun q cA H1 hK1 hP1 hD1 hS1 => by
    obtain rfl := zK_cls 2 rfl hK1
    rw [wl_push] at hP1 hD1
    exact kk q _ _ rfl rfl H1 locs ls hP1 hD1 hS1 hl)
theorem z_newR (C : zC p s m args c cc nL own D A cs tt) {Cn : String} {cA0 : ClassId} {index : Nat} {z : Int} (t M : Nat) (hz : z = (M : Int)) (ht : (tyL cs)[t]? = some (cA0, .object Cn)) (hw : Cond.classLink own index Cn ∈ AW) (ho : va_AO Cn s) (hM : M * 4 ≤ 536870912 ∧ M ≤ 2147483647) (hcells : k + 1 ≤ R.cells) (hslots : n + M ≤ R.slots) (hdg : decode cc pc = .ok (.anewarray index, 3)) (kk : ∀ (q : Nat) (ad' : Nat → Nat) (g' : Nat → va_E), ad' = va_up ad N q → g' = va_up g N (rA cA0 M (fun _ => none)) → zV p l e R s m args below meth c Q D A nL (N + 1) ad' g' (k + 1) (n + M) (pc + 3) (lv) (.ref q :: rest)) : zV p l e R s m args below meth c Q D A nL N ad g k n (pc) (lv) (.int (zI z) :: rest) := by
  subst hz
  exact fun H locs ls hP hD hS hl => va_newq (N' := M) C.1 C.2.1 C.2.2.2.1 (C.2.2.2.2.1 _ hw) ho C.2.2.2.2.2.1 hP hD hS C.2.2.2.2.2.2.2.1 (by rw [← zI_0, zI_lt (by omega) (by omega)]; omega) (zI_clN hM.2) hM.1 hcells hslots hdg (fun q cA H1 hK1 hP1 hD1 hS1 => by
    obtain rfl := zK_cls t ht hK1
    rw [wl_push] at hP1 hD1
    exact kk q _ _ rfl rfl H1 locs ls hP1 hD1 hS1 hl)
theorem z_getT (C : zC p s m args c cc nL own D A cs tt) {index : Nat} {host : String} (hw : Cond.fieldLinkNest own index RX9 "TABLE" "[I" host ∈ NW) (hdg : decode cc pc = .ok (.getstatic index, 3)) (kk : zV p l e R s m args below meth c Q D A nL N ad g k n (pc + 3) (lv) (.ref tt :: rest)) : zV p l e R s m args below meth c Q D A nL N ad g k n (pc) (lv) (rest) := fun H locs ls hP hD hS hl => va_getsN C.1 C.2.1 C.2.2.2.2.2.2.2.2.2.1.1 hS C.2.2.2.1 (NW_use hw (C.2.2.2.2.2.2.1 _ hw)) (fun _ h => h) hdg (kk H locs ls hP hD hS hl)
theorem zTB_cell {H : Heap} {locs : List Loc} (hE : zE D A cs tt s) (hS : va_S A s.heap H locs) : ∃ cell : Cell, H[tt]? = some cell ∧ s.isArrayOf cell .int ∧ cell.vm ≠ .unknown ∧ cell.cls = cs 1 ∧ cell.slots = (arrV (cs 1) 15 (fun j => .int (zI (tabZ j)))).slots ∧ s.vm.findClass "[I" = some cell.cls ∧ ¬ A tt := by
  obtain ⟨cell, h1, h2, h3, h4, h5, h6, h7⟩ := hE.2.2.2.2.1.2.1
  have hc : s.vm.findClass "[I" = some (cs 1) := zRA_fc (hE.1.2 1 _ rfl).2
  refine ⟨cell, by rw [hS.2.1 tt (Array.getElem?_eq_some_iff.mp h1).1 h7]; exact h1, h2, h3, Option.some.inj (h6.symm.trans hc), ?_, h6, h7⟩
  apply Array.ext_getElem?
  intro j
  by_cases hj : j < 15
  · rw [h5 j hj, arrV_read _ _ hj]
  · rw [Array.getElem?_eq_none (by omega), Array.getElem?_eq_none (by rw [arrV_size]; omega)]
theorem z_cloneT (C : zC p s m args c cc nL own D A cs tt) {index : Nat} (hlk : Cond.methodLink own index ⟨"[I", "clone", "()Ljava/lang/Object;"⟩ ∈ AW) (hsm : Cond.sameMethod "[I" "java/lang/Object" "clone" "()Ljava/lang/Object;" ∈ AW) (hnat : Cond.native ⟨"java/lang/Object", "clone", "()Ljava/lang/Object;"⟩ ∈ AW) (hinst : Cond.instanceMethod ⟨"java/lang/Object", "clone", "()Ljava/lang/Object;"⟩ ∈ AW)
    (hsel : Cond.selects "[I" ⟨"[I", "clone", "()Ljava/lang/Object;"⟩ ⟨"java/lang/Object", "clone", "()Ljava/lang/Object;"⟩ ∈ AW) (hcl : Cond.castable "[I" "java/lang/Cloneable" ∈ NW) (hframes : 1 ≤ R.frames) (hlocals : (rest.map fun v => v.category).sum + 14 ≤ R.locals) (hcells : k + 1 ≤ R.cells) (hslots : n + 15 ≤ R.slots) (hdg : decode cc pc = .ok (.invokevirtual index, 3))
    (kk : ∀ (q : Nat) (ad' : Nat → Nat) (g' : Nat → va_E), ad' = va_up ad N q → g' = va_up g N (iA cs 15 tabZ) → zV p l e R s m args below meth c Q D A nL (N + 1) ad' g' (k + 1) (n + 15) (pc + 3) (lv) (.ref q :: rest)) : zV p l e R s m args below meth c Q D A nL N ad g k n (pc) (lv) (.ref tt :: rest) := by
  intro H locs ls hP hD hS hl T hT X
  obtain ⟨cell, hc1, hof, hkn, hcls, hsl, hfc, hnA⟩ := zTB_cell C.2.2.2.2.2 hS
  obtain ⟨c0, t0', f1, f2, f3⟩ := Cond.castable_spec (NW_use (a := args) hcl (C.2.2.2.2.2.2.1 _ hcl))
  cases hfc.symm.trans f1
  obtain ⟨ho1, kS, hkS, compS, hkindS⟩ := hof
  obtain ⟨-, kA, hkA, comp, hkind⟩ := State.isArrayOf_alike X.warmed.alike (⟨ho1, kS, hkS, compS, hkindS⟩ : s.isArrayOf cell .int)
  have hsz : cell.slots.size = 15 := by rw [hsl, arrV_size]
  obtain ⟨vm', X', st9⟩ := X.cloneArray C.1 C.2.2.2.1 (C.2.2.2.2.1 _ hlk) (C.2.2.2.2.1 _ hsm) (C.2.2.2.2.1 _ hnat) (C.2.2.2.2.1 _ hinst) (C.2.2.2.2.1 _ hsel) (a := tt) (cell := cell) (by rw [hT]; exact hc1) ho1 hkn hfc f2 f3
    (fun i v hv => by
      have hk' : T.vm.classes[cell.cls]? = some kA := hkA
      have hv2 : fits .int v = true := by
        by_cases hi : i < 15
        · rw [hsl, arrV_read _ _ hi] at hv
          cases hv
          rfl
        · rw [Array.getElem?_eq_none (by omega)] at hv
          cases hv
      simpa [State.fitsSlot, State.slotType?, hk', hkind] using hv2)
    (g := F0 m pc ls (.ref tt :: rest)) rfl (by rw [C.2.2.1]; exact hl.1) rfl (by rw [C.2.1]; exact hdg) hframes (by show 2 * 0 + _ + 14 ≤ _; omega) hcells (by rw [hsz]; exact hslots) (hloader := Vm.clonesLoader_of_array hkS hkindS)
  have hcE : ({ cls := cell.cls, slots := cell.slots } : Cell) = vp_cell (cs 1) (15, .inl (fun j => zI (tabZ j))) := by rw [hcls, hsl]; rfl
  rw [hcE, hsz] at X'
  generalize hH1 : H.push (vp_cell (cs 1) (15, .inl (fun j => zI (tabZ j)))) = H1
  have e1 : H1[H.size]? = some (vp_cell (cs 1) (15, .inl (fun j => zI (tabZ j)))) := by rw [← hH1, Array.getElem?_push_size]
  have o1 : ∀ q : Nat, q < H.size → H1[q]? = H[q]? := fun q hq => by rw [← hH1, Array.getElem?_push, if_neg (Nat.ne_of_lt hq)]
  have z1 : H1.size = H.size + 1 := by rw [← hH1, Array.size_push]
  have hP1 : va_P D vwCl (wl N ad g ++ [(H.size, iA cs 15 tabZ)]) H1 := (hP.kept (fun k y hy => o1 y.1 ((hP k y hy).lt))).app (fun k y hy => by
      have hz : k < 1 := (List.getElem?_eq_some_iff.mp hy).1
      rw [show k = 0 by omega] at hy
      cases hy
      exact e1)
  have hD1 : va_D A (wl N ad g ++ [(H.size, iA cs 15 tabZ)]) := hD.push hP rfl (C.2.2.2.2.2.2.2.1 _ hS.1)
  rw [wl_push] at hP1 hD1
  obtain ⟨t, b1, b2⟩ := kk H.size _ _ rfl rfl H1 locs ls hP1 hD1 ⟨Nat.le_trans hS.1 (by omega), fun y h1 h2 => (o1 y (Nat.lt_of_lt_of_le h1 hS.1)).trans (hS.2.1 y h1 h2), hS.2.2⟩ hl ((T.setVm vm').pushCell (vp_cell (cs 1) (15, .inl (fun j => zI (tabZ j))))) (by rw [← hH1, ← hT]; rfl) X'
  refine ⟨t, st9 t ?_, b2⟩
  rw [hcE, hT]
  exact b1
theorem z_castI (C : zC p s m args c cc nL own D A cs tt) {i a index M : Nat} {r : Nat → Int} (hi : i < N) (ha : ad i = a) (hg : g i = iA cs M r) (hw : Cond.classLink own index "[I" ∈ AW) (hdg : decode cc pc = .ok (.checkcast index, 3)) (kk : zV p l e R s m args below meth c Q D A nL N ad g k n (pc + 3) (lv) (.ref a :: rest)) : zV p l e R s m args below meth c Q D A nL N ad g k n (pc) (lv) (.ref a :: rest) := fun H locs ls hP hD hS hl => va_castA C.1 C.2.1 C.2.2.2.1 (C.2.2.2.2.1 _ hw) hP i ((wl_at hi).trans (by rw [hg, ha])) (zRA_fc (C.2.2.2.2.2.1.2 1 _ rfl).2) hdg (kk H locs ls hP hD hS hl)
def cZ (f h : Nat → Int) (sp dp n : Nat) : Nat → Int := fun j => if dp ≤ j ∧ j < dp + n then f (sp + (j - dp)) else h j
theorem cZ_cpy (f h : Nat → Int) (sp dp n : Nat) : va_cpy (fun j => zI (f j)) (fun j => zI (h j)) sp dp n = fun j => zI (cZ f h sp dp n j) := by
  funext j
  by_cases hj : dp ≤ j ∧ j < dp + n
  · rw [pk_cpy_in hj.1 hj.2]; simp only [cZ, if_pos hj]
  · rw [pk_cpy_out (by omega)]; simp only [cZ, if_neg hj]
theorem cZ_all {f h : Nat → Int} {n j : Nat} (hj : j < n) : cZ f h 0 0 n j = f j := by
  show (if 0 ≤ j ∧ j < 0 + n then f (0 + (j - 0)) else h j) = f j
  rw [if_pos (by omega)]; congr 1; omega
theorem z_copyI (C : zC p s m args c cc nL own D A cs tt) {index i j a b : Nat} (hlk : Cond.methodLink own index arraycopyName ∈ AW) (hnat : Cond.native arraycopyName ∈ AW) (hstat : Cond.static arraycopyName ∈ AW) (hini : Cond.initialized "java/lang/System" ∈ AW) (hi : i < N) (hj : j < N) (ha : ad i = a) (hb : ad j = b) {M1 M2 : Nat} {f h : Nat → Int} (hg1 : g i = iA cs M1 f) (hg2 : g j = iA cs M2 h) (sp dp L : Nat) {zs zd zn : Int} (h1 : zs = (sp : Int)) (h2 : zd = (dp : Int)) (h3 : zn = (L : Int)) (h4 : sp + L ≤ M1) (h5 : dp + L ≤ M2) (h6 : M1 ≤ 2147483647 ∧ M2 ≤ 2147483647) (hframes : 1 ≤ R.frames) (hlocals : (rest.map fun v => v.category).sum + (nativeFrameWords "java/lang/System" "arraycopy" 5 + 11) ≤ R.locals) (hdg : decode cc pc = .ok (.invokestatic index, 3)) (kk : ∀ g' : Nat → va_E, g' = va_up g j (iA cs M2 (cZ f h sp dp L)) → zV p l e R s m args below meth c Q D A nL N ad g' k n (pc + 3) (lv) (rest)) : zV p l e R s m args below meth c Q D A nL N ad g k n (pc) (lv) (.int (zI zn) :: .int (zI zd) :: .ref b :: .int (zI zs) :: .ref a :: rest) := by
  subst h1; subst h2; subst h3; subst ha; subst hb
  have nn : ∀ x : Nat, x ≤ 2147483647 → ¬ zI (x : Int) < 0 := fun x hx => by rw [← zI_0, zI_lt (by omega) (by omega)]; omega
  exact fun H locs ls hP hD hS hl => va_copyi C.1 C.2.1 (by rw [C.2.2.1]; exact hl.1.symm) C.2.2.2.1 (C.2.2.2.2.1 _ hlk) (C.2.2.2.2.1 _ hnat) (C.2.2.2.2.1 _ hstat) (C.2.2.2.2.1 _ hini) C.2.2.2.2.2.1 hP hD hS i j 1 1 ((wl_at hi).trans (by rw [hg1])) ((wl_at hj).trans (by rw [hg2])) rfl rfl rfl (nn _ (by omega)) (nn _ (by omega)) (nn _ (by omega)) (by rw [zI_clN (by omega), zI_clN (by omega)]; exact h4) (by rw [zI_clN (by omega), zI_clN (by omega)]; exact h5) (fun _ _ => rfl) hframes hlocals hdg (fun H1 locs1 hP1 hD1 hS1 => by
    rw [zI_clN (by omega), zI_clN (by omega), zI_clN (by omega), cZ_cpy, wl_set] at hP1 hD1
    exact kk _ rfl H1 locs1 ls hP1 hD1 hS1 hl)
theorem z_copyT (C : zC p s m args c cc nL own D A cs tt) {index j b : Nat} (hlk : Cond.methodLink own index arraycopyName ∈ AW) (hnat : Cond.native arraycopyName ∈ AW) (hstat : Cond.static arraycopyName ∈ AW) (hini : Cond.initialized "java/lang/System" ∈ AW) (hj : j < N) (hb : ad j = b) {h : Nat → Int} (hg2 : g j = iA cs 15 h) (hframes : 1 ≤ R.frames) (hlocals : (rest.map fun v => v.category).sum + (nativeFrameWords "java/lang/System" "arraycopy" 5 + 11) ≤ R.locals) (hdg : decode cc pc = .ok (.invokestatic index, 3)) (kk : ∀ g' : Nat → va_E, g' = va_up g j (iA cs 15 (cZ tabZ h 0 0 15)) → zV p l e R s m args below meth c Q D A nL N ad g' k n (pc + 3) (lv) (rest)) : zV p l e R s m args below meth c Q D A nL N ad g k n (pc) (lv) (.int (zI 15) :: .int (zI 0) :: .ref b :: .int (zI 0) :: .ref tt :: rest) := by
  subst hb
  intro H locs ls hP hD hS hl T hT X
  obtain ⟨cell, hc0, hof, hkn, hcls, hsl, hfc, hnA⟩ := zTB_cell C.2.2.2.2.2 hS
  have he := (wl_at (ad := ad) (g := g) hj).trans (by rw [hg2])
  have hc1 : H[ad j]? = some (vp_cell (cs 1) (15, .inl (fun k => zI (h k)))) := hP j _ he
  obtain ⟨ho1, k0, hk0, cm0, hkk0⟩ := hof
  obtain ⟨-, k1, hk1, cm1, hkk1⟩ := (C.2.2.2.2.2.1.2 1 _ rfl).1 15 (fun j => .int (zI (h j)))
  have hrd : ∀ j : Nat, j < 15 → cell.slots[j]? = some (.int (zI (tabZ j))) := fun j hj => by rw [hsl, arrV_read _ _ hj]
  have hsz : cell.slots.size = 15 := by rw [hsl, arrV_size]
  have c15 : (zI 15).toNatClampNeg = 15 := zI_clN (k := 15) (by omega)
  have c0 : (zI 0).toNatClampNeg = 0 := rfl
  obtain ⟨vm', X', step⟩ := X.arraycopy C.1 C.2.2.2.1 (C.2.2.2.2.1 _ hlk) (C.2.2.2.2.1 _ hnat) (C.2.2.2.2.1 _ hstat) (C.2.2.2.2.1 _ hini) (src := tt) (dst := ad j) (cs := cell) (cd := vp_cell (cs 1) (15, .inl (fun k => zI (h k)))) (srcPos := zI 0) (destPos := zI 0) (n := zI 15) (by rw [hT]; exact hc0) (by rw [hT]; exact hc1)
    ho1 (fun _ h => by cases h) hkn (fun h => by cases h) hk0 hk1 hkk0 hkk1 (by simp [refKind]) (by decide) (by decide) (by decide)
    (by show ¬ (0 : Int) + 15 > _; rw [hsz]; omega)
    (by show ¬ (0 : Int) + 15 > ((arrV (cs 1) 15 (fun j => .int (zI (h j)))).slots.size : Int); rw [arrV_size]; omega)
    (fun vm₁ _ i hi => by
      have e : cell.slots.getD ((zI 0).toNatClampNeg + i) .null = .int (zI (tabZ i)) := by
        rw [c15] at hi
        rw [c0, Nat.zero_add, Array.getD_eq_getD_getElem?, hrd i hi]
        rfl
      refine ⟨?_, ?_⟩
      · rw [e]; rfl
      · rw [e]; exact trivial)
    (g := F0 m pc ls (.int (zI 15) :: .int (zI 0) :: .ref (ad j) :: .int (zI 0) :: .ref tt :: rest)) rfl (by rw [C.2.2.1]; exact hl.1) (rest := rest) rfl (by rw [C.2.1]; exact hdg) hframes (by show 2 * 0 + _ + _ ≤ _; omega)
  have e1 : copied cell (vp_cell (cs 1) (15, .inl (fun k => zI (h k)))) (zI 0) (zI 0) (zI 15) = vp_cell (cs 1) (15, .inl (fun k => zI (cZ tabZ h 0 0 15 k))) := by
    have q9 : copied cell (vp_cell (cs 1) (15, .inl (fun k => zI (h k)))) (zI 0) (zI 0) (zI 15) = vp_cell (cs 1) (15, .inl (va_cpy (fun k => zI (tabZ k)) (fun k => zI (h k)) (zI 0).toNatClampNeg (zI 0).toNatClampNeg (zI 15).toNatClampNeg)) := va_copiedX (fun z => .int z) cell (cs 1) (fun k => zI (tabZ k)) (fun k => zI (h k)) hrd (by rw [c0, c15]; omega)
    rw [q9, c0, c15, cZ_cpy]
  rw [e1] at X' step
  have hlt : ad j < H.size := (Array.getElem?_eq_some_iff.mp hc1).1
  generalize hH1 : H.setIfInBounds (ad j) (vp_cell (cs 1) (15, .inl (fun k => zI (cZ tabZ h 0 0 15 k)))) = H1
  have oq : ∀ q : Nat, q ≠ ad j → H1[q]? = H[q]? := fun q hq => by rw [← hH1]; simp [Array.getElem?_setIfInBounds, Ne.symm hq]
  have ea : H1[ad j]? = some (vp_cell (cs 1) (15, .inl (fun k => zI (cZ tabZ h 0 0 15 k)))) := by rw [← hH1]; simp [Array.getElem?_setIfInBounds, hlt]
  have hz1 : H1.size = H.size := by rw [← hH1]; simp
  have hP1 := hP.set (e := iA cs 15 (cZ tabZ h 0 0 15)) hD he ea oq
  have hD1 := hD.set (e := iA cs 15 (cZ tabZ h 0 0 15)) he
  rw [wl_set] at hP1 hD1
  have hAj : A (ad j) := hD.2 j _ he
  obtain ⟨t, a1, b1⟩ := kk _ rfl H1 _ ls hP1 hD1 ⟨by rw [hz1]; exact hS.1, fun q g1 g2 => by
      rw [oq q (fun e => g2 (by rw [e]; exact hAj))]
      exact hS.2.1 q g1 g2, fun q hq => by
      rcases List.mem_append.mp hq with h | h
      · exact hS.2.2 q h
      · obtain ⟨z, -, hz⟩ := List.mem_map.mp h
        rw [← hz]
        exact hAj⟩ hl _ (by rw [← hH1, ← hT]; rfl) X'
  exact ⟨t, step t a1, b1⟩
theorem z_mmax (C : zC p s m args c cc nL own D A cs tt) {index : Nat} {a b : Int} (hlk : Cond.methodLink own index Lib.Math.max.name ∈ AW) (hstat : Cond.static Lib.Math.max.name ∈ AW) (hini : Cond.initialized "java/lang/Math" ∈ AW) (hcd : Cond.code Lib.Math.max.name Lib.Math.max.code 2 (some .int) ∈ AW) (ha : -2147483648 ≤ a ∧ a ≤ 2147483647) (hb : -2147483648 ≤ b ∧ b ≤ 2147483647) (hframes : 1 ≤ R.frames) (hlocals : (rest.map fun v => v.category).sum + 13 ≤ R.locals) (hc : k ≤ R.cells) (hs : n ≤ R.slots) (hdg : decode cc pc = .ok (.invokestatic index, 3)) (kk : zV p l e R s m args below meth c Q D A nL N ad g k n (pc + 3) (lv) (.int (zI (if a < b then b else a)) :: rest)) : zV p l e R s m args below meth c Q D A nL N ad g k n (pc) (lv) (.int (zI b) :: .int (zI a) :: rest) := fun H locs ls hP hD hS hl => va_mmax C.1 C.2.1 (by rw [C.2.2.1]; exact hl.1.symm) C.2.2.2.1 (C.2.2.2.2.1 _ hlk) (C.2.2.2.2.1 _ hstat) (C.2.2.2.2.1 _ hini) (C.2.2.2.2.1 _ hcd) hframes hlocals hc hs hdg (by
    have e9 : (if zI a < zI b then zI b else zI a) = zI (if a < b then b else a) := by
      by_cases h : a < b
      · rw [if_pos h, if_pos ((zI_lt ha hb).mpr h)]
      · rw [if_neg h, if_neg (fun q => h ((zI_lt ha hb).mp q))]
    rw [e9]; exact kk H locs ls hP hD hS hl)
theorem z_mmin (C : zC p s m args c cc nL own D A cs tt) {index : Nat} {a b : Int} (hlk : Cond.methodLink own index Lib.Math.min.name ∈ AW) (hstat : Cond.static Lib.Math.min.name ∈ AW) (hini : Cond.initialized "java/lang/Math" ∈ AW) (hcd : Cond.code Lib.Math.min.name Lib.Math.min.code 2 (some .int) ∈ AW) (ha : -2147483648 ≤ a ∧ a ≤ 2147483647) (hb : -2147483648 ≤ b ∧ b ≤ 2147483647) (hframes : 1 ≤ R.frames) (hlocals : (rest.map fun v => v.category).sum + 13 ≤ R.locals) (hc : k ≤ R.cells) (hs : n ≤ R.slots) (hdg : decode cc pc = .ok (.invokestatic index, 3)) (kk : zV p l e R s m args below meth c Q D A nL N ad g k n (pc + 3) (lv) (.int (zI (if b < a then b else a)) :: rest)) : zV p l e R s m args below meth c Q D A nL N ad g k n (pc) (lv) (.int (zI b) :: .int (zI a) :: rest) := fun H locs ls hP hD hS hl => va_mmin C.1 C.2.1 (by rw [C.2.2.1]; exact hl.1.symm) C.2.2.2.1 (C.2.2.2.2.1 _ hlk) (C.2.2.2.2.1 _ hstat) (C.2.2.2.2.1 _ hini) (C.2.2.2.2.1 _ hcd) hframes hlocals hc hs hdg (by
    have e9 : (if zI b < zI a then zI b else zI a) = zI (if b < a then b else a) := by
      by_cases h : b < a
      · rw [if_pos h, if_pos ((zI_lt hb ha).mpr h)]
      · rw [if_neg h, if_neg (fun q => h ((zI_lt hb ha).mp q))]
    rw [e9]; exact kk H locs ls hP hD hS hl)
theorem z_mna (C : zC p s m args c cc nL own D A cs tt) {index : Nat} (hw : Cond.classLink own index "[[I" ∈ AW) (hac : Cond.arrayClass .int ∈ AW) (hcells : k + 5 ≤ R.cells) (hslots : n + 4804 ≤ R.slots) (hdg : decode cc pc = .ok (.multianewarray index 2, 4))
    (kk : ∀ (q : Nat) (r : Nat → Nat) (ad' : Nat → Nat) (g' : Nat → va_E), ad' = va_up (va_up (va_up (va_up (va_up ad N q) (N + 1) (r 0)) (N + 1 + 1) (r 1)) (N + 1 + 1 + 1) (r 2)) (N + 1 + 1 + 1 + 1) (r 3) → g' = va_up (va_up (va_up (va_up (va_up g N (rA (cs 6) 4 (fun i => if i < 4 then some (r i) else none))) (N + 1) (iA cs 1200 (fun _ => 0))) (N + 1 + 1) (iA cs 1200 (fun _ => 0))) (N + 1 + 1 + 1) (iA cs 1200 (fun _ => 0))) (N + 1 + 1 + 1 + 1) (iA cs 1200 (fun _ => 0)) → zV p l e R s m args below meth c Q D A nL (N + 1 + 1 + 1 + 1 + 1) ad' g' (k + 1 + 4) (n + 4 + 4 * 1200) (pc + 4) (lv) (.ref q :: rest)) : zV p l e R s m args below meth c Q D A nL N ad g k n (pc) (lv) (.int (zI 1200) :: .int (zI 4) :: rest) := by
  intro H locs ls hP hD hS hl
  have hP0 : va_P D vwCl (wl N ad g ++ va_pl [] (fun _ => iA cs 0 (fun _ => 0))) H := by show va_P D vwCl (wl N ad g ++ []) H; rw [List.append_nil]; exact hP
  have hD0 : va_D A (wl N ad g ++ va_pl [] (fun _ => iA cs 0 (fun _ => 0))) := by show va_D A (wl N ad g ++ []); rw [List.append_nil]; exact hD
  refine va_mna (X := wl N ad g) (L := []) (f := fun _ => iA cs 0 (fun _ => 0)) (ty := .int) (cy := cs 1) (N' := 4) (K' := 1200) (z := (1200, .inl (fun _ => zI 0))) C.1 C.2.1 C.2.2.2.1 (C.2.2.2.2.1 _ hw) C.2.2.2.2.2.2.2.2.1.2.2.2 (C.2.2.2.2.1 _ hac) (zRA_fc (C.2.2.2.2.2.1.2 1 _ rfl).2) C.2.2.2.2.2.1 hP0 hD0 hS C.2.2.2.2.2.2.2.1 (by decide) (by decide) (by decide) (by decide) (by decide) (by decide) (by decide) rfl rfl (by omega) (by omega) (fun c9 => arrV_new c9 1200 (.int 0)) hdg (fun q r cA H1 hinj hnin hK1 hP1 hD1 hS1 => ?_)
  obtain rfl := zK_cls 6 rfl hK1
  have e9 : va_pl ([] ++ (List.range 4).map r) (vr_up (fun _ => iA cs 0 (fun _ => 0)) ((List.range 4).map r) (iA cs 1200 (fun _ => 0))) = [(r 0, iA cs 1200 (fun _ => 0))] ++ ([(r 1, iA cs 1200 (fun _ => 0))] ++ ([(r 2, iA cs 1200 (fun _ => 0))] ++ [(r 3, iA cs 1200 (fun _ => 0))])) := by
    show ([r 0, r 1, r 2, r 3].map fun a => (a, vr_up (fun _ => iA cs 0 (fun _ => 0)) [r 0, r 1, r 2, r 3] (iA cs 1200 (fun _ => 0)) a)) = _
    simp [vr_up]
  rw [e9, wl_push, ← List.append_assoc, wl_push, ← List.append_assoc, wl_push, ← List.append_assoc, wl_push, wl_push] at hP1 hD1
  exact kk q r _ _ rfl rfl H1 locs ls hP1 hD1 hS1 hl
theorem z_getZ (C : zC p s m args c cc nL own D A cs tt) {index : Nat} (hw : Cond.fieldLink own index RJ0 "COMPACT_STRINGS" "Z" ∈ AW) (hdg : decode cc pc = .ok (.getstatic index, 3)) (kk : zV p l e R s m args below meth c Q D A nL N ad g k n (pc + 3) (lv) (.int (zI 1) :: rest)) : zV p l e R s m args below meth c Q D A nL N ad g k n (pc) (lv) (rest) := fun H locs ls hP hD hS hl => va_gets C.1 C.2.1 C.2.2.2.2.2.2.2.2.2.1.2.2 hS C.2.2.2.1 (C.2.2.2.2.1 _ hw) (fun _ h => h) hdg (kk H locs ls hP hD hS hl)
end ZA
end
section
-- 06.words.lean.txt
-- words of ctor
theorem n_150 : (Jvm.Cond.methodLinkNest "SnowRecorder$World" (36 : Nat) ({ cls := "SnowRecorder$Pack", name := "<init>", desc := "()V" } : Jvm.MethodName) "SnowRecorder") ∈ NW := NW_m1 150 (by decide +kernel) (by decide +kernel)
theorem n_212 : (Jvm.Cond.methodLinkNest "SnowRecorder$State" (34 : Nat) ({ cls := "SnowRecorder$Notes", name := "<init>", desc := "()V" } : Jvm.MethodName) "SnowRecorder") ∈ NW := NW_m1 212 (by decide +kernel) (by decide +kernel)
theorem n_235 : (Jvm.Cond.methodLinkNest "SnowRecorder$State" (43 : Nat) ({ cls := "SnowRecorder$Pit", name := "<init>", desc := "()V" } : Jvm.MethodName) "SnowRecorder") ∈ NW := NW_m1 235 (by decide +kernel) (by decide +kernel)
theorem n_240 : (Jvm.Cond.methodLinkNest "SnowRecorder$Pit" (18 : Nat) ({ cls := "SnowRecorder$Pack", name := "<init>", desc := "()V" } : Jvm.MethodName) "SnowRecorder") ∈ NW := NW_m2 0 (by decide +kernel) (by decide +kernel)
theorem n_79 : (Jvm.Cond.fieldLinkNest "SnowRecorder$Plan" (37 : Nat) "SnowRecorder" "TABLE" "[I" "SnowRecorder") ∈ NW := NW_m1 79 (by decide +kernel) (by decide +kernel)
theorem n_86 : (Jvm.Cond.castable "[I" "java/lang/Cloneable") ∈ NW := NW_m1 86 (by decide +kernel) (by decide +kernel)
theorem q_100 : (Jvm.Cond.fieldLink "SnowRecorder$Plan" (25 : Nat) "SnowRecorder$Plan" "open" "[I") ∈ AW := AW_m1 100 (by decide +kernel) (by decide +kernel)
theorem q_104 : (Jvm.Cond.fieldLink "SnowRecorder$Plan" (28 : Nat) "SnowRecorder$Plan" "air" "[I") ∈ AW := AW_m1 104 (by decide +kernel) (by decide +kernel)
theorem q_107 : (Jvm.Cond.fieldLink "SnowRecorder$Plan" (31 : Nat) "SnowRecorder$Plan" "fall" "[I") ∈ AW := AW_m1 107 (by decide +kernel) (by decide +kernel)
theorem q_11 : (Jvm.Cond.initialized "java/lang/AbstractStringBuilder") ∈ AW := AW_m1 11 (by decide +kernel) (by decide +kernel)
theorem q_110 : (Jvm.Cond.fieldLink "SnowRecorder$Plan" (34 : Nat) "SnowRecorder$Plan" "much" "[I") ∈ AW := AW_m1 110 (by decide +kernel) (by decide +kernel)
theorem q_113 : (Jvm.Cond.fieldLink "SnowRecorder$Plan" (45 : Nat) "SnowRecorder$Plan" "table" "[I") ∈ AW := AW_m1 113 (by decide +kernel) (by decide +kernel)
theorem q_115 : (Jvm.Cond.lays "SnowRecorder$Plan" "SnowRecorder$Plan" "slopes" "I") ∈ AW := AW_m1 115 (by decide +kernel) (by decide +kernel)
theorem q_117 : (Jvm.Cond.lays "SnowRecorder$Plan" "SnowRecorder$Plan" "hours" "I") ∈ AW := AW_m1 117 (by decide +kernel) (by decide +kernel)
theorem q_119 : (Jvm.Cond.lays "SnowRecorder$Plan" "SnowRecorder$Plan" "untoldAir" "I") ∈ AW := AW_m1 119 (by decide +kernel) (by decide +kernel)
theorem q_121 : (Jvm.Cond.laysFinal "SnowRecorder$Plan" "SnowRecorder$Plan" "steep" "[I") ∈ AW := AW_m1 121 (by decide +kernel) (by decide +kernel)
theorem q_123 : (Jvm.Cond.laysFinal "SnowRecorder$Plan" "SnowRecorder$Plan" "open" "[I") ∈ AW := AW_m1 123 (by decide +kernel) (by decide +kernel)
theorem q_125 : (Jvm.Cond.laysFinal "SnowRecorder$Plan" "SnowRecorder$Plan" "air" "[I") ∈ AW := AW_m1 125 (by decide +kernel) (by decide +kernel)
theorem q_127 : (Jvm.Cond.laysFinal "SnowRecorder$Plan" "SnowRecorder$Plan" "fall" "[I") ∈ AW := AW_m1 127 (by decide +kernel) (by decide +kernel)
theorem q_129 : (Jvm.Cond.laysFinal "SnowRecorder$Plan" "SnowRecorder$Plan" "much" "[I") ∈ AW := AW_m1 129 (by decide +kernel) (by decide +kernel)
theorem q_131 : (Jvm.Cond.laysFinal "SnowRecorder$Plan" "SnowRecorder$Plan" "table" "[I") ∈ AW := AW_m1 131 (by decide +kernel) (by decide +kernel)
theorem q_134 : (Jvm.Cond.arrayClass Jvm.ClassFile.FieldType.int) ∈ AW := AW_m1 134 (by decide +kernel) (by decide +kernel)
theorem q_140 : (Jvm.Cond.methodLink "SnowRecorder$State" (3 : Nat) ({ cls := "java/lang/Object", name := "<init>", desc := "()V" } : Jvm.MethodName)) ∈ AW := AW_m1 140 (by decide +kernel) (by decide +kernel)
theorem q_141 : (Jvm.Cond.classLink "SnowRecorder$State" (9 : Nat) "SnowRecorder$World") ∈ AW := AW_m1 141 (by decide +kernel) (by decide +kernel)
theorem q_142 : (Jvm.Cond.instantiable "SnowRecorder$World" (7 : Nat)) ∈ AW := AW_m1 142 (by decide +kernel) (by decide +kernel)
theorem q_143 : (Jvm.Cond.methodLink "SnowRecorder$State" (11 : Nat) ({ cls := "SnowRecorder$World", name := "<init>", desc := "()V" } : Jvm.MethodName)) ∈ AW := AW_m1 143 (by decide +kernel) (by decide +kernel)
theorem q_144 : (Jvm.Cond.instanceMethod ({ cls := "SnowRecorder$World", name := "<init>", desc := "()V" } : Jvm.MethodName)) ∈ AW := AW_m1 144 (by decide +kernel) (by decide +kernel)
theorem q_145 : (Jvm.Cond.code ({ cls := "SnowRecorder$World", name := "<init>", desc := "()V" } : Jvm.MethodName) prog_10_method_1_code (2 : Nat) (Option.none : Option Jvm.ClassFile.FieldType)) ∈ AW := AW_m1 145 (by decide +kernel) (by decide +kernel)
theorem q_146 : (Jvm.Cond.methodLink "SnowRecorder$World" (3 : Nat) ({ cls := "java/lang/Object", name := "<init>", desc := "()V" } : Jvm.MethodName)) ∈ AW := AW_m1 146 (by decide +kernel) (by decide +kernel)
theorem q_147 : (Jvm.Cond.classLink "SnowRecorder$World" (30 : Nat) "SnowRecorder$Pack") ∈ AW := AW_m1 147 (by decide +kernel) (by decide +kernel)
theorem q_149 : (Jvm.Cond.instantiable "SnowRecorder$Pack" (3 : Nat)) ∈ AW := AW_m1 149 (by decide +kernel) (by decide +kernel)
theorem q_151 : (Jvm.Cond.instanceMethod ({ cls := "SnowRecorder$Pack", name := "<init>", desc := "()V" } : Jvm.MethodName)) ∈ AW := AW_m1 151 (by decide +kernel) (by decide +kernel)
theorem q_152 : (Jvm.Cond.code ({ cls := "SnowRecorder$Pack", name := "<init>", desc := "()V" } : Jvm.MethodName) prog_5_method_1_code (1 : Nat) (Option.none : Option Jvm.ClassFile.FieldType)) ∈ AW := AW_m1 152 (by decide +kernel) (by decide +kernel)
theorem q_153 : (Jvm.Cond.methodLink "SnowRecorder$Pack" (3 : Nat) ({ cls := "java/lang/Object", name := "<init>", desc := "()V" } : Jvm.MethodName)) ∈ AW := AW_m1 153 (by decide +kernel) (by decide +kernel)
theorem q_154 : (Jvm.Cond.fieldLink "SnowRecorder$Pack" (9 : Nat) "SnowRecorder$Pack" "size" "I") ∈ AW := AW_m1 154 (by decide +kernel) (by decide +kernel)
theorem q_159 : (Jvm.Cond.fieldLink "SnowRecorder$Pack" (15 : Nat) "SnowRecorder$Pack" "runoff" "I") ∈ AW := AW_m1 159 (by decide +kernel) (by decide +kernel)
theorem q_162 : (Jvm.Cond.fieldLink "SnowRecorder$Pack" (18 : Nat) "SnowRecorder$Pack" "cells" "[I") ∈ AW := AW_m1 162 (by decide +kernel) (by decide +kernel)
theorem q_166 : (Jvm.Cond.lays "SnowRecorder$Pack" "SnowRecorder$Pack" "size" "I") ∈ AW := AW_m1 166 (by decide +kernel) (by decide +kernel)
theorem q_168 : (Jvm.Cond.lays "SnowRecorder$Pack" "SnowRecorder$Pack" "runoff" "I") ∈ AW := AW_m1 168 (by decide +kernel) (by decide +kernel)
theorem q_170 : (Jvm.Cond.laysFinal "SnowRecorder$Pack" "SnowRecorder$Pack" "cells" "[I") ∈ AW := AW_m1 170 (by decide +kernel) (by decide +kernel)
theorem q_173 : (Jvm.Cond.fieldLink "SnowRecorder$World" (9 : Nat) "SnowRecorder$World" "time" "I") ∈ AW := AW_m1 173 (by decide +kernel) (by decide +kernel)
theorem q_176 : (Jvm.Cond.fieldLink "SnowRecorder$World" (15 : Nat) "SnowRecorder$World" "names" "I") ∈ AW := AW_m1 176 (by decide +kernel) (by decide +kernel)
theorem q_179 : (Jvm.Cond.fieldLink "SnowRecorder$World" (18 : Nat) "SnowRecorder$World" "taken" "I") ∈ AW := AW_m1 179 (by decide +kernel) (by decide +kernel)
theorem q_181 : (Jvm.Cond.fieldLink "SnowRecorder$World" (21 : Nat) "SnowRecorder$World" "slid" "I") ∈ AW := AW_m1 181 (by decide +kernel) (by decide +kernel)
theorem q_183 : (Jvm.Cond.fieldLink "SnowRecorder$World" (24 : Nat) "SnowRecorder$World" "slides" "I") ∈ AW := AW_m1 183 (by decide +kernel) (by decide +kernel)
theorem q_185 : (Jvm.Cond.fieldLink "SnowRecorder$World" (27 : Nat) "SnowRecorder$World" "pits" "I") ∈ AW := AW_m1 185 (by decide +kernel) (by decide +kernel)
theorem q_188 : (Jvm.Cond.fieldLink "SnowRecorder$World" (32 : Nat) "SnowRecorder$World" "packs" "[LSnowRecorder$Pack;") ∈ AW := AW_m1 188 (by decide +kernel) (by decide +kernel)
theorem q_192 : (Jvm.Cond.lays "SnowRecorder$World" "SnowRecorder$World" "time" "I") ∈ AW := AW_m1 192 (by decide +kernel) (by decide +kernel)
theorem q_194 : (Jvm.Cond.lays "SnowRecorder$World" "SnowRecorder$World" "names" "I") ∈ AW := AW_m1 194 (by decide +kernel) (by decide +kernel)
theorem q_196 : (Jvm.Cond.lays "SnowRecorder$World" "SnowRecorder$World" "taken" "I") ∈ AW := AW_m1 196 (by decide +kernel) (by decide +kernel)
theorem q_198 : (Jvm.Cond.lays "SnowRecorder$World" "SnowRecorder$World" "slid" "I") ∈ AW := AW_m1 198 (by decide +kernel) (by decide +kernel)
theorem q_200 : (Jvm.Cond.lays "SnowRecorder$World" "SnowRecorder$World" "slides" "I") ∈ AW := AW_m1 200 (by decide +kernel) (by decide +kernel)
theorem q_202 : (Jvm.Cond.lays "SnowRecorder$World" "SnowRecorder$World" "pits" "I") ∈ AW := AW_m1 202 (by decide +kernel) (by decide +kernel)
theorem q_204 : (Jvm.Cond.laysFinal "SnowRecorder$World" "SnowRecorder$World" "packs" "[LSnowRecorder$Pack;") ∈ AW := AW_m1 204 (by decide +kernel) (by decide +kernel)
theorem q_208 : (Jvm.Cond.classLink "SnowRecorder$State" (26 : Nat) "SnowRecorder$Pit") ∈ AW := AW_m1 208 (by decide +kernel) (by decide +kernel)
theorem q_210 : (Jvm.Cond.classLink "SnowRecorder$State" (32 : Nat) "SnowRecorder$Notes") ∈ AW := AW_m1 210 (by decide +kernel) (by decide +kernel)
theorem q_211 : (Jvm.Cond.instantiable "SnowRecorder$Notes" (4 : Nat)) ∈ AW := AW_m1 211 (by decide +kernel) (by decide +kernel)
theorem q_213 : (Jvm.Cond.instanceMethod ({ cls := "SnowRecorder$Notes", name := "<init>", desc := "()V" } : Jvm.MethodName)) ∈ AW := AW_m1 213 (by decide +kernel) (by decide +kernel)
theorem q_214 : (Jvm.Cond.code ({ cls := "SnowRecorder$Notes", name := "<init>", desc := "()V" } : Jvm.MethodName) prog_4_method_1_code (1 : Nat) (Option.none : Option Jvm.ClassFile.FieldType)) ∈ AW := AW_m1 214 (by decide +kernel) (by decide +kernel)
theorem q_215 : (Jvm.Cond.methodLink "SnowRecorder$Notes" (3 : Nat) ({ cls := "java/lang/Object", name := "<init>", desc := "()V" } : Jvm.MethodName)) ∈ AW := AW_m1 215 (by decide +kernel) (by decide +kernel)
theorem q_216 : (Jvm.Cond.fieldLink "SnowRecorder$Notes" (9 : Nat) "SnowRecorder$Notes" "size" "I") ∈ AW := AW_m1 216 (by decide +kernel) (by decide +kernel)
theorem q_219 : (Jvm.Cond.fieldLink "SnowRecorder$Notes" (15 : Nat) "SnowRecorder$Notes" "slope" "[I") ∈ AW := AW_m1 219 (by decide +kernel) (by decide +kernel)
theorem q_221 : (Jvm.Cond.fieldLink "SnowRecorder$Notes" (19 : Nat) "SnowRecorder$Notes" "hours" "[I") ∈ AW := AW_m1 221 (by decide +kernel) (by decide +kernel)
theorem q_223 : (Jvm.Cond.fieldLink "SnowRecorder$Notes" (22 : Nat) "SnowRecorder$Notes" "depth" "[I") ∈ AW := AW_m1 223 (by decide +kernel) (by decide +kernel)
theorem q_225 : (Jvm.Cond.lays "SnowRecorder$Notes" "SnowRecorder$Notes" "size" "I") ∈ AW := AW_m1 225 (by decide +kernel) (by decide +kernel)
theorem q_227 : (Jvm.Cond.laysFinal "SnowRecorder$Notes" "SnowRecorder$Notes" "slope" "[I") ∈ AW := AW_m1 227 (by decide +kernel) (by decide +kernel)
theorem q_229 : (Jvm.Cond.laysFinal "SnowRecorder$Notes" "SnowRecorder$Notes" "hours" "[I") ∈ AW := AW_m1 229 (by decide +kernel) (by decide +kernel)
theorem q_231 : (Jvm.Cond.laysFinal "SnowRecorder$Notes" "SnowRecorder$Notes" "depth" "[I") ∈ AW := AW_m1 231 (by decide +kernel) (by decide +kernel)
theorem q_234 : (Jvm.Cond.instantiable "SnowRecorder$Pit" (3 : Nat)) ∈ AW := AW_m1 234 (by decide +kernel) (by decide +kernel)
theorem q_236 : (Jvm.Cond.instanceMethod ({ cls := "SnowRecorder$Pit", name := "<init>", desc := "()V" } : Jvm.MethodName)) ∈ AW := AW_m1 236 (by decide +kernel) (by decide +kernel)
theorem q_237 : (Jvm.Cond.code ({ cls := "SnowRecorder$Pit", name := "<init>", desc := "()V" } : Jvm.MethodName) prog_6_method_1_code (1 : Nat) (Option.none : Option Jvm.ClassFile.FieldType)) ∈ AW := AW_m1 237 (by decide +kernel) (by decide +kernel)
theorem q_238 : (Jvm.Cond.methodLink "SnowRecorder$Pit" (1 : Nat) ({ cls := "java/lang/Object", name := "<init>", desc := "()V" } : Jvm.MethodName)) ∈ AW := AW_m1 238 (by decide +kernel) (by decide +kernel)
theorem q_239 : (Jvm.Cond.classLink "SnowRecorder$Pit" (16 : Nat) "SnowRecorder$Pack") ∈ AW := AW_m1 239 (by decide +kernel) (by decide +kernel)
theorem q_241 : (Jvm.Cond.fieldLink "SnowRecorder$Pit" (7 : Nat) "SnowRecorder$Pit" "slope" "I") ∈ AW := AW_m2 1 (by decide +kernel) (by decide +kernel)
theorem q_244 : (Jvm.Cond.fieldLink "SnowRecorder$Pit" (13 : Nat) "SnowRecorder$Pit" "time" "I") ∈ AW := AW_m2 4 (by decide +kernel) (by decide +kernel)
theorem q_247 : (Jvm.Cond.fieldLink "SnowRecorder$Pit" (19 : Nat) "SnowRecorder$Pit" "pack" "LSnowRecorder$Pack;") ∈ AW := AW_m2 7 (by decide +kernel) (by decide +kernel)
theorem q_250 : (Jvm.Cond.lays "SnowRecorder$Pit" "SnowRecorder$Pit" "slope" "I") ∈ AW := AW_m2 10 (by decide +kernel) (by decide +kernel)
theorem q_252 : (Jvm.Cond.lays "SnowRecorder$Pit" "SnowRecorder$Pit" "time" "I") ∈ AW := AW_m2 12 (by decide +kernel) (by decide +kernel)
theorem q_254 : (Jvm.Cond.laysFinal "SnowRecorder$Pit" "SnowRecorder$Pit" "pack" "LSnowRecorder$Pack;") ∈ AW := AW_m2 14 (by decide +kernel) (by decide +kernel)
theorem q_257 : (Jvm.Cond.fieldLink "SnowRecorder$State" (12 : Nat) "SnowRecorder$State" "now" "LSnowRecorder$World;") ∈ AW := AW_m2 17 (by decide +kernel) (by decide +kernel)
theorem q_259 : (Jvm.Cond.fieldLink "SnowRecorder$State" (18 : Nat) "SnowRecorder$State" "before" "[LSnowRecorder$World;") ∈ AW := AW_m2 19 (by decide +kernel) (by decide +kernel)
theorem q_260 : (Jvm.Cond.fieldLink "SnowRecorder$State" (22 : Nat) "SnowRecorder$State" "acts" "I") ∈ AW := AW_m2 20 (by decide +kernel) (by decide +kernel)
theorem q_262 : (Jvm.Cond.fieldLink "SnowRecorder$State" (28 : Nat) "SnowRecorder$State" "pits" "[LSnowRecorder$Pit;") ∈ AW := AW_m2 22 (by decide +kernel) (by decide +kernel)
theorem q_264 : (Jvm.Cond.fieldLink "SnowRecorder$State" (35 : Nat) "SnowRecorder$State" "notes" "LSnowRecorder$Notes;") ∈ AW := AW_m2 24 (by decide +kernel) (by decide +kernel)
theorem q_266 : (Jvm.Cond.fieldLink "SnowRecorder$State" (39 : Nat) "SnowRecorder$State" "refused" "[I") ∈ AW := AW_m2 26 (by decide +kernel) (by decide +kernel)
theorem q_268 : (Jvm.Cond.laysFinal "SnowRecorder$State" "SnowRecorder$State" "now" "LSnowRecorder$World;") ∈ AW := AW_m2 28 (by decide +kernel) (by decide +kernel)
theorem q_270 : (Jvm.Cond.laysFinal "SnowRecorder$State" "SnowRecorder$State" "before" "[LSnowRecorder$World;") ∈ AW := AW_m2 30 (by decide +kernel) (by decide +kernel)
theorem q_272 : (Jvm.Cond.lays "SnowRecorder$State" "SnowRecorder$State" "acts" "I") ∈ AW := AW_m2 32 (by decide +kernel) (by decide +kernel)
theorem q_274 : (Jvm.Cond.laysFinal "SnowRecorder$State" "SnowRecorder$State" "pits" "[LSnowRecorder$Pit;") ∈ AW := AW_m2 34 (by decide +kernel) (by decide +kernel)
theorem q_276 : (Jvm.Cond.laysFinal "SnowRecorder$State" "SnowRecorder$State" "notes" "LSnowRecorder$Notes;") ∈ AW := AW_m2 36 (by decide +kernel) (by decide +kernel)
theorem q_278 : (Jvm.Cond.laysFinal "SnowRecorder$State" "SnowRecorder$State" "refused" "[I") ∈ AW := AW_m2 38 (by decide +kernel) (by decide +kernel)
theorem q_288 : (Jvm.Cond.methodLink "SnowRecorder$Guesses" (3 : Nat) ({ cls := "java/lang/Object", name := "<init>", desc := "()V" } : Jvm.MethodName)) ∈ AW := AW_m2 48 (by decide +kernel) (by decide +kernel)
theorem q_289 : (Jvm.Cond.classLink "SnowRecorder$Guesses" (22 : Nat) "[[I") ∈ AW := AW_m2 49 (by decide +kernel) (by decide +kernel)
theorem q_291 : (Jvm.Cond.fieldLink "SnowRecorder$Guesses" (9 : Nat) "SnowRecorder$Guesses" "many" "I") ∈ AW := AW_m2 51 (by decide +kernel) (by decide +kernel)
theorem q_293 : (Jvm.Cond.fieldLink "SnowRecorder$Guesses" (15 : Nat) "SnowRecorder$Guesses" "first" "I") ∈ AW := AW_m2 53 (by decide +kernel) (by decide +kernel)
theorem q_295 : (Jvm.Cond.fieldLink "SnowRecorder$Guesses" (18 : Nat) "SnowRecorder$Guesses" "unlike" "[I") ∈ AW := AW_m2 55 (by decide +kernel) (by decide +kernel)
theorem q_297 : (Jvm.Cond.fieldLink "SnowRecorder$Guesses" (24 : Nat) "SnowRecorder$Guesses" "depths" "[[I") ∈ AW := AW_m2 57 (by decide +kernel) (by decide +kernel)
theorem q_298 : (Jvm.Cond.lays "SnowRecorder$Guesses" "SnowRecorder$Guesses" "many" "I") ∈ AW := AW_m2 58 (by decide +kernel) (by decide +kernel)
theorem q_300 : (Jvm.Cond.lays "SnowRecorder$Guesses" "SnowRecorder$Guesses" "first" "I") ∈ AW := AW_m2 60 (by decide +kernel) (by decide +kernel)
theorem q_302 : (Jvm.Cond.laysFinal "SnowRecorder$Guesses" "SnowRecorder$Guesses" "unlike" "[I") ∈ AW := AW_m2 62 (by decide +kernel) (by decide +kernel)
theorem q_304 : (Jvm.Cond.laysFinal "SnowRecorder$Guesses" "SnowRecorder$Guesses" "depths" "[[I") ∈ AW := AW_m2 64 (by decide +kernel) (by decide +kernel)
theorem q_312 : (Jvm.Cond.methodLink "SnowRecorder$Likeness" (3 : Nat) ({ cls := "java/lang/Object", name := "<init>", desc := "()V" } : Jvm.MethodName)) ∈ AW := AW_m2 72 (by decide +kernel) (by decide +kernel)
theorem q_313 : (Jvm.Cond.fieldLink "SnowRecorder$Likeness" (9 : Nat) "SnowRecorder$Likeness" "row" "[I") ∈ AW := AW_m2 73 (by decide +kernel) (by decide +kernel)
theorem q_314 : (Jvm.Cond.laysFinal "SnowRecorder$Likeness" "SnowRecorder$Likeness" "row" "[I") ∈ AW := AW_m2 74 (by decide +kernel) (by decide +kernel)
theorem q_322 : (Jvm.Cond.methodLink "java/lang/StringBuilder" (1 : Nat) ({ cls := "java/lang/AbstractStringBuilder", name := "<init>", desc := "(I)V" } : Jvm.MethodName)) ∈ AW := AW_m2 82 (by decide +kernel) (by decide +kernel)
theorem q_323 : (Jvm.Cond.instanceMethod ({ cls := "java/lang/AbstractStringBuilder", name := "<init>", desc := "(I)V" } : Jvm.MethodName)) ∈ AW := AW_m2 83 (by decide +kernel) (by decide +kernel)
theorem q_324 : (Jvm.Cond.code ({ cls := "java/lang/AbstractStringBuilder", name := "<init>", desc := "(I)V" } : Jvm.MethodName) prog_14_method_2_code (2 : Nat) (Option.none : Option Jvm.ClassFile.FieldType)) ∈ AW := AW_m2 84 (by decide +kernel) (by decide +kernel)
theorem q_325 : (Jvm.Cond.methodLink "java/lang/AbstractStringBuilder" (3 : Nat) ({ cls := "java/lang/Object", name := "<init>", desc := "()V" } : Jvm.MethodName)) ∈ AW := AW_m2 85 (by decide +kernel) (by decide +kernel)
theorem q_326 : (Jvm.Cond.fieldLink "java/lang/AbstractStringBuilder" (18 : Nat) "java/lang/String" "COMPACT_STRINGS" "Z") ∈ AW := AW_m2 86 (by decide +kernel) (by decide +kernel)
theorem q_335 : (Jvm.Cond.fieldLink "java/lang/AbstractStringBuilder" (15 : Nat) "java/lang/AbstractStringBuilder" "value" "[B") ∈ AW := AW_m2 95 (by decide +kernel) (by decide +kernel)
theorem q_336 : (Jvm.Cond.fieldLink "java/lang/AbstractStringBuilder" (22 : Nat) "java/lang/AbstractStringBuilder" "coder" "B") ∈ AW := AW_m2 96 (by decide +kernel) (by decide +kernel)
theorem q_340 : (Jvm.Cond.lays "java/lang/StringBuilder" "java/lang/AbstractStringBuilder" "value" "[B") ∈ AW := AW_m2 100 (by decide +kernel) (by decide +kernel)
theorem q_342 : (Jvm.Cond.lays "java/lang/StringBuilder" "java/lang/AbstractStringBuilder" "coder" "B") ∈ AW := AW_m2 102 (by decide +kernel) (by decide +kernel)
theorem q_344 : (Jvm.Cond.lays "java/lang/StringBuilder" "java/lang/AbstractStringBuilder" "maybeLatin1" "Z") ∈ AW := AW_m2 104 (by decide +kernel) (by decide +kernel)
theorem q_346 : (Jvm.Cond.lays "java/lang/StringBuilder" "java/lang/AbstractStringBuilder" "count" "I") ∈ AW := AW_m2 106 (by decide +kernel) (by decide +kernel)
theorem q_35 : (Jvm.Cond.instanceMethod ({ cls := "java/lang/Object", name := "<init>", desc := "()V" } : Jvm.MethodName)) ∈ AW := AW_m1 35 (by decide +kernel) (by decide +kernel)
theorem q_36 : (Jvm.Cond.code ({ cls := "java/lang/Object", name := "<init>", desc := "()V" } : Jvm.MethodName) object_method_1_code (1 : Nat) (Option.none : Option Jvm.ClassFile.FieldType)) ∈ AW := AW_m1 36 (by decide +kernel) (by decide +kernel)
theorem q_42 : (Jvm.Cond.methodLink "SnowRecorder$TextReader" (3 : Nat) ({ cls := "java/lang/Object", name := "<init>", desc := "()V" } : Jvm.MethodName)) ∈ AW := AW_m1 42 (by decide +kernel) (by decide +kernel)
theorem q_43 : (Jvm.Cond.fieldLink "SnowRecorder$TextReader" (9 : Nat) "SnowRecorder$TextReader" "place" "I") ∈ AW := AW_m1 43 (by decide +kernel) (by decide +kernel)
theorem q_45 : (Jvm.Cond.fieldLink "SnowRecorder$TextReader" (15 : Nat) "SnowRecorder$TextReader" "code" "I") ∈ AW := AW_m1 45 (by decide +kernel) (by decide +kernel)
theorem q_46 : (Jvm.Cond.fieldLink "SnowRecorder$TextReader" (18 : Nat) "SnowRecorder$TextReader" "text" "[B") ∈ AW := AW_m1 46 (by decide +kernel) (by decide +kernel)
theorem q_47 : (Jvm.Cond.fieldLink "SnowRecorder$TextReader" (22 : Nat) "SnowRecorder$TextReader" "end" "I") ∈ AW := AW_m1 47 (by decide +kernel) (by decide +kernel)
theorem q_48 : (Jvm.Cond.fieldLink "SnowRecorder$TextReader" (25 : Nat) "SnowRecorder$TextReader" "type" "I") ∈ AW := AW_m1 48 (by decide +kernel) (by decide +kernel)
theorem q_49 : (Jvm.Cond.fieldLink "SnowRecorder$TextReader" (28 : Nat) "SnowRecorder$TextReader" "at" "I") ∈ AW := AW_m1 49 (by decide +kernel) (by decide +kernel)
theorem q_5 : (Jvm.Cond.initialized "SnowRecorder$World") ∈ AW := AW_m1 5 (by decide +kernel) (by decide +kernel)
theorem q_50 : (Jvm.Cond.fieldLink "SnowRecorder$TextReader" (31 : Nat) "SnowRecorder$TextReader" "behind" "I") ∈ AW := AW_m1 50 (by decide +kernel) (by decide +kernel)
theorem q_51 : (Jvm.Cond.fieldLink "SnowRecorder$TextReader" (34 : Nat) "SnowRecorder$TextReader" "taken" "I") ∈ AW := AW_m1 51 (by decide +kernel) (by decide +kernel)
theorem q_52 : (Jvm.Cond.fieldLink "SnowRecorder$TextReader" (37 : Nat) "SnowRecorder$TextReader" "toldTable" "I") ∈ AW := AW_m1 52 (by decide +kernel) (by decide +kernel)
theorem q_53 : (Jvm.Cond.lays "SnowRecorder$TextReader" "SnowRecorder$TextReader" "place" "I") ∈ AW := AW_m1 53 (by decide +kernel) (by decide +kernel)
theorem q_55 : (Jvm.Cond.lays "SnowRecorder$TextReader" "SnowRecorder$TextReader" "code" "I") ∈ AW := AW_m1 55 (by decide +kernel) (by decide +kernel)
theorem q_57 : (Jvm.Cond.lays "SnowRecorder$TextReader" "SnowRecorder$TextReader" "text" "[B") ∈ AW := AW_m1 57 (by decide +kernel) (by decide +kernel)
theorem q_59 : (Jvm.Cond.lays "SnowRecorder$TextReader" "SnowRecorder$TextReader" "end" "I") ∈ AW := AW_m1 59 (by decide +kernel) (by decide +kernel)
theorem q_6 : (Jvm.Cond.initialized "SnowRecorder$Pack") ∈ AW := AW_m1 6 (by decide +kernel) (by decide +kernel)
theorem q_61 : (Jvm.Cond.lays "SnowRecorder$TextReader" "SnowRecorder$TextReader" "type" "I") ∈ AW := AW_m1 61 (by decide +kernel) (by decide +kernel)
theorem q_63 : (Jvm.Cond.lays "SnowRecorder$TextReader" "SnowRecorder$TextReader" "at" "I") ∈ AW := AW_m1 63 (by decide +kernel) (by decide +kernel)
theorem q_65 : (Jvm.Cond.lays "SnowRecorder$TextReader" "SnowRecorder$TextReader" "behind" "I") ∈ AW := AW_m1 65 (by decide +kernel) (by decide +kernel)
theorem q_67 : (Jvm.Cond.lays "SnowRecorder$TextReader" "SnowRecorder$TextReader" "taken" "I") ∈ AW := AW_m1 67 (by decide +kernel) (by decide +kernel)
theorem q_69 : (Jvm.Cond.lays "SnowRecorder$TextReader" "SnowRecorder$TextReader" "toldTable" "I") ∈ AW := AW_m1 69 (by decide +kernel) (by decide +kernel)
theorem q_7 : (Jvm.Cond.initialized "SnowRecorder$Notes") ∈ AW := AW_m1 7 (by decide +kernel) (by decide +kernel)
theorem q_72 : (Jvm.Cond.arrayClass Jvm.ClassFile.FieldType.byte) ∈ AW := AW_m1 72 (by decide +kernel) (by decide +kernel)
theorem q_78 : (Jvm.Cond.methodLink "SnowRecorder$Plan" (3 : Nat) ({ cls := "java/lang/Object", name := "<init>", desc := "()V" } : Jvm.MethodName)) ∈ AW := AW_m1 78 (by decide +kernel) (by decide +kernel)
theorem q_8 : (Jvm.Cond.initialized "SnowRecorder$Pit") ∈ AW := AW_m1 8 (by decide +kernel) (by decide +kernel)
theorem q_81 : (Jvm.Cond.methodLink "SnowRecorder$Plan" (40 : Nat) ({ cls := "[I", name := "clone", desc := "()Ljava/lang/Object;" } : Jvm.MethodName)) ∈ AW := AW_m1 81 (by decide +kernel) (by decide +kernel)
theorem q_82 : (Jvm.Cond.sameMethod "[I" "java/lang/Object" "clone" "()Ljava/lang/Object;") ∈ AW := AW_m1 82 (by decide +kernel) (by decide +kernel)
theorem q_83 : (Jvm.Cond.native ({ cls := "java/lang/Object", name := "clone", desc := "()Ljava/lang/Object;" } : Jvm.MethodName)) ∈ AW := AW_m1 83 (by decide +kernel) (by decide +kernel)
theorem q_84 : (Jvm.Cond.instanceMethod ({ cls := "java/lang/Object", name := "clone", desc := "()Ljava/lang/Object;" } : Jvm.MethodName)) ∈ AW := AW_m1 84 (by decide +kernel) (by decide +kernel)
theorem q_85 : (Jvm.Cond.selects "[I" ({ cls := "[I", name := "clone", desc := "()Ljava/lang/Object;" } : Jvm.MethodName) ({ cls := "java/lang/Object", name := "clone", desc := "()Ljava/lang/Object;" } : Jvm.MethodName)) ∈ AW := AW_m1 85 (by decide +kernel) (by decide +kernel)
theorem q_87 : (Jvm.Cond.classLink "SnowRecorder$Plan" (41 : Nat) "[I") ∈ AW := AW_m1 87 (by decide +kernel) (by decide +kernel)
theorem q_88 : (Jvm.Cond.fieldLink "SnowRecorder$Plan" (9 : Nat) "SnowRecorder$Plan" "slopes" "I") ∈ AW := AW_m1 88 (by decide +kernel) (by decide +kernel)
theorem q_92 : (Jvm.Cond.fieldLink "SnowRecorder$Plan" (15 : Nat) "SnowRecorder$Plan" "hours" "I") ∈ AW := AW_m1 92 (by decide +kernel) (by decide +kernel)
theorem q_95 : (Jvm.Cond.fieldLink "SnowRecorder$Plan" (18 : Nat) "SnowRecorder$Plan" "untoldAir" "I") ∈ AW := AW_m1 95 (by decide +kernel) (by decide +kernel)
theorem q_96 : (Jvm.Cond.fieldLink "SnowRecorder$Plan" (21 : Nat) "SnowRecorder$Plan" "steep" "[I") ∈ AW := AW_m1 96 (by decide +kernel) (by decide +kernel)
theorem mi_yX3_init : zWi yX3_init cX3_init 1 := ⟨q_151, q_6, q_152⟩
theorem mi_yJ5_init_d00df : zWi yJ5_init_d00df cJ5_init_d00df 2 := ⟨q_323, q_11, q_324⟩
theorem mi_yX8_init : zWi yX8_init cX8_init 2 := ⟨q_144, q_5, q_145⟩
theorem mi_yX2_init : zWi yX2_init cX2_init 1 := ⟨q_213, q_7, q_214⟩
theorem mi_yX4_init : zWi yX4_init cX4_init 1 := ⟨q_236, q_8, q_237⟩
theorem inA_X3 : ∀ w ∈ u_ws RX3 TX3 3, w ∈ AW := show ∀ w ∈ ([Cond.lays "SnowRecorder$Pack" "SnowRecorder$Pack" "size" "I", Cond.lays "SnowRecorder$Pack" "SnowRecorder$Pack" "runoff" "I", Cond.laysFinal "SnowRecorder$Pack" "SnowRecorder$Pack" "cells" "[I"] : List Cond), w ∈ AW from List.forall_mem_cons.mpr ⟨q_166, List.forall_mem_cons.mpr ⟨q_168, List.forall_mem_cons.mpr ⟨q_170, fun _ h => absurd h List.not_mem_nil⟩⟩⟩
theorem inA_X8 : ∀ w ∈ u_ws RX8 TX8 7, w ∈ AW := show ∀ w ∈ ([Cond.lays "SnowRecorder$World" "SnowRecorder$World" "time" "I", Cond.lays "SnowRecorder$World" "SnowRecorder$World" "names" "I", Cond.lays "SnowRecorder$World" "SnowRecorder$World" "taken" "I", Cond.lays "SnowRecorder$World" "SnowRecorder$World" "slid" "I", Cond.lays "SnowRecorder$World" "SnowRecorder$World" "slides" "I", Cond.lays "SnowRecorder$World" "SnowRecorder$World" "pits" "I", Cond.laysFinal "SnowRecorder$World" "SnowRecorder$World" "packs" "[LSnowRecorder$Pack;"] : List Cond), w ∈ AW from List.forall_mem_cons.mpr ⟨q_192, List.forall_mem_cons.mpr ⟨q_194, List.forall_mem_cons.mpr ⟨q_196, List.forall_mem_cons.mpr ⟨q_198, List.forall_mem_cons.mpr ⟨q_200, List.forall_mem_cons.mpr ⟨q_202, List.forall_mem_cons.mpr ⟨q_204, fun _ h => absurd h List.not_mem_nil⟩⟩⟩⟩⟩⟩⟩
theorem inA_X2 : ∀ w ∈ u_ws RX2 TX2 4, w ∈ AW := show ∀ w ∈ ([Cond.lays "SnowRecorder$Notes" "SnowRecorder$Notes" "size" "I", Cond.laysFinal "SnowRecorder$Notes" "SnowRecorder$Notes" "slope" "[I", Cond.laysFinal "SnowRecorder$Notes" "SnowRecorder$Notes" "hours" "[I", Cond.laysFinal "SnowRecorder$Notes" "SnowRecorder$Notes" "depth" "[I"] : List Cond), w ∈ AW from List.forall_mem_cons.mpr ⟨q_225, List.forall_mem_cons.mpr ⟨q_227, List.forall_mem_cons.mpr ⟨q_229, List.forall_mem_cons.mpr ⟨q_231, fun _ h => absurd h List.not_mem_nil⟩⟩⟩⟩
theorem inA_X1 : ∀ w ∈ u_ws RX1 TX1 1, w ∈ AW := show ∀ w ∈ ([Cond.laysFinal "SnowRecorder$Likeness" "SnowRecorder$Likeness" "row" "[I"] : List Cond), w ∈ AW from List.forall_mem_cons.mpr ⟨q_314, fun _ h => absurd h List.not_mem_nil⟩
theorem inA_X7 : ∀ w ∈ u_ws RX7 TX7 9, w ∈ AW := show ∀ w ∈ ([Cond.lays "SnowRecorder$TextReader" "SnowRecorder$TextReader" "place" "I", Cond.lays "SnowRecorder$TextReader" "SnowRecorder$TextReader" "code" "I", Cond.lays "SnowRecorder$TextReader" "SnowRecorder$TextReader" "text" "[B", Cond.lays "SnowRecorder$TextReader" "SnowRecorder$TextReader" "end" "I", Cond.lays "SnowRecorder$TextReader" "SnowRecorder$TextReader" "type" "I", Cond.lays "SnowRecorder$TextReader" "SnowRecorder$TextReader" "at" "I", Cond.lays "SnowRecorder$TextReader" "SnowRecorder$TextReader" "behind" "I", Cond.lays "SnowRecorder$TextReader" "SnowRecorder$TextReader" "taken" "I", Cond.lays "SnowRecorder$TextReader" "SnowRecorder$TextReader" "toldTable" "I"] : List Cond), w ∈ AW from List.forall_mem_cons.mpr ⟨q_53, List.forall_mem_cons.mpr ⟨q_55, List.forall_mem_cons.mpr ⟨q_57, List.forall_mem_cons.mpr ⟨q_59, List.forall_mem_cons.mpr ⟨q_61, List.forall_mem_cons.mpr ⟨q_63, List.forall_mem_cons.mpr ⟨q_65, List.forall_mem_cons.mpr ⟨q_67, List.forall_mem_cons.mpr ⟨q_69, fun _ h => absurd h List.not_mem_nil⟩⟩⟩⟩⟩⟩⟩⟩⟩
theorem inA_X4 : ∀ w ∈ u_ws RX4 TX4 3, w ∈ AW := show ∀ w ∈ ([Cond.lays "SnowRecorder$Pit" "SnowRecorder$Pit" "slope" "I", Cond.lays "SnowRecorder$Pit" "SnowRecorder$Pit" "time" "I", Cond.laysFinal "SnowRecorder$Pit" "SnowRecorder$Pit" "pack" "LSnowRecorder$Pack;"] : List Cond), w ∈ AW from List.forall_mem_cons.mpr ⟨q_250, List.forall_mem_cons.mpr ⟨q_252, List.forall_mem_cons.mpr ⟨q_254, fun _ h => absurd h List.not_mem_nil⟩⟩⟩
theorem inA_X5 : ∀ w ∈ u_ws RX5 TX5 9, w ∈ AW := show ∀ w ∈ ([Cond.lays "SnowRecorder$Plan" "SnowRecorder$Plan" "slopes" "I", Cond.lays "SnowRecorder$Plan" "SnowRecorder$Plan" "hours" "I", Cond.lays "SnowRecorder$Plan" "SnowRecorder$Plan" "untoldAir" "I", Cond.laysFinal "SnowRecorder$Plan" "SnowRecorder$Plan" "steep" "[I", Cond.laysFinal "SnowRecorder$Plan" "SnowRecorder$Plan" "open" "[I", Cond.laysFinal "SnowRecorder$Plan" "SnowRecorder$Plan" "air" "[I", Cond.laysFinal "SnowRecorder$Plan" "SnowRecorder$Plan" "fall" "[I", Cond.laysFinal "SnowRecorder$Plan" "SnowRecorder$Plan" "much" "[I", Cond.laysFinal "SnowRecorder$Plan" "SnowRecorder$Plan" "table" "[I"] : List Cond), w ∈ AW from List.forall_mem_cons.mpr ⟨q_115, List.forall_mem_cons.mpr ⟨q_117, List.forall_mem_cons.mpr ⟨q_119, List.forall_mem_cons.mpr ⟨q_121, List.forall_mem_cons.mpr ⟨q_123, List.forall_mem_cons.mpr ⟨q_125, List.forall_mem_cons.mpr ⟨q_127, List.forall_mem_cons.mpr ⟨q_129, List.forall_mem_cons.mpr ⟨q_131, fun _ h => absurd h List.not_mem_nil⟩⟩⟩⟩⟩⟩⟩⟩⟩
theorem inA_X0 : ∀ w ∈ u_ws RX0 TX0 4, w ∈ AW := show ∀ w ∈ ([Cond.lays "SnowRecorder$Guesses" "SnowRecorder$Guesses" "many" "I", Cond.lays "SnowRecorder$Guesses" "SnowRecorder$Guesses" "first" "I", Cond.laysFinal "SnowRecorder$Guesses" "SnowRecorder$Guesses" "unlike" "[I", Cond.laysFinal "SnowRecorder$Guesses" "SnowRecorder$Guesses" "depths" "[[I"] : List Cond), w ∈ AW from List.forall_mem_cons.mpr ⟨q_298, List.forall_mem_cons.mpr ⟨q_300, List.forall_mem_cons.mpr ⟨q_302, List.forall_mem_cons.mpr ⟨q_304, fun _ h => absurd h List.not_mem_nil⟩⟩⟩⟩
theorem inA_J4 : ∀ w ∈ u_ws RJ4 TJ4 4, w ∈ AW := show ∀ w ∈ ([Cond.lays "java/lang/StringBuilder" "java/lang/AbstractStringBuilder" "value" "[B", Cond.lays "java/lang/StringBuilder" "java/lang/AbstractStringBuilder" "coder" "B", Cond.lays "java/lang/StringBuilder" "java/lang/AbstractStringBuilder" "maybeLatin1" "Z", Cond.lays "java/lang/StringBuilder" "java/lang/AbstractStringBuilder" "count" "I"] : List Cond), w ∈ AW from List.forall_mem_cons.mpr ⟨q_340, List.forall_mem_cons.mpr ⟨q_342, List.forall_mem_cons.mpr ⟨q_344, List.forall_mem_cons.mpr ⟨q_346, fun _ h => absurd h List.not_mem_nil⟩⟩⟩⟩
theorem inA_X6 : ∀ w ∈ u_ws RX6 TX6 6, w ∈ AW := show ∀ w ∈ ([Cond.laysFinal "SnowRecorder$State" "SnowRecorder$State" "now" "LSnowRecorder$World;", Cond.laysFinal "SnowRecorder$State" "SnowRecorder$State" "before" "[LSnowRecorder$World;", Cond.lays "SnowRecorder$State" "SnowRecorder$State" "acts" "I", Cond.laysFinal "SnowRecorder$State" "SnowRecorder$State" "pits" "[LSnowRecorder$Pit;", Cond.laysFinal "SnowRecorder$State" "SnowRecorder$State" "notes" "LSnowRecorder$Notes;", Cond.laysFinal "SnowRecorder$State" "SnowRecorder$State" "refused" "[I"] : List Cond), w ∈ AW from List.forall_mem_cons.mpr ⟨q_268, List.forall_mem_cons.mpr ⟨q_270, List.forall_mem_cons.mpr ⟨q_272, List.forall_mem_cons.mpr ⟨q_274, List.forall_mem_cons.mpr ⟨q_276, List.forall_mem_cons.mpr ⟨q_278, fun _ h => absurd h List.not_mem_nil⟩⟩⟩⟩⟩⟩
end
section
-- 07.dec.lean.txt
-- decode rows of ctor
theorem dX3_init_0 : decode cX3_init 0 = .ok (.aload_n 0, 1) := by decide +kernel
theorem dX3_init_1 : decode cX3_init 1 = .ok (.invokespecial 3, 3) := by decide +kernel
theorem dX3_init_4 : decode cX3_init 4 = .ok (.aload_n 0, 1) := by decide +kernel
theorem dX3_init_5 : decode cX3_init 5 = .ok (.iconst 0, 1) := by decide +kernel
theorem dX3_init_6 : decode cX3_init 6 = .ok (.putfield 9, 3) := by decide +kernel
theorem dX3_init_9 : decode cX3_init 9 = .ok (.aload_n 0, 1) := by decide +kernel
theorem dX3_init_10 : decode cX3_init 10 = .ok (.iconst 0, 1) := by decide +kernel
theorem dX3_init_11 : decode cX3_init 11 = .ok (.putfield 15, 3) := by decide +kernel
theorem dX3_init_14 : decode cX3_init 14 = .ok (.aload_n 0, 1) := by decide +kernel
theorem dX3_init_15 : decode cX3_init 15 = .ok (.bipush 84, 2) := by decide +kernel
theorem dX3_init_17 : decode cX3_init 17 = .ok (.newarray .int, 2) := by decide +kernel
theorem dX3_init_19 : decode cX3_init 19 = .ok (.putfield 18, 3) := by decide +kernel
theorem dX3_init_22 : decode cX3_init 22 = .ok (.return_, 1) := by decide +kernel
theorem dX8_init_0 : decode cX8_init 0 = .ok (.aload_n 0, 1) := by decide +kernel
theorem dX8_init_1 : decode cX8_init 1 = .ok (.invokespecial 3, 3) := by decide +kernel
theorem dX8_init_4 : decode cX8_init 4 = .ok (.aload_n 0, 1) := by decide +kernel
theorem dX8_init_5 : decode cX8_init 5 = .ok (.iconst 0, 1) := by decide +kernel
theorem dX8_init_6 : decode cX8_init 6 = .ok (.putfield 9, 3) := by decide +kernel
theorem dX8_init_9 : decode cX8_init 9 = .ok (.aload_n 0, 1) := by decide +kernel
theorem dX8_init_10 : decode cX8_init 10 = .ok (.iconst 0, 1) := by decide +kernel
theorem dX8_init_11 : decode cX8_init 11 = .ok (.putfield 15, 3) := by decide +kernel
theorem dX8_init_14 : decode cX8_init 14 = .ok (.aload_n 0, 1) := by decide +kernel
theorem dX8_init_15 : decode cX8_init 15 = .ok (.iconst 0, 1) := by decide +kernel
theorem dX8_init_16 : decode cX8_init 16 = .ok (.putfield 18, 3) := by decide +kernel
theorem dX8_init_19 : decode cX8_init 19 = .ok (.aload_n 0, 1) := by decide +kernel
theorem dX8_init_20 : decode cX8_init 20 = .ok (.iconst 0, 1) := by decide +kernel
theorem dX8_init_21 : decode cX8_init 21 = .ok (.putfield 21, 3) := by decide +kernel
theorem dX8_init_24 : decode cX8_init 24 = .ok (.aload_n 0, 1) := by decide +kernel
theorem dX8_init_25 : decode cX8_init 25 = .ok (.iconst 0, 1) := by decide +kernel
theorem dX8_init_26 : decode cX8_init 26 = .ok (.putfield 24, 3) := by decide +kernel
theorem dX8_init_29 : decode cX8_init 29 = .ok (.aload_n 0, 1) := by decide +kernel
theorem dX8_init_30 : decode cX8_init 30 = .ok (.iconst 0, 1) := by decide +kernel
theorem dX8_init_31 : decode cX8_init 31 = .ok (.putfield 27, 3) := by decide +kernel
theorem dX8_init_34 : decode cX8_init 34 = .ok (.aload_n 0, 1) := by decide +kernel
theorem dX8_init_35 : decode cX8_init 35 = .ok (.iconst 4, 1) := by decide +kernel
theorem dX8_init_36 : decode cX8_init 36 = .ok (.anewarray 30, 3) := by decide +kernel
theorem dX8_init_39 : decode cX8_init 39 = .ok (.putfield 32, 3) := by decide +kernel
theorem dX8_init_42 : decode cX8_init 42 = .ok (.iconst 0, 1) := by decide +kernel
theorem dX8_init_43 : decode cX8_init 43 = .ok (.istore_n 1, 1) := by decide +kernel
theorem dX8_init_44 : decode cX8_init 44 = .ok (.iload_n 1, 1) := by decide +kernel
theorem dX8_init_45 : decode cX8_init 45 = .ok (.aload_n 0, 1) := by decide +kernel
theorem dX8_init_46 : decode cX8_init 46 = .ok (.getfield 32, 3) := by decide +kernel
theorem dX8_init_49 : decode cX8_init 49 = .ok (.arraylength, 1) := by decide +kernel
theorem dX8_init_50 : decode cX8_init 50 = .ok (.if_icmp .ge 22, 3) := by decide +kernel
theorem dX8_init_53 : decode cX8_init 53 = .ok (.aload_n 0, 1) := by decide +kernel
theorem dX8_init_54 : decode cX8_init 54 = .ok (.getfield 32, 3) := by decide +kernel
theorem dX8_init_57 : decode cX8_init 57 = .ok (.iload_n 1, 1) := by decide +kernel
theorem dX8_init_58 : decode cX8_init 58 = .ok (.new 30, 3) := by decide +kernel
theorem dX8_init_61 : decode cX8_init 61 = .ok (.dup, 1) := by decide +kernel
theorem dX8_init_62 : decode cX8_init 62 = .ok (.invokespecial 36, 3) := by decide +kernel
theorem dX8_init_65 : decode cX8_init 65 = .ok (.aastore, 1) := by decide +kernel
theorem dX8_init_66 : decode cX8_init 66 = .ok (.iinc 1 1, 3) := by decide +kernel
theorem dX8_init_69 : decode cX8_init 69 = .ok (.goto (-25), 3) := by decide +kernel
theorem dX8_init_72 : decode cX8_init 72 = .ok (.return_, 1) := by decide +kernel
theorem dX2_init_0 : decode cX2_init 0 = .ok (.aload_n 0, 1) := by decide +kernel
theorem dX2_init_1 : decode cX2_init 1 = .ok (.invokespecial 3, 3) := by decide +kernel
theorem dX2_init_4 : decode cX2_init 4 = .ok (.aload_n 0, 1) := by decide +kernel
theorem dX2_init_5 : decode cX2_init 5 = .ok (.iconst 0, 1) := by decide +kernel
theorem dX2_init_6 : decode cX2_init 6 = .ok (.putfield 9, 3) := by decide +kernel
theorem dX2_init_9 : decode cX2_init 9 = .ok (.aload_n 0, 1) := by decide +kernel
theorem dX2_init_10 : decode cX2_init 10 = .ok (.bipush 8, 2) := by decide +kernel
theorem dX2_init_12 : decode cX2_init 12 = .ok (.newarray .int, 2) := by decide +kernel
theorem dX2_init_14 : decode cX2_init 14 = .ok (.putfield 15, 3) := by decide +kernel
theorem dX2_init_17 : decode cX2_init 17 = .ok (.aload_n 0, 1) := by decide +kernel
theorem dX2_init_18 : decode cX2_init 18 = .ok (.bipush 8, 2) := by decide +kernel
theorem dX2_init_20 : decode cX2_init 20 = .ok (.newarray .int, 2) := by decide +kernel
theorem dX2_init_22 : decode cX2_init 22 = .ok (.putfield 19, 3) := by decide +kernel
theorem dX2_init_25 : decode cX2_init 25 = .ok (.aload_n 0, 1) := by decide +kernel
theorem dX2_init_26 : decode cX2_init 26 = .ok (.bipush 8, 2) := by decide +kernel
theorem dX2_init_28 : decode cX2_init 28 = .ok (.newarray .int, 2) := by decide +kernel
theorem dX2_init_30 : decode cX2_init 30 = .ok (.putfield 22, 3) := by decide +kernel
theorem dX2_init_33 : decode cX2_init 33 = .ok (.return_, 1) := by decide +kernel
theorem dX1_init_0 : decode cX1_init 0 = .ok (.aload_n 0, 1) := by decide +kernel
theorem dX1_init_1 : decode cX1_init 1 = .ok (.invokespecial 3, 3) := by decide +kernel
theorem dX1_init_4 : decode cX1_init 4 = .ok (.aload_n 0, 1) := by decide +kernel
theorem dX1_init_5 : decode cX1_init 5 = .ok (.bipush 13, 2) := by decide +kernel
theorem dX1_init_7 : decode cX1_init 7 = .ok (.newarray .int, 2) := by decide +kernel
theorem dX1_init_9 : decode cX1_init 9 = .ok (.putfield 9, 3) := by decide +kernel
theorem dX1_init_12 : decode cX1_init 12 = .ok (.return_, 1) := by decide +kernel
theorem dX7_init_0 : decode cX7_init 0 = .ok (.aload_n 0, 1) := by decide +kernel
theorem dX7_init_1 : decode cX7_init 1 = .ok (.invokespecial 3, 3) := by decide +kernel
theorem dX7_init_4 : decode cX7_init 4 = .ok (.aload_n 0, 1) := by decide +kernel
theorem dX7_init_5 : decode cX7_init 5 = .ok (.iconst (-1), 1) := by decide +kernel
theorem dX7_init_6 : decode cX7_init 6 = .ok (.putfield 9, 3) := by decide +kernel
theorem dX7_init_9 : decode cX7_init 9 = .ok (.aload_n 0, 1) := by decide +kernel
theorem dX7_init_10 : decode cX7_init 10 = .ok (.iconst 0, 1) := by decide +kernel
theorem dX7_init_11 : decode cX7_init 11 = .ok (.putfield 15, 3) := by decide +kernel
theorem dX7_init_14 : decode cX7_init 14 = .ok (.aload_n 0, 1) := by decide +kernel
theorem dX7_init_15 : decode cX7_init 15 = .ok (.iconst 0, 1) := by decide +kernel
theorem dX7_init_16 : decode cX7_init 16 = .ok (.newarray .byte, 2) := by decide +kernel
theorem dX7_init_18 : decode cX7_init 18 = .ok (.putfield 18, 3) := by decide +kernel
theorem dX7_init_21 : decode cX7_init 21 = .ok (.aload_n 0, 1) := by decide +kernel
theorem dX7_init_22 : decode cX7_init 22 = .ok (.iconst 0, 1) := by decide +kernel
theorem dX7_init_23 : decode cX7_init 23 = .ok (.putfield 22, 3) := by decide +kernel
theorem dX7_init_26 : decode cX7_init 26 = .ok (.aload_n 0, 1) := by decide +kernel
theorem dX7_init_27 : decode cX7_init 27 = .ok (.iconst 0, 1) := by decide +kernel
theorem dX7_init_28 : decode cX7_init 28 = .ok (.putfield 25, 3) := by decide +kernel
theorem dX7_init_31 : decode cX7_init 31 = .ok (.aload_n 0, 1) := by decide +kernel
theorem dX7_init_32 : decode cX7_init 32 = .ok (.iconst 0, 1) := by decide +kernel
theorem dX7_init_33 : decode cX7_init 33 = .ok (.putfield 28, 3) := by decide +kernel
theorem dX7_init_36 : decode cX7_init 36 = .ok (.aload_n 0, 1) := by decide +kernel
theorem dX7_init_37 : decode cX7_init 37 = .ok (.iconst 0, 1) := by decide +kernel
theorem dX7_init_38 : decode cX7_init 38 = .ok (.putfield 31, 3) := by decide +kernel
theorem dX7_init_41 : decode cX7_init 41 = .ok (.aload_n 0, 1) := by decide +kernel
theorem dX7_init_42 : decode cX7_init 42 = .ok (.iconst 0, 1) := by decide +kernel
theorem dX7_init_43 : decode cX7_init 43 = .ok (.putfield 34, 3) := by decide +kernel
theorem dX7_init_46 : decode cX7_init 46 = .ok (.aload_n 0, 1) := by decide +kernel
theorem dX7_init_47 : decode cX7_init 47 = .ok (.iconst 0, 1) := by decide +kernel
theorem dX7_init_48 : decode cX7_init 48 = .ok (.putfield 37, 3) := by decide +kernel
theorem dX7_init_51 : decode cX7_init 51 = .ok (.return_, 1) := by decide +kernel
theorem dX4_init_0 : decode cX4_init 0 = .ok (.aload_n 0, 1) := by decide +kernel
theorem dX4_init_1 : decode cX4_init 1 = .ok (.invokespecial 1, 3) := by decide +kernel
theorem dX4_init_4 : decode cX4_init 4 = .ok (.aload_n 0, 1) := by decide +kernel
theorem dX4_init_5 : decode cX4_init 5 = .ok (.iconst 0, 1) := by decide +kernel
theorem dX4_init_6 : decode cX4_init 6 = .ok (.putfield 7, 3) := by decide +kernel
theorem dX4_init_9 : decode cX4_init 9 = .ok (.aload_n 0, 1) := by decide +kernel
theorem dX4_init_10 : decode cX4_init 10 = .ok (.iconst 0, 1) := by decide +kernel
theorem dX4_init_11 : decode cX4_init 11 = .ok (.putfield 13, 3) := by decide +kernel
theorem dX4_init_14 : decode cX4_init 14 = .ok (.aload_n 0, 1) := by decide +kernel
theorem dX4_init_15 : decode cX4_init 15 = .ok (.new 16, 3) := by decide +kernel
theorem dX4_init_18 : decode cX4_init 18 = .ok (.dup, 1) := by decide +kernel
theorem dX4_init_19 : decode cX4_init 19 = .ok (.invokespecial 18, 3) := by decide +kernel
theorem dX4_init_22 : decode cX4_init 22 = .ok (.putfield 19, 3) := by decide +kernel
theorem dX4_init_25 : decode cX4_init 25 = .ok (.return_, 1) := by decide +kernel
theorem dX5_init_0 : decode cX5_init 0 = .ok (.aload_n 0, 1) := by decide +kernel
theorem dX5_init_1 : decode cX5_init 1 = .ok (.invokespecial 3, 3) := by decide +kernel
theorem dX5_init_4 : decode cX5_init 4 = .ok (.aload_n 0, 1) := by decide +kernel
theorem dX5_init_5 : decode cX5_init 5 = .ok (.iconst 0, 1) := by decide +kernel
theorem dX5_init_6 : decode cX5_init 6 = .ok (.putfield 9, 3) := by decide +kernel
theorem dX5_init_9 : decode cX5_init 9 = .ok (.aload_n 0, 1) := by decide +kernel
theorem dX5_init_10 : decode cX5_init 10 = .ok (.iconst 0, 1) := by decide +kernel
theorem dX5_init_11 : decode cX5_init 11 = .ok (.putfield 15, 3) := by decide +kernel
theorem dX5_init_14 : decode cX5_init 14 = .ok (.aload_n 0, 1) := by decide +kernel
theorem dX5_init_15 : decode cX5_init 15 = .ok (.iconst 0, 1) := by decide +kernel
theorem dX5_init_16 : decode cX5_init 16 = .ok (.putfield 18, 3) := by decide +kernel
theorem dX5_init_19 : decode cX5_init 19 = .ok (.aload_n 0, 1) := by decide +kernel
theorem dX5_init_20 : decode cX5_init 20 = .ok (.iconst 4, 1) := by decide +kernel
theorem dX5_init_21 : decode cX5_init 21 = .ok (.newarray .int, 2) := by decide +kernel
theorem dX5_init_23 : decode cX5_init 23 = .ok (.putfield 21, 3) := by decide +kernel
theorem dX5_init_26 : decode cX5_init 26 = .ok (.aload_n 0, 1) := by decide +kernel
theorem dX5_init_27 : decode cX5_init 27 = .ok (.iconst 4, 1) := by decide +kernel
theorem dX5_init_28 : decode cX5_init 28 = .ok (.newarray .int, 2) := by decide +kernel
theorem dX5_init_30 : decode cX5_init 30 = .ok (.putfield 25, 3) := by decide +kernel
theorem dX5_init_33 : decode cX5_init 33 = .ok (.aload_n 0, 1) := by decide +kernel
theorem dX5_init_34 : decode cX5_init 34 = .ok (.bipush 24, 2) := by decide +kernel
theorem dX5_init_36 : decode cX5_init 36 = .ok (.newarray .int, 2) := by decide +kernel
theorem dX5_init_38 : decode cX5_init 38 = .ok (.putfield 28, 3) := by decide +kernel
theorem dX5_init_41 : decode cX5_init 41 = .ok (.aload_n 0, 1) := by decide +kernel
theorem dX5_init_42 : decode cX5_init 42 = .ok (.bipush 24, 2) := by decide +kernel
theorem dX5_init_44 : decode cX5_init 44 = .ok (.newarray .int, 2) := by decide +kernel
theorem dX5_init_46 : decode cX5_init 46 = .ok (.putfield 31, 3) := by decide +kernel
theorem dX5_init_49 : decode cX5_init 49 = .ok (.aload_n 0, 1) := by decide +kernel
theorem dX5_init_50 : decode cX5_init 50 = .ok (.bipush 24, 2) := by decide +kernel
theorem dX5_init_52 : decode cX5_init 52 = .ok (.newarray .int, 2) := by decide +kernel
theorem dX5_init_54 : decode cX5_init 54 = .ok (.putfield 34, 3) := by decide +kernel
theorem dX5_init_57 : decode cX5_init 57 = .ok (.aload_n 0, 1) := by decide +kernel
theorem dX5_init_58 : decode cX5_init 58 = .ok (.getstatic 37, 3) := by decide +kernel
theorem dX5_init_61 : decode cX5_init 61 = .ok (.invokevirtual 40, 3) := by decide +kernel
theorem dX5_init_64 : decode cX5_init 64 = .ok (.checkcast 41, 3) := by decide +kernel
theorem dX5_init_67 : decode cX5_init 67 = .ok (.putfield 45, 3) := by decide +kernel
theorem dX5_init_70 : decode cX5_init 70 = .ok (.return_, 1) := by decide +kernel
theorem dX0_init_0 : decode cX0_init 0 = .ok (.aload_n 0, 1) := by decide +kernel
theorem dX0_init_1 : decode cX0_init 1 = .ok (.invokespecial 3, 3) := by decide +kernel
theorem dX0_init_4 : decode cX0_init 4 = .ok (.aload_n 0, 1) := by decide +kernel
theorem dX0_init_5 : decode cX0_init 5 = .ok (.iconst 0, 1) := by decide +kernel
theorem dX0_init_6 : decode cX0_init 6 = .ok (.putfield 9, 3) := by decide +kernel
theorem dX0_init_9 : decode cX0_init 9 = .ok (.aload_n 0, 1) := by decide +kernel
theorem dX0_init_10 : decode cX0_init 10 = .ok (.iconst (-1), 1) := by decide +kernel
theorem dX0_init_11 : decode cX0_init 11 = .ok (.putfield 15, 3) := by decide +kernel
theorem dX0_init_14 : decode cX0_init 14 = .ok (.aload_n 0, 1) := by decide +kernel
theorem dX0_init_15 : decode cX0_init 15 = .ok (.iconst 4, 1) := by decide +kernel
theorem dX0_init_16 : decode cX0_init 16 = .ok (.newarray .int, 2) := by decide +kernel
theorem dX0_init_18 : decode cX0_init 18 = .ok (.putfield 18, 3) := by decide +kernel
theorem dX0_init_21 : decode cX0_init 21 = .ok (.aload_n 0, 1) := by decide +kernel
theorem dX0_init_22 : decode cX0_init 22 = .ok (.iconst 4, 1) := by decide +kernel
theorem dX0_init_23 : decode cX0_init 23 = .ok (.sipush 1200, 3) := by decide +kernel
theorem dX0_init_26 : decode cX0_init 26 = .ok (.multianewarray 22 2, 4) := by decide +kernel
theorem dX0_init_30 : decode cX0_init 30 = .ok (.putfield 24, 3) := by decide +kernel
theorem dX0_init_33 : decode cX0_init 33 = .ok (.return_, 1) := by decide +kernel
theorem dJ5_init_d00df_0 : decode cJ5_init_d00df 0 = .ok (.aload_n 0, 1) := by decide +kernel
theorem dJ5_init_d00df_1 : decode cJ5_init_d00df 1 = .ok (.invokespecial 3, 3) := by decide +kernel
theorem dJ5_init_d00df_4 : decode cJ5_init_d00df 4 = .ok (.getstatic 18, 3) := by decide +kernel
theorem dJ5_init_d00df_7 : decode cJ5_init_d00df 7 = .ok (.ifCond .eq 18, 3) := by decide +kernel
theorem dJ5_init_d00df_10 : decode cJ5_init_d00df 10 = .ok (.aload_n 0, 1) := by decide +kernel
theorem dJ5_init_d00df_11 : decode cJ5_init_d00df 11 = .ok (.iload_n 1, 1) := by decide +kernel
theorem dJ5_init_d00df_12 : decode cJ5_init_d00df 12 = .ok (.newarray .byte, 2) := by decide +kernel
theorem dJ5_init_d00df_14 : decode cJ5_init_d00df 14 = .ok (.putfield 15, 3) := by decide +kernel
theorem dJ5_init_d00df_17 : decode cJ5_init_d00df 17 = .ok (.aload_n 0, 1) := by decide +kernel
theorem dJ5_init_d00df_18 : decode cJ5_init_d00df 18 = .ok (.iconst 0, 1) := by decide +kernel
theorem dJ5_init_d00df_19 : decode cJ5_init_d00df 19 = .ok (.putfield 22, 3) := by decide +kernel
theorem dJ5_init_d00df_22 : decode cJ5_init_d00df 22 = .ok (.goto 16, 3) := by decide +kernel
theorem dJ5_init_d00df_38 : decode cJ5_init_d00df 38 = .ok (.return_, 1) := by decide +kernel
theorem dJ4_init_da8c8_0 : decode cJ4_init_da8c8 0 = .ok (.aload_n 0, 1) := by decide +kernel
theorem dJ4_init_da8c8_1 : decode cJ4_init_da8c8 1 = .ok (.bipush 16, 2) := by decide +kernel
theorem dJ4_init_da8c8_3 : decode cJ4_init_da8c8 3 = .ok (.invokespecial 1, 3) := by decide +kernel
theorem dJ4_init_da8c8_6 : decode cJ4_init_da8c8 6 = .ok (.return_, 1) := by decide +kernel
theorem dX6_init_0 : decode cX6_init 0 = .ok (.aload_n 0, 1) := by decide +kernel
theorem dX6_init_1 : decode cX6_init 1 = .ok (.invokespecial 3, 3) := by decide +kernel
theorem dX6_init_4 : decode cX6_init 4 = .ok (.aload_n 0, 1) := by decide +kernel
theorem dX6_init_5 : decode cX6_init 5 = .ok (.new 9, 3) := by decide +kernel
theorem dX6_init_8 : decode cX6_init 8 = .ok (.dup, 1) := by decide +kernel
theorem dX6_init_9 : decode cX6_init 9 = .ok (.invokespecial 11, 3) := by decide +kernel
theorem dX6_init_12 : decode cX6_init 12 = .ok (.putfield 12, 3) := by decide +kernel
theorem dX6_init_15 : decode cX6_init 15 = .ok (.aload_n 0, 1) := by decide +kernel
theorem dX6_init_16 : decode cX6_init 16 = .ok (.bipush 40, 2) := by decide +kernel
theorem dX6_init_18 : decode cX6_init 18 = .ok (.anewarray 9, 3) := by decide +kernel
theorem dX6_init_21 : decode cX6_init 21 = .ok (.putfield 18, 3) := by decide +kernel
theorem dX6_init_24 : decode cX6_init 24 = .ok (.aload_n 0, 1) := by decide +kernel
theorem dX6_init_25 : decode cX6_init 25 = .ok (.iconst 0, 1) := by decide +kernel
theorem dX6_init_26 : decode cX6_init 26 = .ok (.putfield 22, 3) := by decide +kernel
theorem dX6_init_29 : decode cX6_init 29 = .ok (.aload_n 0, 1) := by decide +kernel
theorem dX6_init_30 : decode cX6_init 30 = .ok (.bipush 6, 2) := by decide +kernel
theorem dX6_init_32 : decode cX6_init 32 = .ok (.anewarray 26, 3) := by decide +kernel
theorem dX6_init_35 : decode cX6_init 35 = .ok (.putfield 28, 3) := by decide +kernel
theorem dX6_init_38 : decode cX6_init 38 = .ok (.aload_n 0, 1) := by decide +kernel
theorem dX6_init_39 : decode cX6_init 39 = .ok (.new 32, 3) := by decide +kernel
theorem dX6_init_42 : decode cX6_init 42 = .ok (.dup, 1) := by decide +kernel
theorem dX6_init_43 : decode cX6_init 43 = .ok (.invokespecial 34, 3) := by decide +kernel
theorem dX6_init_46 : decode cX6_init 46 = .ok (.putfield 35, 3) := by decide +kernel
theorem dX6_init_49 : decode cX6_init 49 = .ok (.aload_n 0, 1) := by decide +kernel
theorem dX6_init_50 : decode cX6_init 50 = .ok (.iconst 3, 1) := by decide +kernel
theorem dX6_init_51 : decode cX6_init 51 = .ok (.newarray .int, 2) := by decide +kernel
theorem dX6_init_53 : decode cX6_init 53 = .ok (.putfield 39, 3) := by decide +kernel
theorem dX6_init_56 : decode cX6_init 56 = .ok (.iconst 0, 1) := by decide +kernel
theorem dX6_init_57 : decode cX6_init 57 = .ok (.istore_n 1, 1) := by decide +kernel
theorem dX6_init_88 : decode cX6_init 88 = .ok (.iload_n 1, 1) := by decide +kernel
theorem dX6_init_89 : decode cX6_init 89 = .ok (.aload_n 0, 1) := by decide +kernel
theorem dX6_init_90 : decode cX6_init 90 = .ok (.getfield 28, 3) := by decide +kernel
theorem dX6_init_93 : decode cX6_init 93 = .ok (.arraylength, 1) := by decide +kernel
theorem dX6_init_94 : decode cX6_init 94 = .ok (.if_icmp .ge 22, 3) := by decide +kernel
theorem dX6_init_116 : decode cX6_init 116 = .ok (.return_, 1) := by decide +kernel
theorem dX6_init_97 : decode cX6_init 97 = .ok (.aload_n 0, 1) := by decide +kernel
theorem dX6_init_98 : decode cX6_init 98 = .ok (.getfield 28, 3) := by decide +kernel
theorem dX6_init_101 : decode cX6_init 101 = .ok (.iload_n 1, 1) := by decide +kernel
theorem dX6_init_102 : decode cX6_init 102 = .ok (.new 26, 3) := by decide +kernel
theorem dX6_init_105 : decode cX6_init 105 = .ok (.dup, 1) := by decide +kernel
theorem dX6_init_106 : decode cX6_init 106 = .ok (.invokespecial 43, 3) := by decide +kernel
theorem dX6_init_109 : decode cX6_init 109 = .ok (.aastore, 1) := by decide +kernel
theorem dX6_init_110 : decode cX6_init 110 = .ok (.iinc 1 1, 3) := by decide +kernel
theorem dX6_init_113 : decode cX6_init 113 = .ok (.goto (-25), 3) := by decide +kernel
theorem dX6_init_58 : decode cX6_init 58 = .ok (.iload_n 1, 1) := by decide +kernel
theorem dX6_init_59 : decode cX6_init 59 = .ok (.aload_n 0, 1) := by decide +kernel
theorem dX6_init_60 : decode cX6_init 60 = .ok (.getfield 18, 3) := by decide +kernel
theorem dX6_init_63 : decode cX6_init 63 = .ok (.arraylength, 1) := by decide +kernel
theorem dX6_init_64 : decode cX6_init 64 = .ok (.if_icmp .ge 22, 3) := by decide +kernel
theorem dX6_init_86 : decode cX6_init 86 = .ok (.iconst 0, 1) := by decide +kernel
theorem dX6_init_87 : decode cX6_init 87 = .ok (.istore_n 1, 1) := by decide +kernel
theorem dX6_init_67 : decode cX6_init 67 = .ok (.aload_n 0, 1) := by decide +kernel
theorem dX6_init_68 : decode cX6_init 68 = .ok (.getfield 18, 3) := by decide +kernel
theorem dX6_init_71 : decode cX6_init 71 = .ok (.iload_n 1, 1) := by decide +kernel
theorem dX6_init_72 : decode cX6_init 72 = .ok (.new 9, 3) := by decide +kernel
theorem dX6_init_75 : decode cX6_init 75 = .ok (.dup, 1) := by decide +kernel
theorem dX6_init_76 : decode cX6_init 76 = .ok (.invokespecial 11, 3) := by decide +kernel
theorem dX6_init_79 : decode cX6_init 79 = .ok (.aastore, 1) := by decide +kernel
theorem dX6_init_80 : decode cX6_init 80 = .ok (.iinc 1 1, 3) := by decide +kernel
theorem dX6_init_83 : decode cX6_init 83 = .ok (.goto (-25), 3) := by decide +kernel
end
section
-- 08.ctor.lean.txt
def isPack (cs : Nat → ClassId) (ad : Nat → Nat) (g : Nat → va_E) (i : Nat) (sz ro : Int) (r : Nat → Int) : Prop := g i = oC 5 [.int (zI sz), .int (zI ro), .ref (ad (i + 1))] ∧ g (i + 1) = iA cs 84 r
def isWorld (cs : Nat → ClassId) (ad : Nat → Nat) (g : Nat → va_E) (i : Nat) (t : Nat → Int) (sz ro : Nat → Int) (r : Nat → Nat → Int) : Prop := g i = oC 10 [.int (zI (t 0)), .int (zI (t 1)), .int (zI (t 2)), .int (zI (t 3)), .int (zI (t 4)), .int (zI (t 5)), .ref (ad (i + 1))] ∧ (∃ a : Nat → Option Nat, g (i + 1) = rA (cs 3) 4 a ∧ ∀ k, k < 4 → a k = some (ad (i + 2 + 2 * k))) ∧ ∀ k, k < 4 → isPack cs ad g (i + 2 + 2 * k) (sz k) (ro k) (r k)

set_option maxRecDepth 100000 in
set_option maxHeartbeats 4000000 in
theorem c_X3_init (l : Launch) (D : va_G) (A : Nat → Prop) (cs : Nat → ClassId) (tt : Nat) (N : Nat) (ad : Nat → Nat) (g : Nat → va_E) (i a : Nat) (hi : i < N) (ha : ad i = a) (hg : g i = oC 5 [.int (zI 0), .int (zI 0), .null]) : zM l yX3_init cX3_init 1 none ({ frames := 1, cells := 1, slots := 84, locals := 60 } : Room) D A cs tt N ad g [.ref a] (rV fun N' ad' g' => N' = N + 1 ∧ (∀ j, j < N → ad' j = ad j) ∧ (∀ j, j < N → j ≠ i → g' j = g j) ∧ g' i = oC 5 [.int (zI 0), .int (zI 0), .ref (ad' N)] ∧ g' N = iA cs 84 (fun _ => 0)) := by
  refine z_of (by decide) (Nat.le_of_ble_eq_true rfl) ?_
  intro p e s m below meth c C hr hlk hnm
  refine z_lv (lv' := [(0, .ref a)]) [0] rfl ?_
  refine z_aload_n C 0 dX3_init_0 rfl ?_
  refine z_objInit C q_153 q_35 q_36 dX3_init_1 (Nat.le_of_ble_eq_true rfl) (Nat.le_of_ble_eq_true rfl) ?_
  refine z_aload_n C 0 dX3_init_4 rfl ?_
  refine z_iconst (z := 0) C dX3_init_5 rfl ?_
  refine z_put (fs' := [.int (zI (0)), .int (zI (0)), .null]) C (by omega) ha hg tyX3 tyX3_ok nmX3 rfl inA_X3 0 (by decide) q_154 rfl rfl rfl rfl (Nat.le_of_ble_eq_true rfl) rfl dX3_init_6 (fun g1 eg2 => ?_)
  have hg3 := up_s eg2
  refine z_aload_n C 0 dX3_init_9 rfl ?_
  refine z_iconst (z := 0) C dX3_init_10 rfl ?_
  refine z_put (fs' := [.int (zI (0)), .int (zI (0)), .null]) C (by omega) ha hg3 tyX3 tyX3_ok nmX3 rfl inA_X3 1 (by decide) q_159 rfl rfl rfl rfl (Nat.le_of_ble_eq_true rfl) rfl dX3_init_11 (fun g4 eg5 => ?_)
  have hg6 := up_s eg5
  refine z_aload_n C 0 dX3_init_14 rfl ?_
  refine z_bipush (z := 84) C dX3_init_15 (by decide) ?_
  refine z_newI C 84 rfl q_134 (by decide) (by decide) (by decide) dX3_init_17 (fun q7 ad8 g9 ea10 eg11 => ?_)
  have ha12 : zAt ad8 (N) q7 := up_s ea10
  have hg13 := up_s eg11
  have ha14 : zAt ad8 (i) (a) := up_n ea10 ha (by omega)
  have hg15 := up_n eg11 hg6 (by omega)
  refine z_putF (fs' := [.int (zI (0)), .int (zI (0)), .ref q7]) C (by omega) ha14 hg15 tyX3 tyX3_ok nmX3 rfl inA_X3 2 (by decide) q_162 rfl rfl hnm rfl rfl rfl (Nat.le_of_ble_eq_true rfl) rfl dX3_init_19 (fun g16 eg17 => ?_)
  have hg18 := up_s eg17
  have hg19 := up_n eg17 hg13 (by omega)
  exact z_vret C hr hlk dX3_init_22 (by decide) (by decide) (⟨rfl, rfl, fun j h1 => by rw [ea10, va_up_ne _ _ (by omega)], fun j h1 h2 => by rw [eg17, va_up_ne _ _ (by omega)]; rw [eg11, va_up_ne _ _ (by omega)]; rw [eg5, va_up_ne _ _ (by omega)]; rw [eg2, va_up_ne _ _ (by omega)], by rw [show ad8 N = _ from ha12]; exact hg18, hg19⟩)

set_option maxRecDepth 100000 in
set_option maxHeartbeats 4000000 in
theorem c_X8_init (l : Launch) (D : va_G) (A : Nat → Prop) (cs : Nat → ClassId) (tt : Nat) (ad : Nat → Nat) (g : Nat → va_E) (i a : Nat) (ha : ad i = a) (hg : g i = oC 10 [.int (zI 0), .int (zI 0), .int (zI 0), .int (zI 0), .int (zI 0), .int (zI 0), .null]) : zM l yX8_init cX8_init 2 none ({ frames := 2, cells := 9, slots := 352, locals := 120 } : Room) D A cs tt (i + 1) ad g [.ref a] (rV fun N' ad' g' => N' = i + 10 ∧ (∀ j, j < i + 1 → ad' j = ad j) ∧ (∀ j, j < i + 1 → j ≠ i → g' j = g j) ∧ isWorld cs ad' g' i (fun _ => 0) (fun _ => 0) (fun _ => 0) (fun _ _ => 0)) := by
  refine z_of (by decide) (Nat.le_of_ble_eq_true rfl) ?_
  intro p e s m below meth c C hr hlk hnm
  refine z_lv (lv' := [(0, .ref a)]) [0] rfl ?_
  refine z_aload_n C 0 dX8_init_0 rfl ?_
  refine z_objInit C q_146 q_35 q_36 dX8_init_1 (Nat.le_of_ble_eq_true rfl) (Nat.le_of_ble_eq_true rfl) ?_
  refine z_aload_n C 0 dX8_init_4 rfl ?_
  refine z_iconst (z := 0) C dX8_init_5 rfl ?_
  refine z_put (fs' := [.int (zI (0)), .int (zI (0)), .int (zI (0)), .int (zI (0)), .int (zI (0)), .int (zI (0)), .null]) C (lt_o (i := i) (c := 0) (d := 1) rfl) ha hg tyX8 tyX8_ok nmX8 rfl inA_X8 0 (by decide) q_173 rfl rfl rfl rfl (Nat.le_of_ble_eq_true rfl) rfl dX8_init_6 (fun g1 eg2 => ?_)
  have hg3 := up_s eg2
  refine z_aload_n C 0 dX8_init_9 rfl ?_
  refine z_iconst (z := 0) C dX8_init_10 rfl ?_
  refine z_put (fs' := [.int (zI (0)), .int (zI (0)), .int (zI (0)), .int (zI (0)), .int (zI (0)), .int (zI (0)), .null]) C (lt_o (i := i) (c := 0) (d := 1) rfl) ha hg3 tyX8 tyX8_ok nmX8 rfl inA_X8 1 (by decide) q_176 rfl rfl rfl rfl (Nat.le_of_ble_eq_true rfl) rfl dX8_init_11 (fun g4 eg5 => ?_)
  have hg6 := up_s eg5
  refine z_aload_n C 0 dX8_init_14 rfl ?_
  refine z_iconst (z := 0) C dX8_init_15 rfl ?_
  refine z_put (fs' := [.int (zI (0)), .int (zI (0)), .int (zI (0)), .int (zI (0)), .int (zI (0)), .int (zI (0)), .null]) C (lt_o (i := i) (c := 0) (d := 1) rfl) ha hg6 tyX8 tyX8_ok nmX8 rfl inA_X8 2 (by decide) q_179 rfl rfl rfl rfl (Nat.le_of_ble_eq_true rfl) rfl dX8_init_16 (fun g7 eg8 => ?_)
  have hg9 := up_s eg8
  refine z_aload_n C 0 dX8_init_19 rfl ?_
  refine z_iconst (z := 0) C dX8_init_20 rfl ?_
  refine z_put (fs' := [.int (zI (0)), .int (zI (0)), .int (zI (0)), .int (zI (0)), .int (zI (0)), .int (zI (0)), .null]) C (lt_o (i := i) (c := 0) (d := 1) rfl) ha hg9 tyX8 tyX8_ok nmX8 rfl inA_X8 3 (by decide) q_181 rfl rfl rfl rfl (Nat.le_of_ble_eq_true rfl) rfl dX8_init_21 (fun g10 eg11 => ?_)
  have hg12 := up_s eg11
  refine z_aload_n C 0 dX8_init_24 rfl ?_
  refine z_iconst (z := 0) C dX8_init_25 rfl ?_
  refine z_put (fs' := [.int (zI (0)), .int (zI (0)), .int (zI (0)), .int (zI (0)), .int (zI (0)), .int (zI (0)), .null]) C (lt_o (i := i) (c := 0) (d := 1) rfl) ha hg12 tyX8 tyX8_ok nmX8 rfl inA_X8 4 (by decide) q_183 rfl rfl rfl rfl (Nat.le_of_ble_eq_true rfl) rfl dX8_init_26 (fun g13 eg14 => ?_)
  have hg15 := up_s eg14
  refine z_aload_n C 0 dX8_init_29 rfl ?_
  refine z_iconst (z := 0) C dX8_init_30 rfl ?_
  refine z_put (fs' := [.int (zI (0)), .int (zI (0)), .int (zI (0)), .int (zI (0)), .int (zI (0)), .int (zI (0)), .null]) C (lt_o (i := i) (c := 0) (d := 1) rfl) ha hg15 tyX8 tyX8_ok nmX8 rfl inA_X8 5 (by decide) q_185 rfl rfl rfl rfl (Nat.le_of_ble_eq_true rfl) rfl dX8_init_31 (fun g16 eg17 => ?_)
  have hg18 := up_s eg17
  refine z_aload_n C 0 dX8_init_34 rfl ?_
  refine z_iconst (z := 4) C dX8_init_35 rfl ?_
  refine z_newR C 3 4 rfl rfl q_147 C.2.2.2.2.2.2.2.2.1.1 (by decide) (by decide) (by decide) dX8_init_36 (fun q19 ad20 g21 ea22 eg23 => ?_)
  have ha24 : zAt ad20 (i + 1) q19 := up_s ea22
  have hg25 := up_s eg23
  have ha26 : zAt ad20 (i) (a) := up_n ea22 ha (ne_o (i := i) (c := 0) (d := 1) rfl)
  have hg27 := up_n eg23 hg18 (ne_o (i := i) (c := 0) (d := 1) rfl)
  refine z_putF (fs' := [.int (zI (0)), .int (zI (0)), .int (zI (0)), .int (zI (0)), .int (zI (0)), .int (zI (0)), .ref q19]) C (lt_o (i := i) (c := 0) (d := 2) rfl) ha26 hg27 tyX8 tyX8_ok nmX8 rfl inA_X8 6 (by decide) q_188 rfl rfl hnm rfl rfl rfl (Nat.le_of_ble_eq_true rfl) rfl dX8_init_39 (fun g28 eg29 => ?_)
  have hg30 := up_s eg29
  refine z_iconst (z := 0) C dX8_init_42 rfl ?_
  refine z_istore_n (lv' := [(1, .int (zI (0))), (0, .ref a)]) C dX8_init_43 rfl (by decide) rfl ?_
  refine z_iload_n C 0 dX8_init_44 rfl ?_
  refine z_aload_n C 1 dX8_init_45 rfl ?_
  refine z_get (v := .ref q19) C (lt_o (i := i) (c := 0) (d := 2) rfl) ha26 hg30 rfl inA_X8 6 (by decide) q_188 rfl rfl dX8_init_46 ?_
  have hg31 := up_n eg29 hg25 (ne_o (i := i) (c := 1) (d := 0) rfl)
  refine z_alen (z := 4) C (lt_o (i := i) (c := 1) (d := 2) rfl) ha24 hg31 3 rfl rfl dX8_init_49 ?_
  refine z_icmp_ge (tgt := 72) C dX8_init_50 (by decide) (by omega) (by omega) (fun h => absurd h (by omega)) (fun _ => ?_)
  refine z_aload_n C 1 dX8_init_53 rfl ?_
  refine z_get (v := .ref q19) C (lt_o (i := i) (c := 0) (d := 2) rfl) ha26 hg30 rfl inA_X8 6 (by decide) q_188 rfl rfl dX8_init_54 ?_
  refine z_iload_n C 0 dX8_init_57 rfl ?_
  refine z_new (fs := [.int (zI (0)), .int (zI (0)), .null]) (ci := 5) C tyX3 tyX3_ok rfl inA_X3 q_147 q_149 q_6 (fun j hj => by rcases (show j = 0 ∨ j = 1 ∨ j = 2 by omega) with rfl | rfl | rfl <;> rfl) (by decide) (by decide) dX8_init_58 (fun q32 ad33 g34 ea35 eg36 => ?_)
  have ha37 : zAt ad33 (i + 1 + 1) q32 := up_s ea35
  have hg38 := up_s eg36
  refine z_dup C dX8_init_61 rfl ?_
  refine z_cIN (As := []) (rest := [.ref q32, .int (zI (0)), .ref q19]) C (c_X3_init l D A cs tt _ _ _ (i + 1 + 1) q32 (lt_o (i := i) (c := 2) (d := 3) rfl) ha37 hg38) mi_yX3_init n_150 rfl (by decide +kernel) (by decide) (Nat.le_of_ble_eq_true rfl) (by decide) dX8_init_62 rfl (kV fun M43 ad44 g45 hq46 => ?_)
  obtain ⟨rfl, hA39, hG40, hg41, hg42⟩ := hq46
  have ha47 : zAt ad44 (i + 1 + 1 + 1) (ad44 (i + 1 + 1 + 1)) := rfl
  have ha48 : zAt ad33 (i + 1) (q19) := up_n ea35 ha24 (ne_o (i := i) (c := 1) (d := 2) rfl)
  have ha49 : zAt ad44 (i + 1) (q19) := (hA39 (i + 1) (lt_o (i := i) (c := 1) (d := 3) rfl)).trans ha48
  have hg50 := up_n eg36 hg31 (ne_o (i := i) (c := 1) (d := 2) rfl)
  have hg51 := (hG40 (i + 1) (lt_o (i := i) (c := 1) (d := 3) rfl) (ne_o (i := i) (c := 1) (d := 2) rfl)).trans hg50
  have ha52 : zAt ad44 (i + 1 + 1) (q32) := (hA39 (i + 1 + 1) (lt_o (i := i) (c := 2) (d := 3) rfl)).trans ha37
  refine z_aast (q := (RX3, TX3, 3)) C (lt_o (i := i) (c := 1) (d := 4) rfl) ha49 hg51 3 rfl (lt_o (i := i) (c := 2) (d := 4) rfl) ha52 hg41 rfl (0) (by omega) (by omega) (by decide) dX8_init_65 (fun g53 eg54 => ?_)
  have hg55 := up_s eg54
  refine z_iinc (z := 1) (lv' := [(1, .int (zI (1))), (0, .ref a)]) (j := 0) C dX8_init_66 rfl (congrArg zI (by omega)) (by decide) rfl ?_
  refine z_goto (tgt := 44) C dX8_init_69 (by decide) ?_
  refine z_iload_n C 0 dX8_init_44 rfl ?_
  refine z_aload_n C 1 dX8_init_45 rfl ?_
  have ha56 : zAt ad33 (i) (a) := up_n ea35 ha26 (ne_o (i := i) (c := 0) (d := 2) rfl)
  have ha57 : zAt ad44 (i) (a) := (hA39 (i) (lt_o (i := i) (c := 0) (d := 3) rfl)).trans ha56
  have hg58 := up_n eg36 hg30 (ne_o (i := i) (c := 0) (d := 2) rfl)
  have hg59 := (hG40 (i) (lt_o (i := i) (c := 0) (d := 3) rfl) (ne_o (i := i) (c := 0) (d := 2) rfl)).trans hg58
  have hg60 := up_n eg54 hg59 (ne_o (i := i) (c := 0) (d := 1) rfl)
  refine z_get (v := .ref q19) C (lt_o (i := i) (c := 0) (d := 4) rfl) ha57 hg60 rfl inA_X8 6 (by decide) q_188 rfl rfl dX8_init_46 ?_
  refine z_alen (z := 4) C (lt_o (i := i) (c := 1) (d := 4) rfl) ha49 hg55 3 rfl rfl dX8_init_49 ?_
  refine z_icmp_ge (tgt := 72) C dX8_init_50 (by decide) (by omega) (by omega) (fun h => absurd h (by omega)) (fun _ => ?_)
  refine z_aload_n C 1 dX8_init_53 rfl ?_
  refine z_get (v := .ref q19) C (lt_o (i := i) (c := 0) (d := 4) rfl) ha57 hg60 rfl inA_X8 6 (by decide) q_188 rfl rfl dX8_init_54 ?_
  refine z_iload_n C 0 dX8_init_57 rfl ?_
  refine z_new (fs := [.int (zI (0)), .int (zI (0)), .null]) (ci := 5) C tyX3 tyX3_ok rfl inA_X3 q_147 q_149 q_6 (fun j hj => by rcases (show j = 0 ∨ j = 1 ∨ j = 2 by omega) with rfl | rfl | rfl <;> rfl) (by decide) (by decide) dX8_init_58 (fun q61 ad62 g63 ea64 eg65 => ?_)
  have ha66 : zAt ad62 (i + 1 + 1 + 1 + 1) q61 := up_s ea64
  have hg67 := up_s eg65
  refine z_dup C dX8_init_61 rfl ?_
  refine z_cIN (As := []) (rest := [.ref q61, .int (zI (1)), .ref q19]) C (c_X3_init l D A cs tt _ _ _ (i + 1 + 1 + 1 + 1) q61 (lt_o (i := i) (c := 4) (d := 5) rfl) ha66 hg67) mi_yX3_init n_150 rfl (by decide +kernel) (by decide) (Nat.le_of_ble_eq_true rfl) (by decide) dX8_init_62 rfl (kV fun M72 ad73 g74 hq75 => ?_)
  obtain ⟨rfl, hA68, hG69, hg70, hg71⟩ := hq75
  have ha76 : zAt ad73 (i + 1 + 1 + 1 + 1 + 1) (ad73 (i + 1 + 1 + 1 + 1 + 1)) := rfl
  have ha77 : zAt ad62 (i + 1) (q19) := up_n ea64 ha49 (ne_o (i := i) (c := 1) (d := 4) rfl)
  have ha78 : zAt ad73 (i + 1) (q19) := (hA68 (i + 1) (lt_o (i := i) (c := 1) (d := 5) rfl)).trans ha77
  have hg79 := up_n eg65 hg55 (ne_o (i := i) (c := 1) (d := 4) rfl)
  have hg80 := (hG69 (i + 1) (lt_o (i := i) (c := 1) (d := 5) rfl) (ne_o (i := i) (c := 1) (d := 4) rfl)).trans hg79
  have ha81 : zAt ad73 (i + 1 + 1 + 1 + 1) (q61) := (hA68 (i + 1 + 1 + 1 + 1) (lt_o (i := i) (c := 4) (d := 5) rfl)).trans ha66
  refine z_aast (q := (RX3, TX3, 3)) C (lt_o (i := i) (c := 1) (d := 6) rfl) ha78 hg80 3 rfl (lt_o (i := i) (c := 4) (d := 6) rfl) ha81 hg70 rfl (1) (by omega) (by omega) (by decide) dX8_init_65 (fun g82 eg83 => ?_)
  have hg84 := up_s eg83
  refine z_iinc (z := 2) (lv' := [(1, .int (zI (2))), (0, .ref a)]) (j := 0) C dX8_init_66 rfl (congrArg zI (by omega)) (by decide) rfl ?_
  refine z_goto (tgt := 44) C dX8_init_69 (by decide) ?_
  refine z_iload_n C 0 dX8_init_44 rfl ?_
  refine z_aload_n C 1 dX8_init_45 rfl ?_
  have ha85 : zAt ad62 (i) (a) := up_n ea64 ha57 (ne_o (i := i) (c := 0) (d := 4) rfl)
  have ha86 : zAt ad73 (i) (a) := (hA68 (i) (lt_o (i := i) (c := 0) (d := 5) rfl)).trans ha85
  have hg87 := up_n eg65 hg60 (ne_o (i := i) (c := 0) (d := 4) rfl)
  have hg88 := (hG69 (i) (lt_o (i := i) (c := 0) (d := 5) rfl) (ne_o (i := i) (c := 0) (d := 4) rfl)).trans hg87
  have hg89 := up_n eg83 hg88 (ne_o (i := i) (c := 0) (d := 1) rfl)
  refine z_get (v := .ref q19) C (lt_o (i := i) (c := 0) (d := 6) rfl) ha86 hg89 rfl inA_X8 6 (by decide) q_188 rfl rfl dX8_init_46 ?_
  refine z_alen (z := 4) C (lt_o (i := i) (c := 1) (d := 6) rfl) ha78 hg84 3 rfl rfl dX8_init_49 ?_
  refine z_icmp_ge (tgt := 72) C dX8_init_50 (by decide) (by omega) (by omega) (fun h => absurd h (by omega)) (fun _ => ?_)
  refine z_aload_n C 1 dX8_init_53 rfl ?_
  refine z_get (v := .ref q19) C (lt_o (i := i) (c := 0) (d := 6) rfl) ha86 hg89 rfl inA_X8 6 (by decide) q_188 rfl rfl dX8_init_54 ?_
  refine z_iload_n C 0 dX8_init_57 rfl ?_
  refine z_new (fs := [.int (zI (0)), .int (zI (0)), .null]) (ci := 5) C tyX3 tyX3_ok rfl inA_X3 q_147 q_149 q_6 (fun j hj => by rcases (show j = 0 ∨ j = 1 ∨ j = 2 by omega) with rfl | rfl | rfl <;> rfl) (by decide) (by decide) dX8_init_58 (fun q90 ad91 g92 ea93 eg94 => ?_)
  have ha95 : zAt ad91 (i + 1 + 1 + 1 + 1 + 1 + 1) q90 := up_s ea93
  have hg96 := up_s eg94
  refine z_dup C dX8_init_61 rfl ?_
  refine z_cIN (As := []) (rest := [.ref q90, .int (zI (2)), .ref q19]) C (c_X3_init l D A cs tt _ _ _ (i + 1 + 1 + 1 + 1 + 1 + 1) q90 (lt_o (i := i) (c := 6) (d := 7) rfl) ha95 hg96) mi_yX3_init n_150 rfl (by decide +kernel) (by decide) (Nat.le_of_ble_eq_true rfl) (by decide) dX8_init_62 rfl (kV fun M101 ad102 g103 hq104 => ?_)
  obtain ⟨rfl, hA97, hG98, hg99, hg100⟩ := hq104
  have ha105 : zAt ad102 (i + 1 + 1 + 1 + 1 + 1 + 1 + 1) (ad102 (i + 1 + 1 + 1 + 1 + 1 + 1 + 1)) := rfl
  have ha106 : zAt ad91 (i + 1) (q19) := up_n ea93 ha78 (ne_o (i := i) (c := 1) (d := 6) rfl)
  have ha107 : zAt ad102 (i + 1) (q19) := (hA97 (i + 1) (lt_o (i := i) (c := 1) (d := 7) rfl)).trans ha106
  have hg108 := up_n eg94 hg84 (ne_o (i := i) (c := 1) (d := 6) rfl)
  have hg109 := (hG98 (i + 1) (lt_o (i := i) (c := 1) (d := 7) rfl) (ne_o (i := i) (c := 1) (d := 6) rfl)).trans hg108
  have ha110 : zAt ad102 (i + 1 + 1 + 1 + 1 + 1 + 1) (q90) := (hA97 (i + 1 + 1 + 1 + 1 + 1 + 1) (lt_o (i := i) (c := 6) (d := 7) rfl)).trans ha95
  refine z_aast (q := (RX3, TX3, 3)) C (lt_o (i := i) (c := 1) (d := 8) rfl) ha107 hg109 3 rfl (lt_o (i := i) (c := 6) (d := 8) rfl) ha110 hg99 rfl (2) (by omega) (by omega) (by decide) dX8_init_65 (fun g111 eg112 => ?_)
  have hg113 := up_s eg112
  refine z_iinc (z := 3) (lv' := [(1, .int (zI (3))), (0, .ref a)]) (j := 0) C dX8_init_66 rfl (congrArg zI (by omega)) (by decide) rfl ?_
  refine z_goto (tgt := 44) C dX8_init_69 (by decide) ?_
  refine z_iload_n C 0 dX8_init_44 rfl ?_
  refine z_aload_n C 1 dX8_init_45 rfl ?_
  have ha114 : zAt ad91 (i) (a) := up_n ea93 ha86 (ne_o (i := i) (c := 0) (d := 6) rfl)
  have ha115 : zAt ad102 (i) (a) := (hA97 (i) (lt_o (i := i) (c := 0) (d := 7) rfl)).trans ha114
  have hg116 := up_n eg94 hg89 (ne_o (i := i) (c := 0) (d := 6) rfl)
  have hg117 := (hG98 (i) (lt_o (i := i) (c := 0) (d := 7) rfl) (ne_o (i := i) (c := 0) (d := 6) rfl)).trans hg116
  have hg118 := up_n eg112 hg117 (ne_o (i := i) (c := 0) (d := 1) rfl)
  refine z_get (v := .ref q19) C (lt_o (i := i) (c := 0) (d := 8) rfl) ha115 hg118 rfl inA_X8 6 (by decide) q_188 rfl rfl dX8_init_46 ?_
  refine z_alen (z := 4) C (lt_o (i := i) (c := 1) (d := 8) rfl) ha107 hg113 3 rfl rfl dX8_init_49 ?_
  refine z_icmp_ge (tgt := 72) C dX8_init_50 (by decide) (by omega) (by omega) (fun h => absurd h (by omega)) (fun _ => ?_)
  refine z_aload_n C 1 dX8_init_53 rfl ?_
  refine z_get (v := .ref q19) C (lt_o (i := i) (c := 0) (d := 8) rfl) ha115 hg118 rfl inA_X8 6 (by decide) q_188 rfl rfl dX8_init_54 ?_
  refine z_iload_n C 0 dX8_init_57 rfl ?_
  refine z_new (fs := [.int (zI (0)), .int (zI (0)), .null]) (ci := 5) C tyX3 tyX3_ok rfl inA_X3 q_147 q_149 q_6 (fun j hj => by rcases (show j = 0 ∨ j = 1 ∨ j = 2 by omega) with rfl | rfl | rfl <;> rfl) (by decide) (by decide) dX8_init_58 (fun q119 ad120 g121 ea122 eg123 => ?_)
  have ha124 : zAt ad120 (i + 1 + 1 + 1 + 1 + 1 + 1 + 1 + 1) q119 := up_s ea122
  have hg125 := up_s eg123
  refine z_dup C dX8_init_61 rfl ?_
  refine z_cIN (As := []) (rest := [.ref q119, .int (zI (3)), .ref q19]) C (c_X3_init l D A cs tt _ _ _ (i + 1 + 1 + 1 + 1 + 1 + 1 + 1 + 1) q119 (lt_o (i := i) (c := 8) (d := 9) rfl) ha124 hg125) mi_yX3_init n_150 rfl (by decide +kernel) (by decide) (Nat.le_of_ble_eq_true rfl) (by decide) dX8_init_62 rfl (kV fun M130 ad131 g132 hq133 => ?_)
  obtain ⟨rfl, hA126, hG127, hg128, hg129⟩ := hq133
  have ha134 : zAt ad131 (i + 1 + 1 + 1 + 1 + 1 + 1 + 1 + 1 + 1) (ad131 (i + 1 + 1 + 1 + 1 + 1 + 1 + 1 + 1 + 1)) := rfl
  have ha135 : zAt ad120 (i + 1) (q19) := up_n ea122 ha107 (ne_o (i := i) (c := 1) (d := 8) rfl)
  have ha136 : zAt ad131 (i + 1) (q19) := (hA126 (i + 1) (lt_o (i := i) (c := 1) (d := 9) rfl)).trans ha135
  have hg137 := up_n eg123 hg113 (ne_o (i := i) (c := 1) (d := 8) rfl)
  have hg138 := (hG127 (i + 1) (lt_o (i := i) (c := 1) (d := 9) rfl) (ne_o (i := i) (c := 1) (d := 8) rfl)).trans hg137
  have ha139 : zAt ad131 (i + 1 + 1 + 1 + 1 + 1 + 1 + 1 + 1) (q119) := (hA126 (i + 1 + 1 + 1 + 1 + 1 + 1 + 1 + 1) (lt_o (i := i) (c := 8) (d := 9) rfl)).trans ha124
  refine z_aast (q := (RX3, TX3, 3)) C (lt_o (i := i) (c := 1) (d := 10) rfl) ha136 hg138 3 rfl (lt_o (i := i) (c := 8) (d := 10) rfl) ha139 hg128 rfl (3) (by omega) (by omega) (by decide) dX8_init_65 (fun g140 eg141 => ?_)
  have hg142 := up_s eg141
  refine z_iinc (z := 4) (lv' := [(1, .int (zI (4))), (0, .ref a)]) (j := 0) C dX8_init_66 rfl (congrArg zI (by omega)) (by decide) rfl ?_
  refine z_goto (tgt := 44) C dX8_init_69 (by decide) ?_
  refine z_iload_n C 0 dX8_init_44 rfl ?_
  refine z_aload_n C 1 dX8_init_45 rfl ?_
  have ha143 : zAt ad120 (i) (a) := up_n ea122 ha115 (ne_o (i := i) (c := 0) (d := 8) rfl)
  have ha144 : zAt ad131 (i) (a) := (hA126 (i) (lt_o (i := i) (c := 0) (d := 9) rfl)).trans ha143
  have hg145 := up_n eg123 hg118 (ne_o (i := i) (c := 0) (d := 8) rfl)
  have hg146 := (hG127 (i) (lt_o (i := i) (c := 0) (d := 9) rfl) (ne_o (i := i) (c := 0) (d := 8) rfl)).trans hg145
  have hg147 := up_n eg141 hg146 (ne_o (i := i) (c := 0) (d := 1) rfl)
  refine z_get (v := .ref q19) C (lt_o (i := i) (c := 0) (d := 10) rfl) ha144 hg147 rfl inA_X8 6 (by decide) q_188 rfl rfl dX8_init_46 ?_
  refine z_alen (z := 4) C (lt_o (i := i) (c := 1) (d := 10) rfl) ha136 hg142 3 rfl rfl dX8_init_49 ?_
  refine z_icmp_ge (tgt := 72) C dX8_init_50 (by decide) (by omega) (by omega) (fun _ => ?_) (fun h => absurd h (by omega))
  have ha148 : zAt ad62 (i + 1 + 1) (q32) := up_n ea64 ha52 (ne_o (i := i) (c := 2) (d := 4) rfl)
  have ha149 : zAt ad73 (i + 1 + 1) (q32) := (hA68 (i + 1 + 1) (lt_o (i := i) (c := 2) (d := 5) rfl)).trans ha148
  have ha150 : zAt ad91 (i + 1 + 1) (q32) := up_n ea93 ha149 (ne_o (i := i) (c := 2) (d := 6) rfl)
  have ha151 : zAt ad102 (i + 1 + 1) (q32) := (hA97 (i + 1 + 1) (lt_o (i := i) (c := 2) (d := 7) rfl)).trans ha150
  have ha152 : zAt ad120 (i + 1 + 1) (q32) := up_n ea122 ha151 (ne_o (i := i) (c := 2) (d := 8) rfl)
  have ha153 : zAt ad131 (i + 1 + 1) (q32) := (hA126 (i + 1 + 1) (lt_o (i := i) (c := 2) (d := 9) rfl)).trans ha152
  have hg154 := up_n eg54 hg41 (ne_o (i := i) (c := 2) (d := 1) rfl)
  have hg155 := up_n eg65 hg154 (ne_o (i := i) (c := 2) (d := 4) rfl)
  have hg156 := (hG69 (i + 1 + 1) (lt_o (i := i) (c := 2) (d := 5) rfl) (ne_o (i := i) (c := 2) (d := 4) rfl)).trans hg155
  have hg157 := up_n eg83 hg156 (ne_o (i := i) (c := 2) (d := 1) rfl)
  have hg158 := up_n eg94 hg157 (ne_o (i := i) (c := 2) (d := 6) rfl)
  have hg159 := (hG98 (i + 1 + 1) (lt_o (i := i) (c := 2) (d := 7) rfl) (ne_o (i := i) (c := 2) (d := 6) rfl)).trans hg158
  have hg160 := up_n eg112 hg159 (ne_o (i := i) (c := 2) (d := 1) rfl)
  have hg161 := up_n eg123 hg160 (ne_o (i := i) (c := 2) (d := 8) rfl)
  have hg162 := (hG127 (i + 1 + 1) (lt_o (i := i) (c := 2) (d := 9) rfl) (ne_o (i := i) (c := 2) (d := 8) rfl)).trans hg161
  have hg163 := up_n eg141 hg162 (ne_o (i := i) (c := 2) (d := 1) rfl)
  have ha164 : zAt ad62 (i + 1 + 1 + 1) (ad44 (i + 1 + 1 + 1)) := up_n ea64 ha47 (ne_o (i := i) (c := 3) (d := 4) rfl)
  have ha165 : zAt ad73 (i + 1 + 1 + 1) (ad44 (i + 1 + 1 + 1)) := (hA68 (i + 1 + 1 + 1) (lt_o (i := i) (c := 3) (d := 5) rfl)).trans ha164
  have ha166 : zAt ad91 (i + 1 + 1 + 1) (ad44 (i + 1 + 1 + 1)) := up_n ea93 ha165 (ne_o (i := i) (c := 3) (d := 6) rfl)
  have ha167 : zAt ad102 (i + 1 + 1 + 1) (ad44 (i + 1 + 1 + 1)) := (hA97 (i + 1 + 1 + 1) (lt_o (i := i) (c := 3) (d := 7) rfl)).trans ha166
  have ha168 : zAt ad120 (i + 1 + 1 + 1) (ad44 (i + 1 + 1 + 1)) := up_n ea122 ha167 (ne_o (i := i) (c := 3) (d := 8) rfl)
  have ha169 : zAt ad131 (i + 1 + 1 + 1) (ad44 (i + 1 + 1 + 1)) := (hA126 (i + 1 + 1 + 1) (lt_o (i := i) (c := 3) (d := 9) rfl)).trans ha168
  have hg170 := up_n eg54 hg42 (ne_o (i := i) (c := 3) (d := 1) rfl)
  have hg171 := up_n eg65 hg170 (ne_o (i := i) (c := 3) (d := 4) rfl)
  have hg172 := (hG69 (i + 1 + 1 + 1) (lt_o (i := i) (c := 3) (d := 5) rfl) (ne_o (i := i) (c := 3) (d := 4) rfl)).trans hg171
  have hg173 := up_n eg83 hg172 (ne_o (i := i) (c := 3) (d := 1) rfl)
  have hg174 := up_n eg94 hg173 (ne_o (i := i) (c := 3) (d := 6) rfl)
  have hg175 := (hG98 (i + 1 + 1 + 1) (lt_o (i := i) (c := 3) (d := 7) rfl) (ne_o (i := i) (c := 3) (d := 6) rfl)).trans hg174
  have hg176 := up_n eg112 hg175 (ne_o (i := i) (c := 3) (d := 1) rfl)
  have hg177 := up_n eg123 hg176 (ne_o (i := i) (c := 3) (d := 8) rfl)
  have hg178 := (hG127 (i + 1 + 1 + 1) (lt_o (i := i) (c := 3) (d := 9) rfl) (ne_o (i := i) (c := 3) (d := 8) rfl)).trans hg177
  have hg179 := up_n eg141 hg178 (ne_o (i := i) (c := 3) (d := 1) rfl)
  have ha180 : zAt ad91 (i + 1 + 1 + 1 + 1) (q61) := up_n ea93 ha81 (ne_o (i := i) (c := 4) (d := 6) rfl)
  have ha181 : zAt ad102 (i + 1 + 1 + 1 + 1) (q61) := (hA97 (i + 1 + 1 + 1 + 1) (lt_o (i := i) (c := 4) (d := 7) rfl)).trans ha180
  have ha182 : zAt ad120 (i + 1 + 1 + 1 + 1) (q61) := up_n ea122 ha181 (ne_o (i := i) (c := 4) (d := 8) rfl)
  have ha183 : zAt ad131 (i + 1 + 1 + 1 + 1) (q61) := (hA126 (i + 1 + 1 + 1 + 1) (lt_o (i := i) (c := 4) (d := 9) rfl)).trans ha182
  have hg184 := up_n eg83 hg70 (ne_o (i := i) (c := 4) (d := 1) rfl)
  have hg185 := up_n eg94 hg184 (ne_o (i := i) (c := 4) (d := 6) rfl)
  have hg186 := (hG98 (i + 1 + 1 + 1 + 1) (lt_o (i := i) (c := 4) (d := 7) rfl) (ne_o (i := i) (c := 4) (d := 6) rfl)).trans hg185
  have hg187 := up_n eg112 hg186 (ne_o (i := i) (c := 4) (d := 1) rfl)
  have hg188 := up_n eg123 hg187 (ne_o (i := i) (c := 4) (d := 8) rfl)
  have hg189 := (hG127 (i + 1 + 1 + 1 + 1) (lt_o (i := i) (c := 4) (d := 9) rfl) (ne_o (i := i) (c := 4) (d := 8) rfl)).trans hg188
  have hg190 := up_n eg141 hg189 (ne_o (i := i) (c := 4) (d := 1) rfl)
  have ha191 : zAt ad91 (i + 1 + 1 + 1 + 1 + 1) (ad73 (i + 1 + 1 + 1 + 1 + 1)) := up_n ea93 ha76 (ne_o (i := i) (c := 5) (d := 6) rfl)
  have ha192 : zAt ad102 (i + 1 + 1 + 1 + 1 + 1) (ad73 (i + 1 + 1 + 1 + 1 + 1)) := (hA97 (i + 1 + 1 + 1 + 1 + 1) (lt_o (i := i) (c := 5) (d := 7) rfl)).trans ha191
  have ha193 : zAt ad120 (i + 1 + 1 + 1 + 1 + 1) (ad73 (i + 1 + 1 + 1 + 1 + 1)) := up_n ea122 ha192 (ne_o (i := i) (c := 5) (d := 8) rfl)
  have ha194 : zAt ad131 (i + 1 + 1 + 1 + 1 + 1) (ad73 (i + 1 + 1 + 1 + 1 + 1)) := (hA126 (i + 1 + 1 + 1 + 1 + 1) (lt_o (i := i) (c := 5) (d := 9) rfl)).trans ha193
  have hg195 := up_n eg83 hg71 (ne_o (i := i) (c := 5) (d := 1) rfl)
  have hg196 := up_n eg94 hg195 (ne_o (i := i) (c := 5) (d := 6) rfl)
  have hg197 := (hG98 (i + 1 + 1 + 1 + 1 + 1) (lt_o (i := i) (c := 5) (d := 7) rfl) (ne_o (i := i) (c := 5) (d := 6) rfl)).trans hg196
  have hg198 := up_n eg112 hg197 (ne_o (i := i) (c := 5) (d := 1) rfl)
  have hg199 := up_n eg123 hg198 (ne_o (i := i) (c := 5) (d := 8) rfl)
  have hg200 := (hG127 (i + 1 + 1 + 1 + 1 + 1) (lt_o (i := i) (c := 5) (d := 9) rfl) (ne_o (i := i) (c := 5) (d := 8) rfl)).trans hg199
  have hg201 := up_n eg141 hg200 (ne_o (i := i) (c := 5) (d := 1) rfl)
  have ha202 : zAt ad120 (i + 1 + 1 + 1 + 1 + 1 + 1) (q90) := up_n ea122 ha110 (ne_o (i := i) (c := 6) (d := 8) rfl)
  have ha203 : zAt ad131 (i + 1 + 1 + 1 + 1 + 1 + 1) (q90) := (hA126 (i + 1 + 1 + 1 + 1 + 1 + 1) (lt_o (i := i) (c := 6) (d := 9) rfl)).trans ha202
  have hg204 := up_n eg112 hg99 (ne_o (i := i) (c := 6) (d := 1) rfl)
  have hg205 := up_n eg123 hg204 (ne_o (i := i) (c := 6) (d := 8) rfl)
  have hg206 := (hG127 (i + 1 + 1 + 1 + 1 + 1 + 1) (lt_o (i := i) (c := 6) (d := 9) rfl) (ne_o (i := i) (c := 6) (d := 8) rfl)).trans hg205
  have hg207 := up_n eg141 hg206 (ne_o (i := i) (c := 6) (d := 1) rfl)
  have ha208 : zAt ad120 (i + 1 + 1 + 1 + 1 + 1 + 1 + 1) (ad102 (i + 1 + 1 + 1 + 1 + 1 + 1 + 1)) := up_n ea122 ha105 (ne_o (i := i) (c := 7) (d := 8) rfl)
  have ha209 : zAt ad131 (i + 1 + 1 + 1 + 1 + 1 + 1 + 1) (ad102 (i + 1 + 1 + 1 + 1 + 1 + 1 + 1)) := (hA126 (i + 1 + 1 + 1 + 1 + 1 + 1 + 1) (lt_o (i := i) (c := 7) (d := 9) rfl)).trans ha208
  have hg210 := up_n eg112 hg100 (ne_o (i := i) (c := 7) (d := 1) rfl)
  have hg211 := up_n eg123 hg210 (ne_o (i := i) (c := 7) (d := 8) rfl)
  have hg212 := (hG127 (i + 1 + 1 + 1 + 1 + 1 + 1 + 1) (lt_o (i := i) (c := 7) (d := 9) rfl) (ne_o (i := i) (c := 7) (d := 8) rfl)).trans hg211
  have hg213 := up_n eg141 hg212 (ne_o (i := i) (c := 7) (d := 1) rfl)
  have hg214 := up_n eg141 hg128 (ne_o (i := i) (c := 8) (d := 1) rfl)
  have hg215 := up_n eg141 hg129 (ne_o (i := i) (c := 9) (d := 1) rfl)
  have hr4 : ∀ k, k < 4 → (va_up (va_up (va_up (va_up (fun _ => none) (0) (some q32)) (1) (some q61)) (2) (some q90)) (3) (some q119)) k = some (ad131 (i + 2 + 2 * k)) := by
    intro k hk
    rcases (show k = 0 ∨ k = 1 ∨ k = 2 ∨ k = 3 by omega) with rfl | rfl | rfl | rfl
    · exact congrArg some (Eq.symm ha153)
    · exact congrArg some (Eq.symm ha183)
    · exact congrArg some (Eq.symm ha203)
    · exact congrArg some (Eq.symm ha139)
  have hp4 : ∀ k, k < 4 → isPack cs ad131 g140 (i + 2 + 2 * k) 0 0 (fun _ => 0) := by
    intro k hk
    rcases (show k = 0 ∨ k = 1 ∨ k = 2 ∨ k = 3 by omega) with rfl | rfl | rfl | rfl
    · exact ⟨by rw [← (show ad131 (i + 1 + 1 + 1) = _ from ha169)] at hg163; exact hg163, hg179⟩
    · exact ⟨by rw [← (show ad131 (i + 1 + 1 + 1 + 1 + 1) = _ from ha194)] at hg190; exact hg190, hg201⟩
    · exact ⟨by rw [← (show ad131 (i + 1 + 1 + 1 + 1 + 1 + 1 + 1) = _ from ha209)] at hg207; exact hg207, hg213⟩
    · exact ⟨by rw [← (show ad131 (i + 1 + 1 + 1 + 1 + 1 + 1 + 1 + 1 + 1) = _ from ha134)] at hg214; exact hg214, hg215⟩
  exact z_vret C hr hlk dX8_init_72 (by decide) (by decide) (⟨rfl, rfl, fun j h1 => by rw [hA126 _ (by omega)]; rw [ea122, va_up_ne _ _ (by omega)]; rw [hA97 _ (by omega)]; rw [ea93, va_up_ne _ _ (by omega)]; rw [hA68 _ (by omega)]; rw [ea64, va_up_ne _ _ (by omega)]; rw [hA39 _ (by omega)]; rw [ea35, va_up_ne _ _ (by omega)]; rw [ea22, va_up_ne _ _ (by omega)], fun j h1 h2 => by rw [eg141, va_up_ne _ _ (by omega)]; rw [hG127 _ (by omega) (by omega)]; rw [eg123, va_up_ne _ _ (by omega)]; rw [eg112, va_up_ne _ _ (by omega)]; rw [hG98 _ (by omega) (by omega)]; rw [eg94, va_up_ne _ _ (by omega)]; rw [eg83, va_up_ne _ _ (by omega)]; rw [hG69 _ (by omega) (by omega)]; rw [eg65, va_up_ne _ _ (by omega)]; rw [eg54, va_up_ne _ _ (by omega)]; rw [hG40 _ (by omega) (by omega)]; rw [eg36, va_up_ne _ _ (by omega)]; rw [eg29, va_up_ne _ _ (by omega)]; rw [eg23, va_up_ne _ _ (by omega)]; rw [eg17, va_up_ne _ _ (by omega)]; rw [eg14, va_up_ne _ _ (by omega)]; rw [eg11, va_up_ne _ _ (by omega)]; rw [eg8, va_up_ne _ _ (by omega)]; rw [eg5, va_up_ne _ _ (by omega)]; rw [eg2, va_up_ne _ _ (by omega)], by rw [← (show ad131 (i + 1) = _ from ha136)] at hg147; exact hg147, ⟨_, hg142, hr4⟩, hp4⟩)

theorem isPack.mv {cs : Nat → ClassId} {ad ad' : Nat → Nat} {g g' : Nat → va_E} {i : Nat} {sz ro : Int} {r : Nat → Int} (hA : ∀ j, i ≤ j → j < i + 2 → ad' j = ad j) (hG : ∀ j, i ≤ j → j < i + 2 → g' j = g j) (h : isPack cs ad g i sz ro r) : isPack cs ad' g' i sz ro r := by
  obtain ⟨h1, h2⟩ := h
  exact ⟨by rw [hG _ (by omega) (by omega), hA _ (by omega) (by omega)]; exact h1, by rw [hG _ (by omega) (by omega)]; exact h2⟩
theorem isWorld.mv {cs : Nat → ClassId} {ad ad' : Nat → Nat} {g g' : Nat → va_E} {i : Nat} {t sz ro : Nat → Int} {r : Nat → Nat → Int} (hA : ∀ j, i ≤ j → j < i + 10 → ad' j = ad j) (hG : ∀ j, i ≤ j → j < i + 10 → g' j = g j) (h : isWorld cs ad g i t sz ro r) : isWorld cs ad' g' i t sz ro r := by
  obtain ⟨h1, ⟨a, h2, h3⟩, h4⟩ := h
  exact ⟨by rw [hG _ (by omega) (by omega), hA _ (by omega) (by omega)]; exact h1, ⟨a, by rw [hG _ (by omega) (by omega)]; exact h2, fun k hk => by rw [hA _ (by omega) (by omega)]; exact h3 k hk⟩, fun k hk => (h4 k hk).mv (fun j _ _ => hA j (by omega) (by omega)) (fun j _ _ => hG j (by omega) (by omega))⟩
def isNotes (cs : Nat → ClassId) (ad : Nat → Nat) (g : Nat → va_E) (i : Nat) (sz : Int) (a b d : Nat → Int) : Prop := g i = oC 4 [.int (zI sz), .ref (ad (i + 1)), .ref (ad (i + 2)), .ref (ad (i + 3))] ∧ g (i + 1) = iA cs 8 a ∧ g (i + 2) = iA cs 8 b ∧ g (i + 3) = iA cs 8 d
theorem isNotes.mv {cs : Nat → ClassId} {ad ad' : Nat → Nat} {g g' : Nat → va_E} {i : Nat} {sz : Int} {a b d : Nat → Int} (hA : ∀ j, i ≤ j → j < i + 4 → ad' j = ad j) (hG : ∀ j, i ≤ j → j < i + 4 → g' j = g j) (h : isNotes cs ad g i sz a b d) : isNotes cs ad' g' i sz a b d := by
  obtain ⟨h1, h2, h3, h4⟩ := h
  exact ⟨by rw [hG _ (by omega) (by omega), hA _ (by omega) (by omega), hA _ (by omega) (by omega), hA _ (by omega) (by omega)]; exact h1, by rw [hG _ (by omega) (by omega)]; exact h2, by rw [hG _ (by omega) (by omega)]; exact h3, by rw [hG _ (by omega) (by omega)]; exact h4⟩
def isPit (cs : Nat → ClassId) (ad : Nat → Nat) (g : Nat → va_E) (i : Nat) (sl ti sz ro : Int) (r : Nat → Int) : Prop := g i = oC 6 [.int (zI sl), .int (zI ti), .ref (ad (i + 1))] ∧ isPack cs ad g (i + 1) sz ro r
theorem isPit.mv {cs : Nat → ClassId} {ad ad' : Nat → Nat} {g g' : Nat → va_E} {i : Nat} {sl ti sz ro : Int} {r : Nat → Int} (hA : ∀ j, i ≤ j → j < i + 3 → ad' j = ad j) (hG : ∀ j, i ≤ j → j < i + 3 → g' j = g j) (h : isPit cs ad g i sl ti sz ro r) : isPit cs ad' g' i sl ti sz ro r := by
  obtain ⟨h1, h2⟩ := h
  exact ⟨by rw [hG _ (by omega) (by omega), hA _ (by omega) (by omega)]; exact h1, h2.mv (fun j _ _ => hA j (by omega) (by omega)) (fun j _ _ => hG j (by omega) (by omega))⟩
def isPlan (cs : Nat → ClassId) (ad : Nat → Nat) (g : Nat → va_E) (i : Nat) (sl ho ua : Int) (st op ai fa mu tb : Nat → Int) : Prop := g i = oC 7 [.int (zI sl), .int (zI ho), .int (zI ua), .ref (ad (i + 1)), .ref (ad (i + 2)), .ref (ad (i + 3)), .ref (ad (i + 4)), .ref (ad (i + 5)), .ref (ad (i + 6))] ∧ g (i + 1) = iA cs 4 st ∧ g (i + 2) = iA cs 4 op ∧ g (i + 3) = iA cs 24 ai ∧ g (i + 4) = iA cs 24 fa ∧ g (i + 5) = iA cs 24 mu ∧ g (i + 6) = iA cs 15 tb
theorem isPlan.mv {cs : Nat → ClassId} {ad ad' : Nat → Nat} {g g' : Nat → va_E} {i : Nat} {sl ho ua : Int} {st op ai fa mu tb : Nat → Int} (hA : ∀ j, i ≤ j → j < i + 7 → ad' j = ad j) (hG : ∀ j, i ≤ j → j < i + 7 → g' j = g j) (h : isPlan cs ad g i sl ho ua st op ai fa mu tb) : isPlan cs ad' g' i sl ho ua st op ai fa mu tb := by
  obtain ⟨h1, h2, h3, h4, h5, h6, h7⟩ := h
  exact ⟨by rw [hG _ (by omega) (by omega), hA _ (by omega) (by omega), hA _ (by omega) (by omega), hA _ (by omega) (by omega), hA _ (by omega) (by omega), hA _ (by omega) (by omega), hA _ (by omega) (by omega)]; exact h1, by rw [hG _ (by omega) (by omega)]; exact h2, by rw [hG _ (by omega) (by omega)]; exact h3, by rw [hG _ (by omega) (by omega)]; exact h4, by rw [hG _ (by omega) (by omega)]; exact h5, by rw [hG _ (by omega) (by omega)]; exact h6, by rw [hG _ (by omega) (by omega)]; exact h7⟩
def isRdr (cs : Nat → ClassId) (ad : Nat → Nat) (g : Nat → va_E) (i : Nat) : Prop := g i = oC 9 [.int (zI (-1)), .int (zI 0), .ref (ad (i + 1)), .int (zI 0), .int (zI 0), .int (zI 0), .int (zI 0), .int (zI 0), .int (zI 0)] ∧ g (i + 1) = bA cs 0 (fun _ => 0)
theorem isRdr.mv {cs : Nat → ClassId} {ad ad' : Nat → Nat} {g g' : Nat → va_E} {i : Nat} (hA : ∀ j, i ≤ j → j < i + 2 → ad' j = ad j) (hG : ∀ j, i ≤ j → j < i + 2 → g' j = g j) (h : isRdr cs ad g i) : isRdr cs ad' g' i := by
  obtain ⟨h1, h2⟩ := h
  exact ⟨by rw [hG _ (by omega) (by omega), hA _ (by omega) (by omega)]; exact h1, by rw [hG _ (by omega) (by omega)]; exact h2⟩
def isLike (cs : Nat → ClassId) (ad : Nat → Nat) (g : Nat → va_E) (i : Nat) (r : Nat → Int) : Prop := g i = oC 3 [.ref (ad (i + 1))] ∧ g (i + 1) = iA cs 13 r
theorem isLike.mv {cs : Nat → ClassId} {ad ad' : Nat → Nat} {g g' : Nat → va_E} {i : Nat} {r : Nat → Int} (hA : ∀ j, i ≤ j → j < i + 2 → ad' j = ad j) (hG : ∀ j, i ≤ j → j < i + 2 → g' j = g j) (h : isLike cs ad g i r) : isLike cs ad' g' i r := by
  obtain ⟨h1, h2⟩ := h
  exact ⟨by rw [hG _ (by omega) (by omega), hA _ (by omega) (by omega)]; exact h1, by rw [hG _ (by omega) (by omega)]; exact h2⟩
def isBld (cs : Nat → ClassId) (ad : Nat → Nat) (g : Nat → va_E) (i : Nat) : Prop := g i = oC 1 [.ref (ad (i + 1)), .int (zI 0), .int (zI 0), .int (zI 0)] ∧ g (i + 1) = bA cs 16 (fun _ => 0)
theorem isBld.mv {cs : Nat → ClassId} {ad ad' : Nat → Nat} {g g' : Nat → va_E} {i : Nat} (hA : ∀ j, i ≤ j → j < i + 2 → ad' j = ad j) (hG : ∀ j, i ≤ j → j < i + 2 → g' j = g j) (h : isBld cs ad g i) : isBld cs ad' g' i := by
  obtain ⟨h1, h2⟩ := h
  exact ⟨by rw [hG _ (by omega) (by omega), hA _ (by omega) (by omega)]; exact h1, by rw [hG _ (by omega) (by omega)]; exact h2⟩
def isGss (cs : Nat → ClassId) (ad : Nat → Nat) (g : Nat → va_E) (i : Nat) (mn fi : Int) (u : Nat → Int) (q : Nat → Nat → Int) : Prop := g i = oC 2 [.int (zI mn), .int (zI fi), .ref (ad (i + 1)), .ref (ad (i + 2))] ∧ g (i + 1) = iA cs 4 u ∧ (∃ a : Nat → Option Nat, g (i + 2) = rA (cs 6) 4 a ∧ ∀ k, k < 4 → a k = some (ad (i + 3 + k))) ∧ ∀ k, k < 4 → g (i + 3 + k) = iA cs 1200 (q k)
theorem isGss.mv {cs : Nat → ClassId} {ad ad' : Nat → Nat} {g g' : Nat → va_E} {i : Nat} {mn fi : Int} {u : Nat → Int} {q : Nat → Nat → Int} (hA : ∀ j, i ≤ j → j < i + 7 → ad' j = ad j) (hG : ∀ j, i ≤ j → j < i + 7 → g' j = g j) (h : isGss cs ad g i mn fi u q) : isGss cs ad' g' i mn fi u q := by
  obtain ⟨h1, h2, ⟨a, h3, h4⟩, h5⟩ := h
  exact ⟨by rw [hG _ (by omega) (by omega), hA _ (by omega) (by omega), hA _ (by omega) (by omega)]; exact h1, by rw [hG _ (by omega) (by omega)]; exact h2, ⟨a, by rw [hG _ (by omega) (by omega)]; exact h3, fun k hk => by rw [hA _ (by omega) (by omega)]; exact h4 k hk⟩, fun k hk => by rw [hG _ (by omega) (by omega)]; exact h5 k hk⟩

set_option maxRecDepth 100000 in
set_option maxHeartbeats 4000000 in
theorem c_X2_init (l : Launch) (D : va_G) (A : Nat → Prop) (cs : Nat → ClassId) (tt : Nat) (ad : Nat → Nat) (g : Nat → va_E) (i a : Nat) (ha : ad i = a) (hg : g i = oC 4 [.int (zI 0), .null, .null, .null]) : zM l yX2_init cX2_init 1 none ({ frames := 1, cells := 3, slots := 24, locals := 60 } : Room) D A cs tt (i + 1) ad g [.ref a] (rV fun N' ad' g' => N' = i + 4 ∧ (∀ j, j < i + 1 → ad' j = ad j) ∧ (∀ j, j < i + 1 → j ≠ i → g' j = g j) ∧ isNotes cs ad' g' i 0 (fun _ => 0) (fun _ => 0) (fun _ => 0)) := by
  refine z_of (by decide) (Nat.le_of_ble_eq_true rfl) ?_
  intro p e s m below meth c C hr hlk hnm
  refine z_lv (lv' := [(0, .ref a)]) [0] rfl ?_
  refine z_aload_n C 0 dX2_init_0 rfl ?_
  refine z_objInit C q_215 q_35 q_36 dX2_init_1 (Nat.le_of_ble_eq_true rfl) (Nat.le_of_ble_eq_true rfl) ?_
  refine z_aload_n C 0 dX2_init_4 rfl ?_
  refine z_iconst (z := 0) C dX2_init_5 rfl ?_
  refine z_put (fs' := [.int (zI (0)), .null, .null, .null]) C (lt_o (i := i) (c := 0) (d := 1) rfl) ha hg tyX2 tyX2_ok nmX2 rfl inA_X2 0 (by decide) q_216 rfl rfl rfl rfl (Nat.le_of_ble_eq_true rfl) rfl dX2_init_6 (fun g1 eg2 => ?_)
  have hg3 := up_s eg2
  refine z_aload_n C 0 dX2_init_9 rfl ?_
  refine z_bipush (z := 8) C dX2_init_10 (by decide) ?_
  refine z_newI C 8 rfl q_134 (by decide) (by decide) (by decide) dX2_init_12 (fun q4 ad5 g6 ea7 eg8 => ?_)
  have ha9 : zAt ad5 (i + 1) q4 := up_s ea7
  have hg10 := up_s eg8
  have ha11 : zAt ad5 (i) (a) := up_n ea7 ha (ne_o (i := i) (c := 0) (d := 1) rfl)
  have hg12 := up_n eg8 hg3 (ne_o (i := i) (c := 0) (d := 1) rfl)
  refine z_putF (fs' := [.int (zI (0)), .ref q4, .null, .null]) C (lt_o (i := i) (c := 0) (d := 2) rfl) ha11 hg12 tyX2 tyX2_ok nmX2 rfl inA_X2 1 (by decide) q_219 rfl rfl hnm rfl rfl rfl (Nat.le_of_ble_eq_true rfl) rfl dX2_init_14 (fun g13 eg14 => ?_)
  have hg15 := up_s eg14
  refine z_aload_n C 0 dX2_init_17 rfl ?_
  refine z_bipush (z := 8) C dX2_init_18 (by decide) ?_
  refine z_newI C 8 rfl q_134 (by decide) (by decide) (by decide) dX2_init_20 (fun q16 ad17 g18 ea19 eg20 => ?_)
  have ha21 : zAt ad17 (i + 1 + 1) q16 := up_s ea19
  have hg22 := up_s eg20
  have ha23 : zAt ad17 (i) (a) := up_n ea19 ha11 (ne_o (i := i) (c := 0) (d := 2) rfl)
  have hg24 := up_n eg20 hg15 (ne_o (i := i) (c := 0) (d := 2) rfl)
  refine z_putF (fs' := [.int (zI (0)), .ref q4, .ref q16, .null]) C (lt_o (i := i) (c := 0) (d := 3) rfl) ha23 hg24 tyX2 tyX2_ok nmX2 rfl inA_X2 2 (by decide) q_221 rfl rfl hnm rfl rfl rfl (Nat.le_of_ble_eq_true rfl) rfl dX2_init_22 (fun g25 eg26 => ?_)
  have hg27 := up_s eg26
  refine z_aload_n C 0 dX2_init_25 rfl ?_
  refine z_bipush (z := 8) C dX2_init_26 (by decide) ?_
  refine z_newI C 8 rfl q_134 (by decide) (by decide) (by decide) dX2_init_28 (fun q28 ad29 g30 ea31 eg32 => ?_)
  have ha33 : zAt ad29 (i + 1 + 1 + 1) q28 := up_s ea31
  have hg34 := up_s eg32
  have ha35 : zAt ad29 (i) (a) := up_n ea31 ha23 (ne_o (i := i) (c := 0) (d := 3) rfl)
  have hg36 := up_n eg32 hg27 (ne_o (i := i) (c := 0) (d := 3) rfl)
  refine z_putF (fs' := [.int (zI (0)), .ref q4, .ref q16, .ref q28]) C (lt_o (i := i) (c := 0) (d := 4) rfl) ha35 hg36 tyX2 tyX2_ok nmX2 rfl inA_X2 3 (by decide) q_223 rfl rfl hnm rfl rfl rfl (Nat.le_of_ble_eq_true rfl) rfl dX2_init_30 (fun g37 eg38 => ?_)
  have hg39 := up_s eg38
  have ha40 : zAt ad17 (i + 1) (q4) := up_n ea19 ha9 (ne_o (i := i) (c := 1) (d := 2) rfl)
  have ha41 : zAt ad29 (i + 1) (q4) := up_n ea31 ha40 (ne_o (i := i) (c := 1) (d := 3) rfl)
  have ha42 : zAt ad29 (i + 1 + 1) (q16) := up_n ea31 ha21 (ne_o (i := i) (c := 2) (d := 3) rfl)
  have hg43 := up_n eg14 hg10 (ne_o (i := i) (c := 1) (d := 0) rfl)
  have hg44 := up_n eg20 hg43 (ne_o (i := i) (c := 1) (d := 2) rfl)
  have hg45 := up_n eg26 hg44 (ne_o (i := i) (c := 1) (d := 0) rfl)
  have hg46 := up_n eg32 hg45 (ne_o (i := i) (c := 1) (d := 3) rfl)
  have hg47 := up_n eg38 hg46 (ne_o (i := i) (c := 1) (d := 0) rfl)
  have hg48 := up_n eg26 hg22 (ne_o (i := i) (c := 2) (d := 0) rfl)
  have hg49 := up_n eg32 hg48 (ne_o (i := i) (c := 2) (d := 3) rfl)
  have hg50 := up_n eg38 hg49 (ne_o (i := i) (c := 2) (d := 0) rfl)
  have hg51 := up_n eg38 hg34 (ne_o (i := i) (c := 3) (d := 0) rfl)
  exact z_vret C hr hlk dX2_init_33 (by decide) (by decide) (⟨rfl, rfl, fun j h1 => by rw [ea31, va_up_ne _ _ (by omega)]; rw [ea19, va_up_ne _ _ (by omega)]; rw [ea7, va_up_ne _ _ (by omega)], fun j h1 h2 => by rw [eg38, va_up_ne _ _ (by omega)]; rw [eg32, va_up_ne _ _ (by omega)]; rw [eg26, va_up_ne _ _ (by omega)]; rw [eg20, va_up_ne _ _ (by omega)]; rw [eg14, va_up_ne _ _ (by omega)]; rw [eg8, va_up_ne _ _ (by omega)]; rw [eg2, va_up_ne _ _ (by omega)], by rw [← (show ad29 (i + 1) = q4 from ha41), ← (show ad29 (i + 1 + 1) = q16 from ha42), ← (show ad29 (i + 1 + 1 + 1) = q28 from ha33)] at hg39; exact hg39, hg47, hg50, hg51⟩)

set_option maxRecDepth 100000 in
set_option maxHeartbeats 4000000 in
theorem c_X1_init (l : Launch) (D : va_G) (A : Nat → Prop) (cs : Nat → ClassId) (tt : Nat) (ad : Nat → Nat) (g : Nat → va_E) (i a : Nat) (ha : ad i = a) (hg : g i = oC 3 [.null]) : zM l yX1_init cX1_init 1 none ({ frames := 1, cells := 1, slots := 13, locals := 60 } : Room) D A cs tt (i + 1) ad g [.ref a] (rV fun N' ad' g' => N' = i + 2 ∧ (∀ j, j < i + 1 → ad' j = ad j) ∧ (∀ j, j < i + 1 → j ≠ i → g' j = g j) ∧ isLike cs ad' g' i (fun _ => 0)) := by
  refine z_of (by decide) (Nat.le_of_ble_eq_true rfl) ?_
  intro p e s m below meth c C hr hlk hnm
  refine z_lv (lv' := [(0, .ref a)]) [0] rfl ?_
  refine z_aload_n C 0 dX1_init_0 rfl ?_
  refine z_objInit C q_312 q_35 q_36 dX1_init_1 (Nat.le_of_ble_eq_true rfl) (Nat.le_of_ble_eq_true rfl) ?_
  refine z_aload_n C 0 dX1_init_4 rfl ?_
  refine z_bipush (z := 13) C dX1_init_5 (by decide) ?_
  refine z_newI C 13 rfl q_134 (by decide) (by decide) (by decide) dX1_init_7 (fun q1 ad2 g3 ea4 eg5 => ?_)
  have ha6 : zAt ad2 (i + 1) q1 := up_s ea4
  have hg7 := up_s eg5
  have ha8 : zAt ad2 (i) (a) := up_n ea4 ha (ne_o (i := i) (c := 0) (d := 1) rfl)
  have hg9 := up_n eg5 hg (ne_o (i := i) (c := 0) (d := 1) rfl)
  refine z_putF (fs' := [.ref q1]) C (lt_o (i := i) (c := 0) (d := 2) rfl) ha8 hg9 tyX1 tyX1_ok nmX1 rfl inA_X1 0 (by decide) q_313 rfl rfl hnm rfl rfl rfl (Nat.le_of_ble_eq_true rfl) rfl dX1_init_9 (fun g10 eg11 => ?_)
  have hg12 := up_s eg11
  have hg13 := up_n eg11 hg7 (ne_o (i := i) (c := 1) (d := 0) rfl)
  exact z_vret C hr hlk dX1_init_12 (by decide) (by decide) (⟨rfl, rfl, fun j h1 => by rw [ea4, va_up_ne _ _ (by omega)], fun j h1 h2 => by rw [eg11, va_up_ne _ _ (by omega)]; rw [eg5, va_up_ne _ _ (by omega)], by rw [← (show ad2 (i + 1) = q1 from ha6)] at hg12; exact hg12, hg13⟩)

set_option maxRecDepth 100000 in
set_option maxHeartbeats 4000000 in
theorem c_X7_init (l : Launch) (D : va_G) (A : Nat → Prop) (cs : Nat → ClassId) (tt : Nat) (ad : Nat → Nat) (g : Nat → va_E) (i a : Nat) (ha : ad i = a) (hg : g i = oC 9 [.int (zI 0), .int (zI 0), .null, .int (zI 0), .int (zI 0), .int (zI 0), .int (zI 0), .int (zI 0), .int (zI 0)]) : zM l yX7_init cX7_init 1 none ({ frames := 1, cells := 1, slots := 0, locals := 60 } : Room) D A cs tt (i + 1) ad g [.ref a] (rV fun N' ad' g' => N' = i + 2 ∧ (∀ j, j < i + 1 → ad' j = ad j) ∧ (∀ j, j < i + 1 → j ≠ i → g' j = g j) ∧ isRdr cs ad' g' i) := by
  refine z_of (by decide) (Nat.le_of_ble_eq_true rfl) ?_
  intro p e s m below meth c C hr hlk hnm
  refine z_lv (lv' := [(0, .ref a)]) [0] rfl ?_
  refine z_aload_n C 0 dX7_init_0 rfl ?_
  refine z_objInit C q_42 q_35 q_36 dX7_init_1 (Nat.le_of_ble_eq_true rfl) (Nat.le_of_ble_eq_true rfl) ?_
  refine z_aload_n C 0 dX7_init_4 rfl ?_
  refine z_iconst (z := -1) C dX7_init_5 rfl ?_
  refine z_put (fs' := [.int (zI (-1)), .int (zI (0)), .null, .int (zI (0)), .int (zI (0)), .int (zI (0)), .int (zI (0)), .int (zI (0)), .int (zI (0))]) C (lt_o (i := i) (c := 0) (d := 1) rfl) ha hg tyX7 tyX7_ok nmX7 rfl inA_X7 0 (by decide) q_43 rfl rfl rfl rfl (Nat.le_of_ble_eq_true rfl) rfl dX7_init_6 (fun g1 eg2 => ?_)
  have hg3 := up_s eg2
  refine z_aload_n C 0 dX7_init_9 rfl ?_
  refine z_iconst (z := 0) C dX7_init_10 rfl ?_
  refine z_put (fs' := [.int (zI (-1)), .int (zI (0)), .null, .int (zI (0)), .int (zI (0)), .int (zI (0)), .int (zI (0)), .int (zI (0)), .int (zI (0))]) C (lt_o (i := i) (c := 0) (d := 1) rfl) ha hg3 tyX7 tyX7_ok nmX7 rfl inA_X7 1 (by decide) q_45 rfl rfl rfl rfl (Nat.le_of_ble_eq_true rfl) rfl dX7_init_11 (fun g4 eg5 => ?_)
  have hg6 := up_s eg5
  refine z_aload_n C 0 dX7_init_14 rfl ?_
  refine z_iconst (z := 0) C dX7_init_15 rfl ?_
  refine z_newB C 0 rfl q_72 (by decide) (by decide) (by decide) dX7_init_16 (fun q7 ad8 g9 ea10 eg11 => ?_)
  have ha12 : zAt ad8 (i + 1) q7 := up_s ea10
  have hg13 := up_s eg11
  have ha14 : zAt ad8 (i) (a) := up_n ea10 ha (ne_o (i := i) (c := 0) (d := 1) rfl)
  have hg15 := up_n eg11 hg6 (ne_o (i := i) (c := 0) (d := 1) rfl)
  refine z_put (fs' := [.int (zI (-1)), .int (zI (0)), .ref q7, .int (zI (0)), .int (zI (0)), .int (zI (0)), .int (zI (0)), .int (zI (0)), .int (zI (0))]) C (lt_o (i := i) (c := 0) (d := 2) rfl) ha14 hg15 tyX7 tyX7_ok nmX7 rfl inA_X7 2 (by decide) q_46 rfl rfl rfl rfl (Nat.le_of_ble_eq_true rfl) rfl dX7_init_18 (fun g16 eg17 => ?_)
  have hg18 := up_s eg17
  refine z_aload_n C 0 dX7_init_21 rfl ?_
  refine z_iconst (z := 0) C dX7_init_22 rfl ?_
  refine z_put (fs' := [.int (zI (-1)), .int (zI (0)), .ref q7, .int (zI (0)), .int (zI (0)), .int (zI (0)), .int (zI (0)), .int (zI (0)), .int (zI (0))]) C (lt_o (i := i) (c := 0) (d := 2) rfl) ha14 hg18 tyX7 tyX7_ok nmX7 rfl inA_X7 3 (by decide) q_47 rfl rfl rfl rfl (Nat.le_of_ble_eq_true rfl) rfl dX7_init_23 (fun g19 eg20 => ?_)
  have hg21 := up_s eg20
  refine z_aload_n C 0 dX7_init_26 rfl ?_
  refine z_iconst (z := 0) C dX7_init_27 rfl ?_
  refine z_put (fs' := [.int (zI (-1)), .int (zI (0)), .ref q7, .int (zI (0)), .int (zI (0)), .int (zI (0)), .int (zI (0)), .int (zI (0)), .int (zI (0))]) C (lt_o (i := i) (c := 0) (d := 2) rfl) ha14 hg21 tyX7 tyX7_ok nmX7 rfl inA_X7 4 (by decide) q_48 rfl rfl rfl rfl (Nat.le_of_ble_eq_true rfl) rfl dX7_init_28 (fun g22 eg23 => ?_)
  have hg24 := up_s eg23
  refine z_aload_n C 0 dX7_init_31 rfl ?_
  refine z_iconst (z := 0) C dX7_init_32 rfl ?_
  refine z_put (fs' := [.int (zI (-1)), .int (zI (0)), .ref q7, .int (zI (0)), .int (zI (0)), .int (zI (0)), .int (zI (0)), .int (zI (0)), .int (zI (0))]) C (lt_o (i := i) (c := 0) (d := 2) rfl) ha14 hg24 tyX7 tyX7_ok nmX7 rfl inA_X7 5 (by decide) q_49 rfl rfl rfl rfl (Nat.le_of_ble_eq_true rfl) rfl dX7_init_33 (fun g25 eg26 => ?_)
  have hg27 := up_s eg26
  refine z_aload_n C 0 dX7_init_36 rfl ?_
  refine z_iconst (z := 0) C dX7_init_37 rfl ?_
  refine z_put (fs' := [.int (zI (-1)), .int (zI (0)), .ref q7, .int (zI (0)), .int (zI (0)), .int (zI (0)), .int (zI (0)), .int (zI (0)), .int (zI (0))]) C (lt_o (i := i) (c := 0) (d := 2) rfl) ha14 hg27 tyX7 tyX7_ok nmX7 rfl inA_X7 6 (by decide) q_50 rfl rfl rfl rfl (Nat.le_of_ble_eq_true rfl) rfl dX7_init_38 (fun g28 eg29 => ?_)
  have hg30 := up_s eg29
  refine z_aload_n C 0 dX7_init_41 rfl ?_
  refine z_iconst (z := 0) C dX7_init_42 rfl ?_
  refine z_put (fs' := [.int (zI (-1)), .int (zI (0)), .ref q7, .int (zI (0)), .int (zI (0)), .int (zI (0)), .int (zI (0)), .int (zI (0)), .int (zI (0))]) C (lt_o (i := i) (c := 0) (d := 2) rfl) ha14 hg30 tyX7 tyX7_ok nmX7 rfl inA_X7 7 (by decide) q_51 rfl rfl rfl rfl (Nat.le_of_ble_eq_true rfl) rfl dX7_init_43 (fun g31 eg32 => ?_)
  have hg33 := up_s eg32
  refine z_aload_n C 0 dX7_init_46 rfl ?_
  refine z_iconst (z := 0) C dX7_init_47 rfl ?_
  refine z_put (fs' := [.int (zI (-1)), .int (zI (0)), .ref q7, .int (zI (0)), .int (zI (0)), .int (zI (0)), .int (zI (0)), .int (zI (0)), .int (zI (0))]) C (lt_o (i := i) (c := 0) (d := 2) rfl) ha14 hg33 tyX7 tyX7_ok nmX7 rfl inA_X7 8 (by decide) q_52 rfl rfl rfl rfl (Nat.le_of_ble_eq_true rfl) rfl dX7_init_48 (fun g34 eg35 => ?_)
  have hg36 := up_s eg35
  have hg37 := up_n eg17 hg13 (ne_o (i := i) (c := 1) (d := 0) rfl)
  have hg38 := up_n eg20 hg37 (ne_o (i := i) (c := 1) (d := 0) rfl)
  have hg39 := up_n eg23 hg38 (ne_o (i := i) (c := 1) (d := 0) rfl)
  have hg40 := up_n eg26 hg39 (ne_o (i := i) (c := 1) (d := 0) rfl)
  have hg41 := up_n eg29 hg40 (ne_o (i := i) (c := 1) (d := 0) rfl)
  have hg42 := up_n eg32 hg41 (ne_o (i := i) (c := 1) (d := 0) rfl)
  have hg43 := up_n eg35 hg42 (ne_o (i := i) (c := 1) (d := 0) rfl)
  exact z_vret C hr hlk dX7_init_51 (by decide) (by decide) (⟨rfl, rfl, fun j h1 => by rw [ea10, va_up_ne _ _ (by omega)], fun j h1 h2 => by rw [eg35, va_up_ne _ _ (by omega)]; rw [eg32, va_up_ne _ _ (by omega)]; rw [eg29, va_up_ne _ _ (by omega)]; rw [eg26, va_up_ne _ _ (by omega)]; rw [eg23, va_up_ne _ _ (by omega)]; rw [eg20, va_up_ne _ _ (by omega)]; rw [eg17, va_up_ne _ _ (by omega)]; rw [eg11, va_up_ne _ _ (by omega)]; rw [eg5, va_up_ne _ _ (by omega)]; rw [eg2, va_up_ne _ _ (by omega)], by rw [← (show ad8 (i + 1) = q7 from ha12)] at hg36; exact hg36, hg43⟩)

set_option maxRecDepth 100000 in
set_option maxHeartbeats 4000000 in
theorem c_X4_init (l : Launch) (D : va_G) (A : Nat → Prop) (cs : Nat → ClassId) (tt : Nat) (ad : Nat → Nat) (g : Nat → va_E) (i a : Nat) (ha : ad i = a) (hg : g i = oC 6 [.int (zI 0), .int (zI 0), .null]) : zM l yX4_init cX4_init 1 none ({ frames := 2, cells := 2, slots := 87, locals := 120 } : Room) D A cs tt (i + 1) ad g [.ref a] (rV fun N' ad' g' => N' = i + 3 ∧ (∀ j, j < i + 1 → ad' j = ad j) ∧ (∀ j, j < i + 1 → j ≠ i → g' j = g j) ∧ isPit cs ad' g' i 0 0 0 0 (fun _ => 0)) := by
  refine z_of (by decide) (Nat.le_of_ble_eq_true rfl) ?_
  intro p e s m below meth c C hr hlk hnm
  refine z_lv (lv' := [(0, .ref a)]) [0] rfl ?_
  refine z_aload_n C 0 dX4_init_0 rfl ?_
  refine z_objInit C q_238 q_35 q_36 dX4_init_1 (Nat.le_of_ble_eq_true rfl) (Nat.le_of_ble_eq_true rfl) ?_
  refine z_aload_n C 0 dX4_init_4 rfl ?_
  refine z_iconst (z := 0) C dX4_init_5 rfl ?_
  refine z_put (fs' := [.int (zI (0)), .int (zI (0)), .null]) C (lt_o (i := i) (c := 0) (d := 1) rfl) ha hg tyX4 tyX4_ok nmX4 rfl inA_X4 0 (by decide) q_241 rfl rfl rfl rfl (Nat.le_of_ble_eq_true rfl) rfl dX4_init_6 (fun g1 eg2 => ?_)
  have hg3 := up_s eg2
  refine z_aload_n C 0 dX4_init_9 rfl ?_
  refine z_iconst (z := 0) C dX4_init_10 rfl ?_
  refine z_put (fs' := [.int (zI (0)), .int (zI (0)), .null]) C (lt_o (i := i) (c := 0) (d := 1) rfl) ha hg3 tyX4 tyX4_ok nmX4 rfl inA_X4 1 (by decide) q_244 rfl rfl rfl rfl (Nat.le_of_ble_eq_true rfl) rfl dX4_init_11 (fun g4 eg5 => ?_)
  have hg6 := up_s eg5
  refine z_aload_n C 0 dX4_init_14 rfl ?_
  refine z_new (fs := [.int (zI (0)), .int (zI (0)), .null]) (ci := 5) C tyX3 tyX3_ok rfl inA_X3 q_239 q_149 q_6 (fun j hj => by rcases (show j = 0 ∨ j = 1 ∨ j = 2 by omega) with rfl | rfl | rfl <;> rfl) (by decide) (by decide) dX4_init_15 (fun q7 ad8 g9 ea10 eg11 => ?_)
  have ha12 : zAt ad8 (i + 1) q7 := up_s ea10
  have hg13 := up_s eg11
  refine z_dup C dX4_init_18 rfl ?_
  refine z_cIN (As := []) (rest := [.ref q7, .ref a]) C (c_X3_init l D A cs tt _ _ _ (i + 1) q7 (lt_o (i := i) (c := 1) (d := 2) rfl) ha12 hg13) mi_yX3_init n_240 rfl (by decide +kernel) (by decide) (Nat.le_of_ble_eq_true rfl) (by decide) dX4_init_19 rfl (kV fun M18 ad19 g20 hq21 => ?_)
  obtain ⟨rfl, hA14, hG15, hg16, hg17⟩ := hq21
  have ha22 : zAt ad19 (i + 1 + 1) (ad19 (i + 1 + 1)) := rfl
  have ha23 : zAt ad8 (i) (a) := up_n ea10 ha (ne_o (i := i) (c := 0) (d := 1) rfl)
  have ha24 : zAt ad19 (i) (a) := (hA14 (i) (lt_o (i := i) (c := 0) (d := 2) rfl)).trans ha23
  have hg25 := up_n eg11 hg6 (ne_o (i := i) (c := 0) (d := 1) rfl)
  have hg26 := (hG15 (i) (lt_o (i := i) (c := 0) (d := 2) rfl) (ne_o (i := i) (c := 0) (d := 1) rfl)).trans hg25
  refine z_putF (fs' := [.int (zI (0)), .int (zI (0)), .ref q7]) C (lt_o (i := i) (c := 0) (d := 3) rfl) ha24 hg26 tyX4 tyX4_ok nmX4 rfl inA_X4 2 (by decide) q_247 rfl rfl hnm rfl rfl rfl (Nat.le_of_ble_eq_true rfl) rfl dX4_init_22 (fun g27 eg28 => ?_)
  have hg29 := up_s eg28
  have ha30 : zAt ad19 (i + 1) (q7) := (hA14 (i + 1) (lt_o (i := i) (c := 1) (d := 2) rfl)).trans ha12
  have hg31 := up_n eg28 hg16 (ne_o (i := i) (c := 1) (d := 0) rfl)
  have hg32 := up_n eg28 hg17 (ne_o (i := i) (c := 2) (d := 0) rfl)
  exact z_vret C hr hlk dX4_init_25 (by decide) (by decide) (⟨rfl, rfl, fun j h1 => by rw [hA14 _ (by omega)]; rw [ea10, va_up_ne _ _ (by omega)], fun j h1 h2 => by rw [eg28, va_up_ne _ _ (by omega)]; rw [hG15 _ (by omega) (by omega)]; rw [eg11, va_up_ne _ _ (by omega)]; rw [eg5, va_up_ne _ _ (by omega)]; rw [eg2, va_up_ne _ _ (by omega)], by rw [← (show ad19 (i + 1) = q7 from ha30)] at hg29; exact hg29, by rw [← (show ad19 (i + 1 + 1) = ad19 (i + 1 + 1) from ha22)] at hg31; exact hg31, hg32⟩)

set_option maxRecDepth 100000 in
set_option maxHeartbeats 4000000 in
theorem c_X5_init (l : Launch) (D : va_G) (A : Nat → Prop) (cs : Nat → ClassId) (tt : Nat) (ad : Nat → Nat) (g : Nat → va_E) (i a : Nat) (ha : ad i = a) (hg : g i = oC 7 [.int (zI 0), .int (zI 0), .int (zI 0), .null, .null, .null, .null, .null, .null]) : zM l yX5_init cX5_init 1 none ({ frames := 1, cells := 6, slots := 95, locals := 60 } : Room) D A cs tt (i + 1) ad g [.ref a] (rV fun N' ad' g' => N' = i + 7 ∧ (∀ j, j < i + 1 → ad' j = ad j) ∧ (∀ j, j < i + 1 → j ≠ i → g' j = g j) ∧ isPlan cs ad' g' i 0 0 0 (fun _ => 0) (fun _ => 0) (fun _ => 0) (fun _ => 0) (fun _ => 0) tabZ) := by
  refine z_of (by decide) (Nat.le_of_ble_eq_true rfl) ?_
  intro p e s m below meth c C hr hlk hnm
  refine z_lv (lv' := [(0, .ref a)]) [0] rfl ?_
  refine z_aload_n C 0 dX5_init_0 rfl ?_
  refine z_objInit C q_78 q_35 q_36 dX5_init_1 (Nat.le_of_ble_eq_true rfl) (Nat.le_of_ble_eq_true rfl) ?_
  refine z_aload_n C 0 dX5_init_4 rfl ?_
  refine z_iconst (z := 0) C dX5_init_5 rfl ?_
  refine z_put (fs' := [.int (zI (0)), .int (zI (0)), .int (zI (0)), .null, .null, .null, .null, .null, .null]) C (lt_o (i := i) (c := 0) (d := 1) rfl) ha hg tyX5 tyX5_ok nmX5 rfl inA_X5 0 (by decide) q_88 rfl rfl rfl rfl (Nat.le_of_ble_eq_true rfl) rfl dX5_init_6 (fun g1 eg2 => ?_)
  have hg3 := up_s eg2
  refine z_aload_n C 0 dX5_init_9 rfl ?_
  refine z_iconst (z := 0) C dX5_init_10 rfl ?_
  refine z_put (fs' := [.int (zI (0)), .int (zI (0)), .int (zI (0)), .null, .null, .null, .null, .null, .null]) C (lt_o (i := i) (c := 0) (d := 1) rfl) ha hg3 tyX5 tyX5_ok nmX5 rfl inA_X5 1 (by decide) q_92 rfl rfl rfl rfl (Nat.le_of_ble_eq_true rfl) rfl dX5_init_11 (fun g4 eg5 => ?_)
  have hg6 := up_s eg5
  refine z_aload_n C 0 dX5_init_14 rfl ?_
  refine z_iconst (z := 0) C dX5_init_15 rfl ?_
  refine z_put (fs' := [.int (zI (0)), .int (zI (0)), .int (zI (0)), .null, .null, .null, .null, .null, .null]) C (lt_o (i := i) (c := 0) (d := 1) rfl) ha hg6 tyX5 tyX5_ok nmX5 rfl inA_X5 2 (by decide) q_95 rfl rfl rfl rfl (Nat.le_of_ble_eq_true rfl) rfl dX5_init_16 (fun g7 eg8 => ?_)
  have hg9 := up_s eg8
  refine z_aload_n C 0 dX5_init_19 rfl ?_
  refine z_iconst (z := 4) C dX5_init_20 rfl ?_
  refine z_newI C 4 rfl q_134 (by decide) (by decide) (by decide) dX5_init_21 (fun q10 ad11 g12 ea13 eg14 => ?_)
  have ha15 : zAt ad11 (i + 1) q10 := up_s ea13
  have hg16 := up_s eg14
  have ha17 : zAt ad11 (i) (a) := up_n ea13 ha (ne_o (i := i) (c := 0) (d := 1) rfl)
  have hg18 := up_n eg14 hg9 (ne_o (i := i) (c := 0) (d := 1) rfl)
  refine z_putF (fs' := [.int (zI (0)), .int (zI (0)), .int (zI (0)), .ref q10, .null, .null, .null, .null, .null]) C (lt_o (i := i) (c := 0) (d := 2) rfl) ha17 hg18 tyX5 tyX5_ok nmX5 rfl inA_X5 3 (by decide) q_96 rfl rfl hnm rfl rfl rfl (Nat.le_of_ble_eq_true rfl) rfl dX5_init_23 (fun g19 eg20 => ?_)
  have hg21 := up_s eg20
  refine z_aload_n C 0 dX5_init_26 rfl ?_
  refine z_iconst (z := 4) C dX5_init_27 rfl ?_
  refine z_newI C 4 rfl q_134 (by decide) (by decide) (by decide) dX5_init_28 (fun q22 ad23 g24 ea25 eg26 => ?_)
  have ha27 : zAt ad23 (i + 1 + 1) q22 := up_s ea25
  have hg28 := up_s eg26
  have ha29 : zAt ad23 (i) (a) := up_n ea25 ha17 (ne_o (i := i) (c := 0) (d := 2) rfl)
  have hg30 := up_n eg26 hg21 (ne_o (i := i) (c := 0) (d := 2) rfl)
  refine z_putF (fs' := [.int (zI (0)), .int (zI (0)), .int (zI (0)), .ref q10, .ref q22, .null, .null, .null, .null]) C (lt_o (i := i) (c := 0) (d := 3) rfl) ha29 hg30 tyX5 tyX5_ok nmX5 rfl inA_X5 4 (by decide) q_100 rfl rfl hnm rfl rfl rfl (Nat.le_of_ble_eq_true rfl) rfl dX5_init_30 (fun g31 eg32 => ?_)
  have hg33 := up_s eg32
  refine z_aload_n C 0 dX5_init_33 rfl ?_
  refine z_bipush (z := 24) C dX5_init_34 (by decide) ?_
  refine z_newI C 24 rfl q_134 (by decide) (by decide) (by decide) dX5_init_36 (fun q34 ad35 g36 ea37 eg38 => ?_)
  have ha39 : zAt ad35 (i + 1 + 1 + 1) q34 := up_s ea37
  have hg40 := up_s eg38
  have ha41 : zAt ad35 (i) (a) := up_n ea37 ha29 (ne_o (i := i) (c := 0) (d := 3) rfl)
  have hg42 := up_n eg38 hg33 (ne_o (i := i) (c := 0) (d := 3) rfl)
  refine z_putF (fs' := [.int (zI (0)), .int (zI (0)), .int (zI (0)), .ref q10, .ref q22, .ref q34, .null, .null, .null]) C (lt_o (i := i) (c := 0) (d := 4) rfl) ha41 hg42 tyX5 tyX5_ok nmX5 rfl inA_X5 5 (by decide) q_104 rfl rfl hnm rfl rfl rfl (Nat.le_of_ble_eq_true rfl) rfl dX5_init_38 (fun g43 eg44 => ?_)
  have hg45 := up_s eg44
  refine z_aload_n C 0 dX5_init_41 rfl ?_
  refine z_bipush (z := 24) C dX5_init_42 (by decide) ?_
  refine z_newI C 24 rfl q_134 (by decide) (by decide) (by decide) dX5_init_44 (fun q46 ad47 g48 ea49 eg50 => ?_)
  have ha51 : zAt ad47 (i + 1 + 1 + 1 + 1) q46 := up_s ea49
  have hg52 := up_s eg50
  have ha53 : zAt ad47 (i) (a) := up_n ea49 ha41 (ne_o (i := i) (c := 0) (d := 4) rfl)
  have hg54 := up_n eg50 hg45 (ne_o (i := i) (c := 0) (d := 4) rfl)
  refine z_putF (fs' := [.int (zI (0)), .int (zI (0)), .int (zI (0)), .ref q10, .ref q22, .ref q34, .ref q46, .null, .null]) C (lt_o (i := i) (c := 0) (d := 5) rfl) ha53 hg54 tyX5 tyX5_ok nmX5 rfl inA_X5 6 (by decide) q_107 rfl rfl hnm rfl rfl rfl (Nat.le_of_ble_eq_true rfl) rfl dX5_init_46 (fun g55 eg56 => ?_)
  have hg57 := up_s eg56
  refine z_aload_n C 0 dX5_init_49 rfl ?_
  refine z_bipush (z := 24) C dX5_init_50 (by decide) ?_
  refine z_newI C 24 rfl q_134 (by decide) (by decide) (by decide) dX5_init_52 (fun q58 ad59 g60 ea61 eg62 => ?_)
  have ha63 : zAt ad59 (i + 1 + 1 + 1 + 1 + 1) q58 := up_s ea61
  have hg64 := up_s eg62
  have ha65 : zAt ad59 (i) (a) := up_n ea61 ha53 (ne_o (i := i) (c := 0) (d := 5) rfl)
  have hg66 := up_n eg62 hg57 (ne_o (i := i) (c := 0) (d := 5) rfl)
  refine z_putF (fs' := [.int (zI (0)), .int (zI (0)), .int (zI (0)), .ref q10, .ref q22, .ref q34, .ref q46, .ref q58, .null]) C (lt_o (i := i) (c := 0) (d := 6) rfl) ha65 hg66 tyX5 tyX5_ok nmX5 rfl inA_X5 7 (by decide) q_110 rfl rfl hnm rfl rfl rfl (Nat.le_of_ble_eq_true rfl) rfl dX5_init_54 (fun g67 eg68 => ?_)
  have hg69 := up_s eg68
  refine z_aload_n C 0 dX5_init_57 rfl ?_
  refine z_getT C n_79 dX5_init_58 ?_
  refine z_cloneT C q_81 q_82 q_83 q_84 q_85 n_86 (by decide) (Nat.le_of_ble_eq_true rfl) (by decide) (by decide) dX5_init_61 (fun q70 ad71 g72 ea73 eg74 => ?_)
  have ha75 : zAt ad71 (i + 1 + 1 + 1 + 1 + 1 + 1) q70 := up_s ea73
  have hg76 := up_s eg74
  refine z_castI C (by omega) ha75 hg76 q_87 dX5_init_64 ?_
  have ha77 : zAt ad71 (i) (a) := up_n ea73 ha65 (ne_o (i := i) (c := 0) (d := 6) rfl)
  have hg78 := up_n eg74 hg69 (ne_o (i := i) (c := 0) (d := 6) rfl)
  refine z_putF (fs' := [.int (zI (0)), .int (zI (0)), .int (zI (0)), .ref q10, .ref q22, .ref q34, .ref q46, .ref q58, .ref q70]) C (lt_o (i := i) (c := 0) (d := 7) rfl) ha77 hg78 tyX5 tyX5_ok nmX5 rfl inA_X5 8 (by decide) q_113 rfl rfl hnm rfl rfl rfl (Nat.le_of_ble_eq_true rfl) rfl dX5_init_67 (fun g79 eg80 => ?_)
  have hg81 := up_s eg80
  have ha82 : zAt ad23 (i + 1) (q10) := up_n ea25 ha15 (ne_o (i := i) (c := 1) (d := 2) rfl)
  have ha83 : zAt ad35 (i + 1) (q10) := up_n ea37 ha82 (ne_o (i := i) (c := 1) (d := 3) rfl)
  have ha84 : zAt ad47 (i + 1) (q10) := up_n ea49 ha83 (ne_o (i := i) (c := 1) (d := 4) rfl)
  have ha85 : zAt ad59 (i + 1) (q10) := up_n ea61 ha84 (ne_o (i := i) (c := 1) (d := 5) rfl)
  have ha86 : zAt ad71 (i + 1) (q10) := up_n ea73 ha85 (ne_o (i := i) (c := 1) (d := 6) rfl)
  have ha87 : zAt ad35 (i + 1 + 1) (q22) := up_n ea37 ha27 (ne_o (i := i) (c := 2) (d := 3) rfl)
  have ha88 : zAt ad47 (i + 1 + 1) (q22) := up_n ea49 ha87 (ne_o (i := i) (c := 2) (d := 4) rfl)
  have ha89 : zAt ad59 (i + 1 + 1) (q22) := up_n ea61 ha88 (ne_o (i := i) (c := 2) (d := 5) rfl)
  have ha90 : zAt ad71 (i + 1 + 1) (q22) := up_n ea73 ha89 (ne_o (i := i) (c := 2) (d := 6) rfl)
  have ha91 : zAt ad47 (i + 1 + 1 + 1) (q34) := up_n ea49 ha39 (ne_o (i := i) (c := 3) (d := 4) rfl)
  have ha92 : zAt ad59 (i + 1 + 1 + 1) (q34) := up_n ea61 ha91 (ne_o (i := i) (c := 3) (d := 5) rfl)
  have ha93 : zAt ad71 (i + 1 + 1 + 1) (q34) := up_n ea73 ha92 (ne_o (i := i) (c := 3) (d := 6) rfl)
  have ha94 : zAt ad59 (i + 1 + 1 + 1 + 1) (q46) := up_n ea61 ha51 (ne_o (i := i) (c := 4) (d := 5) rfl)
  have ha95 : zAt ad71 (i + 1 + 1 + 1 + 1) (q46) := up_n ea73 ha94 (ne_o (i := i) (c := 4) (d := 6) rfl)
  have ha96 : zAt ad71 (i + 1 + 1 + 1 + 1 + 1) (q58) := up_n ea73 ha63 (ne_o (i := i) (c := 5) (d := 6) rfl)
  have hg97 := up_n eg20 hg16 (ne_o (i := i) (c := 1) (d := 0) rfl)
  have hg98 := up_n eg26 hg97 (ne_o (i := i) (c := 1) (d := 2) rfl)
  have hg99 := up_n eg32 hg98 (ne_o (i := i) (c := 1) (d := 0) rfl)
  have hg100 := up_n eg38 hg99 (ne_o (i := i) (c := 1) (d := 3) rfl)
  have hg101 := up_n eg44 hg100 (ne_o (i := i) (c := 1) (d := 0) rfl)
  have hg102 := up_n eg50 hg101 (ne_o (i := i) (c := 1) (d := 4) rfl)
  have hg103 := up_n eg56 hg102 (ne_o (i := i) (c := 1) (d := 0) rfl)
  have hg104 := up_n eg62 hg103 (ne_o (i := i) (c := 1) (d := 5) rfl)
  have hg105 := up_n eg68 hg104 (ne_o (i := i) (c := 1) (d := 0) rfl)
  have hg106 := up_n eg74 hg105 (ne_o (i := i) (c := 1) (d := 6) rfl)
  have hg107 := up_n eg80 hg106 (ne_o (i := i) (c := 1) (d := 0) rfl)
  have hg108 := up_n eg32 hg28 (ne_o (i := i) (c := 2) (d := 0) rfl)
  have hg109 := up_n eg38 hg108 (ne_o (i := i) (c := 2) (d := 3) rfl)
  have hg110 := up_n eg44 hg109 (ne_o (i := i) (c := 2) (d := 0) rfl)
  have hg111 := up_n eg50 hg110 (ne_o (i := i) (c := 2) (d := 4) rfl)
  have hg112 := up_n eg56 hg111 (ne_o (i := i) (c := 2) (d := 0) rfl)
  have hg113 := up_n eg62 hg112 (ne_o (i := i) (c := 2) (d := 5) rfl)
  have hg114 := up_n eg68 hg113 (ne_o (i := i) (c := 2) (d := 0) rfl)
  have hg115 := up_n eg74 hg114 (ne_o (i := i) (c := 2) (d := 6) rfl)
  have hg116 := up_n eg80 hg115 (ne_o (i := i) (c := 2) (d := 0) rfl)
  have hg117 := up_n eg44 hg40 (ne_o (i := i) (c := 3) (d := 0) rfl)
  have hg118 := up_n eg50 hg117 (ne_o (i := i) (c := 3) (d := 4) rfl)
  have hg119 := up_n eg56 hg118 (ne_o (i := i) (c := 3) (d := 0) rfl)
  have hg120 := up_n eg62 hg119 (ne_o (i := i) (c := 3) (d := 5) rfl)
  have hg121 := up_n eg68 hg120 (ne_o (i := i) (c := 3) (d := 0) rfl)
  have hg122 := up_n eg74 hg121 (ne_o (i := i) (c := 3) (d := 6) rfl)
  have hg123 := up_n eg80 hg122 (ne_o (i := i) (c := 3) (d := 0) rfl)
  have hg124 := up_n eg56 hg52 (ne_o (i := i) (c := 4) (d := 0) rfl)
  have hg125 := up_n eg62 hg124 (ne_o (i := i) (c := 4) (d := 5) rfl)
  have hg126 := up_n eg68 hg125 (ne_o (i := i) (c := 4) (d := 0) rfl)
  have hg127 := up_n eg74 hg126 (ne_o (i := i) (c := 4) (d := 6) rfl)
  have hg128 := up_n eg80 hg127 (ne_o (i := i) (c := 4) (d := 0) rfl)
  have hg129 := up_n eg68 hg64 (ne_o (i := i) (c := 5) (d := 0) rfl)
  have hg130 := up_n eg74 hg129 (ne_o (i := i) (c := 5) (d := 6) rfl)
  have hg131 := up_n eg80 hg130 (ne_o (i := i) (c := 5) (d := 0) rfl)
  have hg132 := up_n eg80 hg76 (ne_o (i := i) (c := 6) (d := 0) rfl)
  exact z_vret C hr hlk dX5_init_70 (by decide) (by decide) (⟨rfl, rfl, fun j h1 => by rw [ea73, va_up_ne _ _ (by omega)]; rw [ea61, va_up_ne _ _ (by omega)]; rw [ea49, va_up_ne _ _ (by omega)]; rw [ea37, va_up_ne _ _ (by omega)]; rw [ea25, va_up_ne _ _ (by omega)]; rw [ea13, va_up_ne _ _ (by omega)], fun j h1 h2 => by rw [eg80, va_up_ne _ _ (by omega)]; rw [eg74, va_up_ne _ _ (by omega)]; rw [eg68, va_up_ne _ _ (by omega)]; rw [eg62, va_up_ne _ _ (by omega)]; rw [eg56, va_up_ne _ _ (by omega)]; rw [eg50, va_up_ne _ _ (by omega)]; rw [eg44, va_up_ne _ _ (by omega)]; rw [eg38, va_up_ne _ _ (by omega)]; rw [eg32, va_up_ne _ _ (by omega)]; rw [eg26, va_up_ne _ _ (by omega)]; rw [eg20, va_up_ne _ _ (by omega)]; rw [eg14, va_up_ne _ _ (by omega)]; rw [eg8, va_up_ne _ _ (by omega)]; rw [eg5, va_up_ne _ _ (by omega)]; rw [eg2, va_up_ne _ _ (by omega)], by rw [← (show ad71 (i + 1) = q10 from ha86), ← (show ad71 (i + 1 + 1) = q22 from ha90), ← (show ad71 (i + 1 + 1 + 1) = q34 from ha93), ← (show ad71 (i + 1 + 1 + 1 + 1) = q46 from ha95), ← (show ad71 (i + 1 + 1 + 1 + 1 + 1) = q58 from ha96), ← (show ad71 (i + 1 + 1 + 1 + 1 + 1 + 1) = q70 from ha75)] at hg81; exact hg81, hg107, hg116, hg123, hg128, hg131, hg132⟩)

set_option maxRecDepth 100000 in
set_option maxHeartbeats 4000000 in
theorem c_X0_init (l : Launch) (D : va_G) (A : Nat → Prop) (cs : Nat → ClassId) (tt : Nat) (ad : Nat → Nat) (g : Nat → va_E) (i a : Nat) (ha : ad i = a) (hg : g i = oC 2 [.int (zI 0), .int (zI 0), .null, .null]) : zM l yX0_init cX0_init 1 none ({ frames := 1, cells := 6, slots := 4808, locals := 60 } : Room) D A cs tt (i + 1) ad g [.ref a] (rV fun N' ad' g' => N' = i + 7 ∧ (∀ j, j < i + 1 → ad' j = ad j) ∧ (∀ j, j < i + 1 → j ≠ i → g' j = g j) ∧ isGss cs ad' g' i 0 (-1) (fun _ => 0) (fun _ _ => 0)) := by
  refine z_of (by decide) (Nat.le_of_ble_eq_true rfl) ?_
  intro p e s m below meth c C hr hlk hnm
  refine z_lv (lv' := [(0, .ref a)]) [0] rfl ?_
  refine z_aload_n C 0 dX0_init_0 rfl ?_
  refine z_objInit C q_288 q_35 q_36 dX0_init_1 (Nat.le_of_ble_eq_true rfl) (Nat.le_of_ble_eq_true rfl) ?_
  refine z_aload_n C 0 dX0_init_4 rfl ?_
  refine z_iconst (z := 0) C dX0_init_5 rfl ?_
  refine z_put (fs' := [.int (zI (0)), .int (zI (0)), .null, .null]) C (lt_o (i := i) (c := 0) (d := 1) rfl) ha hg tyX0 tyX0_ok nmX0 rfl inA_X0 0 (by decide) q_291 rfl rfl rfl rfl (Nat.le_of_ble_eq_true rfl) rfl dX0_init_6 (fun g1 eg2 => ?_)
  have hg3 := up_s eg2
  refine z_aload_n C 0 dX0_init_9 rfl ?_
  refine z_iconst (z := -1) C dX0_init_10 rfl ?_
  refine z_put (fs' := [.int (zI (0)), .int (zI (-1)), .null, .null]) C (lt_o (i := i) (c := 0) (d := 1) rfl) ha hg3 tyX0 tyX0_ok nmX0 rfl inA_X0 1 (by decide) q_293 rfl rfl rfl rfl (Nat.le_of_ble_eq_true rfl) rfl dX0_init_11 (fun g4 eg5 => ?_)
  have hg6 := up_s eg5
  refine z_aload_n C 0 dX0_init_14 rfl ?_
  refine z_iconst (z := 4) C dX0_init_15 rfl ?_
  refine z_newI C 4 rfl q_134 (by decide) (by decide) (by decide) dX0_init_16 (fun q7 ad8 g9 ea10 eg11 => ?_)
  have ha12 : zAt ad8 (i + 1) q7 := up_s ea10
  have hg13 := up_s eg11
  have ha14 : zAt ad8 (i) (a) := up_n ea10 ha (ne_o (i := i) (c := 0) (d := 1) rfl)
  have hg15 := up_n eg11 hg6 (ne_o (i := i) (c := 0) (d := 1) rfl)
  refine z_putF (fs' := [.int (zI (0)), .int (zI (-1)), .ref q7, .null]) C (lt_o (i := i) (c := 0) (d := 2) rfl) ha14 hg15 tyX0 tyX0_ok nmX0 rfl inA_X0 2 (by decide) q_295 rfl rfl hnm rfl rfl rfl (Nat.le_of_ble_eq_true rfl) rfl dX0_init_18 (fun g16 eg17 => ?_)
  have hg18 := up_s eg17
  refine z_aload_n C 0 dX0_init_21 rfl ?_
  refine z_iconst (z := 4) C dX0_init_22 rfl ?_
  refine z_sipush (z := 1200) C dX0_init_23 (by decide) ?_
  refine z_mna C q_289 q_134 (by decide) (by decide) dX0_init_26 (fun q19 r20 ad21 g22 ea23 eg24 => ?_)
  have hA25 : ∀ j, j < i + 1 + 1 → ad21 j = ad8 j := fun j h1 => by rw [ea23, va_up_ne _ _ (by omega), va_up_ne _ _ (by omega), va_up_ne _ _ (by omega), va_up_ne _ _ (by omega), va_up_ne _ _ (by omega)]
  have hG26 : ∀ j, j < i + 1 + 1 → g22 j = g16 j := fun j h1 => by rw [eg24, va_up_ne _ _ (by omega), va_up_ne _ _ (by omega), va_up_ne _ _ (by omega), va_up_ne _ _ (by omega), va_up_ne _ _ (by omega)]
  have ha27 : zAt ad21 (i + 1 + 1) (q19) := by show ad21 (i + 1 + 1) = q19; rw [ea23, va_up_ne _ _ (by omega), va_up_ne _ _ (by omega), va_up_ne _ _ (by omega), va_up_ne _ _ (by omega), va_up_self]
  have hg28 := congrFun eg24 (i + 1 + 1)
  rw [va_up_ne _ _ (by omega), va_up_ne _ _ (by omega), va_up_ne _ _ (by omega), va_up_ne _ _ (by omega), va_up_self] at hg28
  have ha29 : zAt ad21 (i + 1 + 1 + 1) (r20 0) := by show ad21 (i + 1 + 1 + 1) = r20 0; rw [ea23, va_up_ne _ _ (by omega), va_up_ne _ _ (by omega), va_up_ne _ _ (by omega), va_up_self]
  have hg30 := congrFun eg24 (i + 1 + 1 + 1)
  rw [va_up_ne _ _ (by omega), va_up_ne _ _ (by omega), va_up_ne _ _ (by omega), va_up_self] at hg30
  have ha31 : zAt ad21 (i + 1 + 1 + 1 + 1) (r20 1) := by show ad21 (i + 1 + 1 + 1 + 1) = r20 1; rw [ea23, va_up_ne _ _ (by omega), va_up_ne _ _ (by omega), va_up_self]
  have hg32 := congrFun eg24 (i + 1 + 1 + 1 + 1)
  rw [va_up_ne _ _ (by omega), va_up_ne _ _ (by omega), va_up_self] at hg32
  have ha33 : zAt ad21 (i + 1 + 1 + 1 + 1 + 1) (r20 2) := by show ad21 (i + 1 + 1 + 1 + 1 + 1) = r20 2; rw [ea23, va_up_ne _ _ (by omega), va_up_self]
  have hg34 := congrFun eg24 (i + 1 + 1 + 1 + 1 + 1)
  rw [va_up_ne _ _ (by omega), va_up_self] at hg34
  have ha35 : zAt ad21 (i + 1 + 1 + 1 + 1 + 1 + 1) (r20 3) := by show ad21 (i + 1 + 1 + 1 + 1 + 1 + 1) = r20 3; rw [ea23, va_up_self]
  have hg36 := congrFun eg24 (i + 1 + 1 + 1 + 1 + 1 + 1)
  rw [va_up_self] at hg36
  have ha37 : zAt ad21 (i) (a) := (hA25 (i) (lt_o (i := i) (c := 0) (d := 2) rfl)).trans ha14
  have hg38 := (hG26 (i) (lt_o (i := i) (c := 0) (d := 2) rfl)).trans hg18
  refine z_putF (fs' := [.int (zI (0)), .int (zI (-1)), .ref q7, .ref q19]) C (lt_o (i := i) (c := 0) (d := 7) rfl) ha37 hg38 tyX0 tyX0_ok nmX0 rfl inA_X0 3 (by decide) q_297 rfl rfl hnm rfl rfl rfl (Nat.le_of_ble_eq_true rfl) rfl dX0_init_30 (fun g39 eg40 => ?_)
  have hg41 := up_s eg40
  have ha42 : zAt ad21 (i + 1) (q7) := (hA25 (i + 1) (lt_o (i := i) (c := 1) (d := 2) rfl)).trans ha12
  have hg43 := up_n eg17 hg13 (ne_o (i := i) (c := 1) (d := 0) rfl)
  have hg44 := (hG26 (i + 1) (lt_o (i := i) (c := 1) (d := 2) rfl)).trans hg43
  have hg45 := up_n eg40 hg44 (ne_o (i := i) (c := 1) (d := 0) rfl)
  have hg46 := up_n eg40 hg28 (ne_o (i := i) (c := 2) (d := 0) rfl)
  have hg47 := up_n eg40 hg30 (ne_o (i := i) (c := 3) (d := 0) rfl)
  have hg48 := up_n eg40 hg32 (ne_o (i := i) (c := 4) (d := 0) rfl)
  have hg49 := up_n eg40 hg34 (ne_o (i := i) (c := 5) (d := 0) rfl)
  have hg50 := up_n eg40 hg36 (ne_o (i := i) (c := 6) (d := 0) rfl)
  have hk4 : ∀ k, k < 4 → (fun i => if i < 4 then some (r20 i) else none) k = some (ad21 (i + 3 + k)) := by
    intro k hk
    rcases (show k = 0 ∨ k = 1 ∨ k = 2 ∨ k = 3 by omega) with rfl | rfl | rfl | rfl
    · exact congrArg some (Eq.symm ha29)
    · exact congrArg some (Eq.symm ha31)
    · exact congrArg some (Eq.symm ha33)
    · exact congrArg some (Eq.symm ha35)
  have hc4 : ∀ k, k < 4 → g39 (i + 3 + k) = iA cs 1200 (fun _ => 0) := by
    intro k hk
    rcases (show k = 0 ∨ k = 1 ∨ k = 2 ∨ k = 3 by omega) with rfl | rfl | rfl | rfl
    · exact hg47
    · exact hg48
    · exact hg49
    · exact hg50
  exact z_vret C hr hlk dX0_init_33 (by decide) (by decide) (⟨rfl, rfl, fun j h1 => by rw [hA25 _ (by omega)]; rw [ea10, va_up_ne _ _ (by omega)], fun j h1 h2 => by rw [eg40, va_up_ne _ _ (by omega)]; rw [hG26 _ (by omega)]; rw [eg17, va_up_ne _ _ (by omega)]; rw [eg11, va_up_ne _ _ (by omega)]; rw [eg5, va_up_ne _ _ (by omega)]; rw [eg2, va_up_ne _ _ (by omega)], by rw [← (show ad21 (i + 1) = q7 from ha42), ← (show ad21 (i + 1 + 1) = q19 from ha27)] at hg41; exact hg41, hg45, ⟨_, hg46, hk4⟩, hc4⟩)

set_option maxRecDepth 100000 in
set_option maxHeartbeats 4000000 in
theorem c_J5_init_d00df (l : Launch) (D : va_G) (A : Nat → Prop) (cs : Nat → ClassId) (tt : Nat) (ad : Nat → Nat) (g : Nat → va_E) (i a : Nat) (ha : ad i = a) (hg : g i = oC 1 [.null, .int (zI 0), .int (zI 0), .int (zI 0)]) : zM l yJ5_init_d00df cJ5_init_d00df 2 none ({ frames := 1, cells := 1, slots := 16, locals := 60 } : Room) D A cs tt (i + 1) ad g [.ref a, .int (zI 16)] (rV fun N' ad' g' => N' = i + 2 ∧ (∀ j, j < i + 1 → ad' j = ad j) ∧ (∀ j, j < i + 1 → j ≠ i → g' j = g j) ∧ isBld cs ad' g' i) := by
  refine z_of (by decide) (Nat.le_of_ble_eq_true rfl) ?_
  intro p e s m below meth c C hr hlk hnm
  refine z_lv (lv' := [(0, .ref a), (1, .int (zI (16)))]) [0, 1] rfl ?_
  refine z_aload_n C 0 dJ5_init_d00df_0 rfl ?_
  refine z_objInit C q_325 q_35 q_36 dJ5_init_d00df_1 (Nat.le_of_ble_eq_true rfl) (Nat.le_of_ble_eq_true rfl) ?_
  refine z_getZ C q_326 dJ5_init_d00df_4 ?_
  refine z_if_eq (tgt := 25) C dJ5_init_d00df_7 (by decide) (by omega) (fun h => absurd h (by omega)) (fun _ => ?_)
  refine z_aload_n C 0 dJ5_init_d00df_10 rfl ?_
  refine z_iload_n C 1 dJ5_init_d00df_11 rfl ?_
  refine z_newB C 16 rfl q_72 (by decide) (by decide) (by decide) dJ5_init_d00df_12 (fun q1 ad2 g3 ea4 eg5 => ?_)
  have ha6 : zAt ad2 (i + 1) q1 := up_s ea4
  have hg7 := up_s eg5
  have ha8 : zAt ad2 (i) (a) := up_n ea4 ha (ne_o (i := i) (c := 0) (d := 1) rfl)
  have hg9 := up_n eg5 hg (ne_o (i := i) (c := 0) (d := 1) rfl)
  refine z_put (fs' := [.ref q1, .int (zI (0)), .int (zI (0)), .int (zI (0))]) C (lt_o (i := i) (c := 0) (d := 2) rfl) ha8 hg9 tyJ4 tyJ4_ok nmJ4 rfl inA_J4 0 (by decide) q_335 rfl rfl rfl rfl (Nat.le_of_ble_eq_true rfl) rfl dJ5_init_d00df_14 (fun g10 eg11 => ?_)
  have hg12 := up_s eg11
  refine z_aload_n C 0 dJ5_init_d00df_17 rfl ?_
  refine z_iconst (z := 0) C dJ5_init_d00df_18 rfl ?_
  refine z_put (fs' := [.ref q1, .int (zI (0)), .int (zI (0)), .int (zI (0))]) C (lt_o (i := i) (c := 0) (d := 2) rfl) ha8 hg12 tyJ4 tyJ4_ok nmJ4 rfl inA_J4 1 (by decide) q_336 rfl rfl (by decide) rfl (Nat.le_of_ble_eq_true rfl) rfl dJ5_init_d00df_19 (fun g13 eg14 => ?_)
  have hg15 := up_s eg14
  refine z_goto (tgt := 38) C dJ5_init_d00df_22 (by decide) ?_
  have hg16 := up_n eg11 hg7 (ne_o (i := i) (c := 1) (d := 0) rfl)
  have hg17 := up_n eg14 hg16 (ne_o (i := i) (c := 1) (d := 0) rfl)
  exact z_vret C hr hlk dJ5_init_d00df_38 (by decide) (by decide) (⟨rfl, rfl, fun j h1 => by rw [ea4, va_up_ne _ _ (by omega)], fun j h1 h2 => by rw [eg14, va_up_ne _ _ (by omega)]; rw [eg11, va_up_ne _ _ (by omega)]; rw [eg5, va_up_ne _ _ (by omega)], by rw [← (show ad2 (i + 1) = q1 from ha6)] at hg15; exact hg15, hg17⟩)

set_option maxRecDepth 100000 in
set_option maxHeartbeats 4000000 in
theorem c_J4_init_da8c8 (l : Launch) (D : va_G) (A : Nat → Prop) (cs : Nat → ClassId) (tt : Nat) (ad : Nat → Nat) (g : Nat → va_E) (i a : Nat) (ha : ad i = a) (hg : g i = oC 1 [.null, .int (zI 0), .int (zI 0), .int (zI 0)]) : zM l yJ4_init_da8c8 cJ4_init_da8c8 1 none ({ frames := 2, cells := 1, slots := 16, locals := 120 } : Room) D A cs tt (i + 1) ad g [.ref a] (rV fun N' ad' g' => N' = i + 2 ∧ (∀ j, j < i + 1 → ad' j = ad j) ∧ (∀ j, j < i + 1 → j ≠ i → g' j = g j) ∧ isBld cs ad' g' i) := by
  refine z_of (by decide) (Nat.le_of_ble_eq_true rfl) ?_
  intro p e s m below meth c C hr hlk hnm
  refine z_lv (lv' := [(0, .ref a)]) [0] rfl ?_
  refine z_aload_n C 0 dJ4_init_da8c8_0 rfl ?_
  refine z_bipush (z := 16) C dJ4_init_da8c8_1 (by decide) ?_
  refine z_cI (As := [.int (zI (16))]) (rest := []) C (c_J5_init_d00df l D A cs tt _ _ i a ha hg) mi_yJ5_init_d00df q_322 rfl (by decide +kernel) (by decide) (Nat.le_of_ble_eq_true rfl) (by decide) dJ4_init_da8c8_3 rfl (kV fun M4 ad5 g6 hq7 => ?_)
  obtain ⟨rfl, hA1, hG2, hp3⟩ := hq7
  exact z_vret C hr hlk dJ4_init_da8c8_6 (by decide) (by decide) (⟨rfl, rfl, hA1, hG2, hp3⟩)

def isSt (cs : Nat → ClassId) (ad : Nat → Nat) (g : Nat → va_E) (i : Nat) : Prop := g i = oC 8 [.ref (ad (i + 1)), .ref (ad (i + 11)), .int (zI 0), .ref (ad (i + 12)), .ref (ad (i + 13)), .ref (ad (i + 17))] ∧ isWorld cs ad g (i + 1) (fun _ => 0) (fun _ => 0) (fun _ => 0) (fun _ _ => 0) ∧ (∃ b : Nat → Option Nat, g (i + 11) = rA (cs 4) 40 b ∧ ∀ k, k < 40 → b k = some (ad (i + 18 + 10 * k))) ∧ (∃ b : Nat → Option Nat, g (i + 12) = rA (cs 5) 6 b ∧ ∀ k, k < 6 → b k = some (ad (i + 418 + 3 * k))) ∧ isNotes cs ad g (i + 13) 0 (fun _ => 0) (fun _ => 0) (fun _ => 0) ∧ g (i + 17) = iA cs 3 (fun _ => 0) ∧ (∀ k, k < 40 → isWorld cs ad g (i + 18 + 10 * k) (fun _ => 0) (fun _ => 0) (fun _ => 0) (fun _ _ => 0)) ∧ ∀ k, k < 6 → isPit cs ad g (i + 418 + 3 * k) 0 0 0 0 (fun _ => 0)
theorem isSt.mv {cs : Nat → ClassId} {ad ad' : Nat → Nat} {g g' : Nat → va_E} {i : Nat} (hA : ∀ j, i ≤ j → j < i + 436 → ad' j = ad j) (hG : ∀ j, i ≤ j → j < i + 436 → g' j = g j) (h : isSt cs ad g i) : isSt cs ad' g' i := by
  obtain ⟨h1, h2, ⟨b1, h3, h4⟩, ⟨b2, h5, h6⟩, h7, h8, h9, h10⟩ := h
  refine ⟨by rw [hG _ (by omega) (by omega), hA _ (by omega) (by omega), hA _ (by omega) (by omega), hA _ (by omega) (by omega), hA _ (by omega) (by omega), hA _ (by omega) (by omega)]; exact h1, h2.mv (fun j _ _ => hA j (by omega) (by omega)) (fun j _ _ => hG j (by omega) (by omega)), ⟨b1, by rw [hG _ (by omega) (by omega)]; exact h3, fun k hk => by rw [hA _ (by omega) (by omega)]; exact h4 k hk⟩, ⟨b2, by rw [hG _ (by omega) (by omega)]; exact h5, fun k hk => by rw [hA _ (by omega) (by omega)]; exact h6 k hk⟩, h7.mv (fun j _ _ => hA j (by omega) (by omega)) (fun j _ _ => hG j (by omega) (by omega)), by rw [hG _ (by omega) (by omega)]; exact h8, fun k hk => (h9 k hk).mv (fun j _ _ => hA j (by omega) (by omega)) (fun j _ _ => hG j (by omega) (by omega)), fun k hk => (h10 k hk).mv (fun j _ _ => hA j (by omega) (by omega)) (fun j _ _ => hG j (by omega) (by omega))⟩

set_option maxRecDepth 100000 in
set_option maxHeartbeats 4000000 in
theorem c_X6_init (l : Launch) (D : va_G) (A : Nat → Prop) (cs : Nat → ClassId) (tt : Nat) (ad : Nat → Nat) (g : Nat → va_E) (i a : Nat) (ha : ad i = a) (hg : g i = oC 8 [.null, .null, .int (zI 0), .null, .null, .null]) : zM l yX6_init cX6_init 2 none ({ frames := 3, cells := 435, slots := 15336, locals := 180 } : Room) D A cs tt (i + 1) ad g [.ref a] (rV fun N' ad' g' => N' = i + 436 ∧ (∀ j, j < i + 1 → ad' j = ad j) ∧ (∀ j, j < i + 1 → j ≠ i → g' j = g j) ∧ isSt cs ad' g' i) := by
  refine z_of (by decide) (Nat.le_of_ble_eq_true rfl) ?_
  intro p e s m below meth c C hr hlk hnm
  refine z_lv (lv' := [(0, .ref a)]) [0] rfl ?_
  refine z_aload_n C 0 dX6_init_0 rfl ?_
  refine z_objInit C q_140 q_35 q_36 dX6_init_1 (Nat.le_of_ble_eq_true rfl) (Nat.le_of_ble_eq_true rfl) ?_
  refine z_aload_n C 0 dX6_init_4 rfl ?_
  refine z_new (fs := [.int (zI (0)), .int (zI (0)), .int (zI (0)), .int (zI (0)), .int (zI (0)), .int (zI (0)), .null]) (ci := 10) C tyX8 tyX8_ok rfl inA_X8 q_141 q_142 q_5 (fun j hj => by rcases (show j = 0 ∨ j = 1 ∨ j = 2 ∨ j = 3 ∨ j = 4 ∨ j = 5 ∨ j = 6 by omega) with rfl | rfl | rfl | rfl | rfl | rfl | rfl <;> rfl) (by decide) (by decide) dX6_init_5 (fun q1 ad2 g3 ea4 eg5 => ?_)
  have ha6 : zAt ad2 (i + 1) q1 := up_s ea4
  have hg7 := up_s eg5
  refine z_dup C dX6_init_8 rfl ?_
  refine z_cI (As := []) (rest := [.ref q1, .ref a]) C (c_X8_init l D A cs tt _ _ (i + 1) q1 ha6 hg7) mi_yX8_init q_143 rfl (by decide +kernel) (by decide) (Nat.le_of_ble_eq_true rfl) (by decide) dX6_init_9 rfl (kV fun M11 ad12 g13 hq14 => ?_)
  obtain ⟨rfl, hA8, hG9, hp10⟩ := hq14
  have ha15 : zAt ad2 (i) (a) := up_n ea4 ha (ne_o (i := i) (c := 0) (d := 1) rfl)
  have ha16 : zAt ad12 (i) (a) := (hA8 (i) (lt_o (i := i) (c := 0) (d := 2) rfl)).trans ha15
  have hg17 := up_n eg5 hg (ne_o (i := i) (c := 0) (d := 1) rfl)
  have hg18 := (hG9 (i) (lt_o (i := i) (c := 0) (d := 2) rfl) (ne_o (i := i) (c := 0) (d := 1) rfl)).trans hg17
  refine z_putF (fs' := [.ref q1, .null, .int (zI (0)), .null, .null, .null]) C (lt_o (i := i) (c := 0) (d := 11) rfl) ha16 hg18 tyX6 tyX6_ok nmX6 rfl inA_X6 0 (by decide) q_257 rfl rfl hnm rfl rfl rfl (Nat.le_of_ble_eq_true rfl) rfl dX6_init_12 (fun g19 eg20 => ?_)
  have hg21 := up_s eg20
  refine z_aload_n C 0 dX6_init_15 rfl ?_
  refine z_bipush (z := 40) C dX6_init_16 (by decide) ?_
  refine z_newR C 4 40 rfl rfl q_141 C.2.2.2.2.2.2.2.2.1.2.1 (by decide) (by decide) (by decide) dX6_init_18 (fun q22 ad23 g24 ea25 eg26 => ?_)
  have ha27 : zAt ad23 (i + 1 + 10) q22 := up_s ea25
  have hg28 := up_s eg26
  have ha29 : zAt ad23 (i) (a) := up_n ea25 ha16 (ne_o (i := i) (c := 0) (d := 11) rfl)
  have hg30 := up_n eg26 hg21 (ne_o (i := i) (c := 0) (d := 11) rfl)
  refine z_putF (fs' := [.ref q1, .ref q22, .int (zI (0)), .null, .null, .null]) C (lt_o (i := i) (c := 0) (d := 12) rfl) ha29 hg30 tyX6 tyX6_ok nmX6 rfl inA_X6 1 (by decide) q_259 rfl rfl hnm rfl rfl rfl (Nat.le_of_ble_eq_true rfl) rfl dX6_init_21 (fun g31 eg32 => ?_)
  have hg33 := up_s eg32
  refine z_aload_n C 0 dX6_init_24 rfl ?_
  refine z_iconst (z := 0) C dX6_init_25 rfl ?_
  refine z_put (fs' := [.ref q1, .ref q22, .int (zI (0)), .null, .null, .null]) C (lt_o (i := i) (c := 0) (d := 12) rfl) ha29 hg33 tyX6 tyX6_ok nmX6 rfl inA_X6 2 (by decide) q_260 rfl rfl rfl rfl (Nat.le_of_ble_eq_true rfl) rfl dX6_init_26 (fun g34 eg35 => ?_)
  have hg36 := up_s eg35
  refine z_aload_n C 0 dX6_init_29 rfl ?_
  refine z_bipush (z := 6) C dX6_init_30 (by decide) ?_
  refine z_newR C 5 6 rfl rfl q_208 C.2.2.2.2.2.2.2.2.1.2.2.1 (by decide) (by decide) (by decide) dX6_init_32 (fun q37 ad38 g39 ea40 eg41 => ?_)
  have ha42 : zAt ad38 (i + 1 + 10 + 1) q37 := up_s ea40
  have hg43 := up_s eg41
  have ha44 : zAt ad38 (i) (a) := up_n ea40 ha29 (ne_o (i := i) (c := 0) (d := 12) rfl)
  have hg45 := up_n eg41 hg36 (ne_o (i := i) (c := 0) (d := 12) rfl)
  refine z_putF (fs' := [.ref q1, .ref q22, .int (zI (0)), .ref q37, .null, .null]) C (lt_o (i := i) (c := 0) (d := 13) rfl) ha44 hg45 tyX6 tyX6_ok nmX6 rfl inA_X6 3 (by decide) q_262 rfl rfl hnm rfl rfl rfl (Nat.le_of_ble_eq_true rfl) rfl dX6_init_35 (fun g46 eg47 => ?_)
  have hg48 := up_s eg47
  refine z_aload_n C 0 dX6_init_38 rfl ?_
  refine z_new (fs := [.int (zI (0)), .null, .null, .null]) (ci := 4) C tyX2 tyX2_ok rfl inA_X2 q_210 q_211 q_7 (fun j hj => by rcases (show j = 0 ∨ j = 1 ∨ j = 2 ∨ j = 3 by omega) with rfl | rfl | rfl | rfl <;> rfl) (by decide) (by decide) dX6_init_39 (fun q49 ad50 g51 ea52 eg53 => ?_)
  have ha54 : zAt ad50 (i + 1 + 10 + 1 + 1) q49 := up_s ea52
  have hg55 := up_s eg53
  refine z_dup C dX6_init_42 rfl ?_
  refine z_cIN (As := []) (rest := [.ref q49, .ref a]) C (c_X2_init l D A cs tt _ _ (i + 1 + 10 + 1 + 1) q49 ha54 hg55) mi_yX2_init n_212 rfl (by decide +kernel) (by decide) (Nat.le_of_ble_eq_true rfl) (by decide) dX6_init_43 rfl (kV fun M59 ad60 g61 hq62 => ?_)
  obtain ⟨rfl, hA56, hG57, hp58⟩ := hq62
  have ha63 : zAt ad50 (i) (a) := up_n ea52 ha44 (ne_o (i := i) (c := 0) (d := 13) rfl)
  have ha64 : zAt ad60 (i) (a) := (hA56 (i) (lt_o (i := i) (c := 0) (d := 14) rfl)).trans ha63
  have hg65 := up_n eg53 hg48 (ne_o (i := i) (c := 0) (d := 13) rfl)
  have hg66 := (hG57 (i) (lt_o (i := i) (c := 0) (d := 14) rfl) (ne_o (i := i) (c := 0) (d := 13) rfl)).trans hg65
  refine z_putF (fs' := [.ref q1, .ref q22, .int (zI (0)), .ref q37, .ref q49, .null]) C (lt_o (i := i) (c := 0) (d := 17) rfl) ha64 hg66 tyX6 tyX6_ok nmX6 rfl inA_X6 4 (by decide) q_264 rfl rfl hnm rfl rfl rfl (Nat.le_of_ble_eq_true rfl) rfl dX6_init_46 (fun g67 eg68 => ?_)
  have hg69 := up_s eg68
  refine z_aload_n C 0 dX6_init_49 rfl ?_
  refine z_iconst (z := 3) C dX6_init_50 rfl ?_
  refine z_newI C 3 rfl q_134 (by decide) (by decide) (by decide) dX6_init_51 (fun q70 ad71 g72 ea73 eg74 => ?_)
  have ha75 : zAt ad71 (i + 1 + 10 + 1 + 1 + 4) q70 := up_s ea73
  have hg76 := up_s eg74
  have ha77 : zAt ad71 (i) (a) := up_n ea73 ha64 (ne_o (i := i) (c := 0) (d := 17) rfl)
  have hg78 := up_n eg74 hg69 (ne_o (i := i) (c := 0) (d := 17) rfl)
  refine z_putF (fs' := [.ref q1, .ref q22, .int (zI (0)), .ref q37, .ref q49, .ref q70]) C (lt_o (i := i) (c := 0) (d := 18) rfl) ha77 hg78 tyX6 tyX6_ok nmX6 rfl inA_X6 5 (by decide) q_266 rfl rfl hnm rfl rfl rfl (Nat.le_of_ble_eq_true rfl) rfl dX6_init_53 (fun g79 eg80 => ?_)
  have hg81 := up_s eg80
  refine z_iconst (z := 0) C dX6_init_56 rfl ?_
  refine z_istore_n (lv' := [(1, .int (zI (0))), (0, .ref a)]) C dX6_init_57 rfl (by decide) rfl ?_
  have ha83 : zAt ad12 (i + 1) (q1) := (hA8 (i + 1) (lt_o (i := i) (c := 1) (d := 2) rfl)).trans ha6
  have ha84 : zAt ad23 (i + 1) (q1) := up_n ea25 ha83 (ne_o (i := i) (c := 1) (d := 11) rfl)
  have ha85 : zAt ad38 (i + 1) (q1) := up_n ea40 ha84 (ne_o (i := i) (c := 1) (d := 12) rfl)
  have ha86 : zAt ad50 (i + 1) (q1) := up_n ea52 ha85 (ne_o (i := i) (c := 1) (d := 13) rfl)
  have ha87 : zAt ad60 (i + 1) (q1) := (hA56 (i + 1) (lt_o (i := i) (c := 1) (d := 14) rfl)).trans ha86
  have ha88 : zAt ad71 (i + 1) (q1) := up_n ea73 ha87 (ne_o (i := i) (c := 1) (d := 17) rfl)
  have ha89 : zAt ad38 (i + 1 + 10) (q22) := up_n ea40 ha27 (ne_o (i := i) (c := 11) (d := 12) rfl)
  have ha90 : zAt ad50 (i + 1 + 10) (q22) := up_n ea52 ha89 (ne_o (i := i) (c := 11) (d := 13) rfl)
  have ha91 : zAt ad60 (i + 1 + 10) (q22) := (hA56 (i + 1 + 10) (lt_o (i := i) (c := 11) (d := 14) rfl)).trans ha90
  have ha92 : zAt ad71 (i + 1 + 10) (q22) := up_n ea73 ha91 (ne_o (i := i) (c := 11) (d := 17) rfl)
  have ha93 : zAt ad50 (i + 1 + 10 + 1) (q37) := up_n ea52 ha42 (ne_o (i := i) (c := 12) (d := 13) rfl)
  have ha94 : zAt ad60 (i + 1 + 10 + 1) (q37) := (hA56 (i + 1 + 10 + 1) (lt_o (i := i) (c := 12) (d := 14) rfl)).trans ha93
  have ha95 : zAt ad71 (i + 1 + 10 + 1) (q37) := up_n ea73 ha94 (ne_o (i := i) (c := 12) (d := 17) rfl)
  have ha96 : zAt ad60 (i + 1 + 10 + 1 + 1) (q49) := (hA56 (i + 1 + 10 + 1 + 1) (lt_o (i := i) (c := 13) (d := 14) rfl)).trans ha54
  have ha97 : zAt ad71 (i + 1 + 10 + 1 + 1) (q49) := up_n ea73 ha96 (ne_o (i := i) (c := 13) (d := 17) rfl)
  have h82 : g79 i = oC 8 [.ref (ad71 (i + 1)), .ref (ad71 (i + 11)), .int (zI 0), .ref (ad71 (i + 12)), .ref (ad71 (i + 13)), .ref (ad71 (i + 17))] := by rw [← (show ad71 (i + 1) = q1 from ha88), ← (show ad71 (i + 1 + 10) = q22 from ha92), ← (show ad71 (i + 1 + 10 + 1) = q37 from ha95), ← (show ad71 (i + 1 + 10 + 1 + 1) = q49 from ha97), ← (show ad71 (i + 1 + 10 + 1 + 1 + 4) = q70 from ha75)] at hg81; exact hg81
  have hp98 := isWorld.mv (ad' := ad71) (g' := g79) (fun j h1 h2 => by rw [ea73, va_up_ne _ _ (by omega)]; rw [hA56 _ (by omega)]; rw [ea52, va_up_ne _ _ (by omega)]; rw [ea40, va_up_ne _ _ (by omega)]; rw [ea25, va_up_ne _ _ (by omega)]) (fun j h1 h2 => by rw [eg80, va_up_ne _ _ (by omega)]; rw [eg74, va_up_ne _ _ (by omega)]; rw [eg68, va_up_ne _ _ (by omega)]; rw [hG57 _ (by omega) (by omega)]; rw [eg53, va_up_ne _ _ (by omega)]; rw [eg47, va_up_ne _ _ (by omega)]; rw [eg41, va_up_ne _ _ (by omega)]; rw [eg35, va_up_ne _ _ (by omega)]; rw [eg32, va_up_ne _ _ (by omega)]; rw [eg26, va_up_ne _ _ (by omega)]; rw [eg20, va_up_ne _ _ (by omega)]) hp10
  have hp99 := isNotes.mv (ad' := ad71) (g' := g79) (fun j h1 h2 => by rw [ea73, va_up_ne _ _ (by omega)]) (fun j h1 h2 => by rw [eg80, va_up_ne _ _ (by omega)]; rw [eg74, va_up_ne _ _ (by omega)]; rw [eg68, va_up_ne _ _ (by omega)]) hp58
  have hg100 := up_n eg32 hg28 (ne_o (i := i) (c := 11) (d := 0) rfl)
  have hg101 := up_n eg35 hg100 (ne_o (i := i) (c := 11) (d := 0) rfl)
  have hg102 := up_n eg41 hg101 (ne_o (i := i) (c := 11) (d := 12) rfl)
  have hg103 := up_n eg47 hg102 (ne_o (i := i) (c := 11) (d := 0) rfl)
  have hg104 := up_n eg53 hg103 (ne_o (i := i) (c := 11) (d := 13) rfl)
  have hg105 := (hG57 (i + 1 + 10) (lt_o (i := i) (c := 11) (d := 14) rfl) (ne_o (i := i) (c := 11) (d := 13) rfl)).trans hg104
  have hg106 := up_n eg68 hg105 (ne_o (i := i) (c := 11) (d := 0) rfl)
  have hg107 := up_n eg74 hg106 (ne_o (i := i) (c := 11) (d := 17) rfl)
  have hg108 := up_n eg80 hg107 (ne_o (i := i) (c := 11) (d := 0) rfl)
  have hg109 := up_n eg47 hg43 (ne_o (i := i) (c := 12) (d := 0) rfl)
  have hg110 := up_n eg53 hg109 (ne_o (i := i) (c := 12) (d := 13) rfl)
  have hg111 := (hG57 (i + 1 + 10 + 1) (lt_o (i := i) (c := 12) (d := 14) rfl) (ne_o (i := i) (c := 12) (d := 13) rfl)).trans hg110
  have hg112 := up_n eg68 hg111 (ne_o (i := i) (c := 12) (d := 0) rfl)
  have hg113 := up_n eg74 hg112 (ne_o (i := i) (c := 12) (d := 17) rfl)
  have hg114 := up_n eg80 hg113 (ne_o (i := i) (c := 12) (d := 0) rfl)
  have hg115 := up_n eg80 hg76 (ne_o (i := i) (c := 17) (d := 0) rfl)
  have hadf : ∀ j, j < i + 1 → ad71 j = ad j := fun j h1 => by rw [ea73, va_up_ne _ _ (by omega)]; rw [hA56 _ (by omega)]; rw [ea52, va_up_ne _ _ (by omega)]; rw [ea40, va_up_ne _ _ (by omega)]; rw [ea25, va_up_ne _ _ (by omega)]; rw [hA8 _ (by omega)]; rw [ea4, va_up_ne _ _ (by omega)]
  have hgf : ∀ j, j < i → g79 j = g j := fun j h1 => by rw [eg80, va_up_ne _ _ (by omega)]; rw [eg74, va_up_ne _ _ (by omega)]; rw [eg68, va_up_ne _ _ (by omega)]; rw [hG57 _ (by omega) (by omega)]; rw [eg53, va_up_ne _ _ (by omega)]; rw [eg47, va_up_ne _ _ (by omega)]; rw [eg41, va_up_ne _ _ (by omega)]; rw [eg35, va_up_ne _ _ (by omega)]; rw [eg32, va_up_ne _ _ (by omega)]; rw [eg26, va_up_ne _ _ (by omega)]; rw [eg20, va_up_ne _ _ (by omega)]; rw [hG9 _ (by omega) (by omega)]; rw [eg5, va_up_ne _ _ (by omega)]
  have loop2 : ∀ (n kk : Nat) (ad1 : Nat → Nat) (g1 : Nat → va_E), kk + n = 6 → (∀ j, j < i + 1 → ad1 j = ad j) → (∀ j, j < i → g1 j = g j) → g1 i = oC 8 [.ref (ad1 (i + 1)), .ref (ad1 (i + 11)), .int (zI 0), .ref (ad1 (i + 12)), .ref (ad1 (i + 13)), .ref (ad1 (i + 17))] → isWorld cs ad1 g1 (i + 1) (fun _ => 0) (fun _ => 0) (fun _ => 0) (fun _ _ => 0) → isNotes cs ad1 g1 (i + 13) 0 (fun _ => 0) (fun _ => 0) (fun _ => 0) → g1 (i + 17) = iA cs 3 (fun _ => 0) → (∃ b : Nat → Option Nat, g1 (i + 11) = rA (cs 4) 40 b ∧ ∀ k, k < 40 → b k = some (ad1 (i + 18 + 10 * k))) → (∀ k, k < 40 → isWorld cs ad1 g1 (i + 18 + 10 * k) (fun _ => 0) (fun _ => 0) (fun _ => 0) (fun _ _ => 0)) → (∃ b : Nat → Option Nat, g1 (i + 12) = rA (cs 5) 6 b ∧ ∀ k, k < kk → b k = some (ad1 (i + 418 + 3 * k))) → (∀ k, k < kk → isPit cs ad1 g1 (i + 418 + 3 * k) 0 0 0 0 (fun _ => 0)) → zV p l e ({ frames := 3, cells := 435, slots := 15336, locals := 180 } : Room) s m [Value.ref a].toArray below meth c (MQ below (zPost D A (rV fun N' ad' g' => N' = i + 436 ∧ (∀ j, j < i + 1 → ad' j = ad j) ∧ (∀ j, j < i + 1 → j ≠ i → g' j = g j) ∧ isSt cs ad' g' i)) [Value.ref a].toArray s ({ frames := 3, cells := 435, slots := 15336, locals := 180 } : Room).cells ({ frames := 3, cells := 435, slots := 15336, locals := 180 } : Room).slots A) D A 2 (i + 418 + 3 * kk) ad1 g1 (417 + 3 * kk) (14796 + 90 * kk) 88 [(1, .int (zI (kk : Int))), (0, .ref a)] [] := by
    intro n
    induction n with
    | zero =>
      intro kk ad1 g1 hkk f1 f2 f8 fw fn fr g40 gw40 g6 gw6
      have haa : zAt ad1 i a := by show ad1 i = a; rw [f1 _ (by omega)]; exact ha
      have ha116 : zAt ad1 (i + 12) (ad1 (i + 12)) := rfl
      obtain ⟨b, fb1, fb2⟩ := g6
      refine z_iload_n C 0 dX6_init_88 rfl ?_
      refine z_aload_n C 1 dX6_init_89 rfl ?_
      refine z_get (v := .ref (ad1 (i + 12))) C (by omega) haa f8 rfl inA_X6 3 (by decide) q_262 rfl rfl dX6_init_90 ?_
      refine z_alen (z := 6) C (by omega) ha116 fb1 5 rfl rfl dX6_init_93 ?_
      have hkk : kk = 6 := by omega
      subst hkk
      refine z_icmp_ge (tgt := 116) C dX6_init_94 (by decide) (by omega) (by omega) (fun _ => ?_) (fun h => absurd h (by omega))
      exact z_vret C hr hlk dX6_init_116 (by decide) (by decide) (⟨rfl, rfl, f1, fun j h1 h2 => f2 j (by omega), f8, fw, g40, ⟨b, fb1, fb2⟩, fn, fr, gw40, gw6⟩)
    | succ n ih =>
      intro kk ad1 g1 hkk f1 f2 f8 fw fn fr g40 gw40 g6 gw6
      have haa : zAt ad1 i a := by show ad1 i = a; rw [f1 _ (by omega)]; exact ha
      have ha117 : zAt ad1 (i + 12) (ad1 (i + 12)) := rfl
      obtain ⟨b, fb1, fb2⟩ := g6
      refine z_iload_n C 0 dX6_init_88 rfl ?_
      refine z_aload_n C 1 dX6_init_89 rfl ?_
      refine z_get (v := .ref (ad1 (i + 12))) C (by omega) haa f8 rfl inA_X6 3 (by decide) q_262 rfl rfl dX6_init_90 ?_
      refine z_alen (z := 6) C (by omega) ha117 fb1 5 rfl rfl dX6_init_93 ?_
      refine z_icmp_ge (tgt := 116) C dX6_init_94 (by decide) (by omega) (by omega) (fun h => absurd h (by omega)) (fun _ => ?_)
      refine z_aload_n C 1 dX6_init_97 rfl ?_
      refine z_get (v := .ref (ad1 (i + 12))) C (by omega) haa f8 rfl inA_X6 3 (by decide) q_262 rfl rfl dX6_init_98 ?_
      refine z_iload_n C 0 dX6_init_101 rfl ?_
      refine z_new (fs := [.int (zI (0)), .int (zI (0)), .null]) (ci := 6) C tyX4 tyX4_ok rfl inA_X4 q_208 q_234 q_8 (fun j hj => by rcases (show j = 0 ∨ j = 1 ∨ j = 2 by omega) with rfl | rfl | rfl <;> rfl) (by show _ ≤ 435; omega) (by show _ ≤ 15336; omega) dX6_init_102 (fun q118 ad119 g120 ea121 eg122 => ?_)
      have ha123 : zAt ad119 (i + 418 + 3 * kk) q118 := up_s ea121
      have hg124 := up_s eg122
      refine z_dup C dX6_init_105 rfl ?_
      refine z_cIN (As := []) (rest := [.ref q118, .int (zI ((kk : Int))), .ref (ad1 (i + 12))]) C (c_X4_init l D A cs tt _ _ (i + 418 + 3 * kk) q118 ha123 hg124) mi_yX4_init n_235 rfl (by decide +kernel) (by decide) (Nat.le_of_ble_eq_true rfl) ⟨by show _ + 2 ≤ 435; omega, by show _ + 87 ≤ 15336; omega⟩ dX6_init_106 rfl (kV fun M128 ad129 g130 hq131 => ?_)
      obtain ⟨rfl, hA125, hG126, hp127⟩ := hq131
      have ha132 : zAt ad119 (i + 12) (ad1 (i + 12)) := up_n ea121 ha117 (by omega)
      have ha133 : zAt ad129 (i + 12) (ad1 (i + 12)) := (hA125 (i + 12) (by omega)).trans ha132
      have hg134 := up_n eg122 fb1 (by omega)
      have hg135 := (hG126 (i + 12) (by omega) (by omega)).trans hg134
      have ha136 : zAt ad129 (i + 418 + 3 * kk) (q118) := (hA125 (i + 418 + 3 * kk) (lt_o (i := i + 418 + 3 * kk) (c := 0) (d := 1) rfl)).trans ha123
      refine z_aast (q := (RX4, TX4, 3)) C (by omega) ha133 hg135 5 rfl (lt_o (i := i + 418 + 3 * kk) (c := 0) (d := 3) rfl) ha136 hp127.1 rfl (kk) (by omega) (by omega) (by decide) dX6_init_109 (fun g137 eg138 => ?_)
      have hg139 := up_s eg138
      refine z_iinc (z := ((kk + 1 : Nat) : Int)) (lv' := [(1, .int (zI (((kk + 1 : Nat) : Int)))), (0, .ref a)]) (j := 0) C dX6_init_110 rfl (congrArg zI (by omega)) (by decide) rfl ?_
      refine z_goto (tgt := 88) C dX6_init_113 (by decide) ?_
      have hp140 := isPit.mv (ad' := ad129) (g' := g137) (fun j h1 h2 => by rfl) (fun j h1 h2 => by rw [eg138, va_up_ne _ _ (by omega)]) hp127
      have f1' : ∀ j, j < i + 1 → ad129 j = ad j := fun j h1 => by rw [hA125 _ (by omega)]; rw [ea121, va_up_ne _ _ (by omega)]; exact f1 j h1
      have f2' : ∀ j, j < i → g137 j = g j := fun j h1 => by rw [eg138, va_up_ne _ _ (by omega)]; rw [hG126 _ (by omega) (by omega)]; rw [eg122, va_up_ne _ _ (by omega)]; exact f2 j h1
      have hA9 : ∀ j, j < i + 418 + 3 * kk → ad129 j = ad1 j := fun j h1 => by rw [hA125 _ (by omega)]; rw [ea121, va_up_ne _ _ (by omega)]
      have hG9 : ∀ j, j < i + 418 + 3 * kk → j ≠ i + 12 → g137 j = g1 j := fun j h1 h2 => by rw [eg138, va_up_ne _ _ (by omega)]; rw [hG126 _ (by omega) (by omega)]; rw [eg122, va_up_ne _ _ (by omega)]
      have f8' : g137 i = oC 8 [.ref (ad129 (i + 1)), .ref (ad129 (i + 11)), .int (zI 0), .ref (ad129 (i + 12)), .ref (ad129 (i + 13)), .ref (ad129 (i + 17))] := by rw [hG9 _ (by omega) (by omega), hA9 _ (by omega), hA9 _ (by omega), hA9 _ (by omega), hA9 _ (by omega), hA9 _ (by omega)]; exact f8
      have fb' : ∀ k, k < kk + 1 → (va_up (b) (kk) (some q118)) k = some (ad129 (i + 418 + 3 * k)) := by
        intro k hk
        by_cases e9 : k = kk
        · subst e9; rw [va_up_self]; exact congrArg some (Eq.symm ha136)
        · rw [va_up_ne _ _ e9, hA9 _ (by omega)]; exact fb2 k (by omega)
      have fw' : ∀ k, k < kk + 1 → isPit cs ad129 g137 (i + 418 + 3 * k) 0 0 0 0 (fun _ => 0) := by
        intro k hk
        by_cases e9 : k = kk
        · subst e9; exact hp140
        · exact (gw6 k (by omega)).mv (fun j h1 h2 => hA9 j (by omega)) (fun j h1 h2 => hG9 j (by omega) (by omega))
      have e9 : i + 418 + 3 * kk + 3 = i + 418 + 3 * (kk + 1) := by omega
      rw [e9]
      refine z_widen (k2 := 417 + 3 * (kk + 1)) (n2 := 14796 + 90 * (kk + 1)) (by show 417 + 3 * kk + 1 + 2 ≤ _; omega) (by show 14796 + 90 * kk + 3 + 87 ≤ _; omega) ?_
      refine ih (kk + 1) ad129 g137 (by omega) f1' f2' f8' (fw.mv (fun j h1 h2 => hA9 j (by omega)) (fun j h1 h2 => hG9 j (by omega) (by omega))) (fn.mv (fun j h1 h2 => hA9 j (by omega)) (fun j h1 h2 => hG9 j (by omega) (by omega))) (by rw [hG9 _ (by omega) (by omega)]; exact fr) ?_ (fun k hk => (gw40 k hk).mv (fun j h1 h2 => hA9 j (by omega)) (fun j h1 h2 => hG9 j (by omega) (by omega))) ⟨_, hg139, fb'⟩ fw'
      obtain ⟨b4, q1, q2⟩ := g40
      exact ⟨b4, by rw [hG9 _ (by omega) (by omega)]; exact q1, fun k hk => by rw [hA9 _ (by omega)]; exact q2 k hk⟩
  have loop1 : ∀ (n kk : Nat) (ad1 : Nat → Nat) (g1 : Nat → va_E), kk + n = 40 → (∀ j, j < i + 1 → ad1 j = ad j) → (∀ j, j < i → g1 j = g j) → g1 i = oC 8 [.ref (ad1 (i + 1)), .ref (ad1 (i + 11)), .int (zI 0), .ref (ad1 (i + 12)), .ref (ad1 (i + 13)), .ref (ad1 (i + 17))] → isWorld cs ad1 g1 (i + 1) (fun _ => 0) (fun _ => 0) (fun _ => 0) (fun _ _ => 0) → isNotes cs ad1 g1 (i + 13) 0 (fun _ => 0) (fun _ => 0) (fun _ => 0) → g1 (i + 17) = iA cs 3 (fun _ => 0) → g1 (i + 12) = rA (cs 5) 6 (fun _ => none) → (∃ b : Nat → Option Nat, g1 (i + 11) = rA (cs 4) 40 b ∧ ∀ k, k < kk → b k = some (ad1 (i + 18 + 10 * k))) → (∀ k, k < kk → isWorld cs ad1 g1 (i + 18 + 10 * k) (fun _ => 0) (fun _ => 0) (fun _ => 0) (fun _ _ => 0)) → zV p l e ({ frames := 3, cells := 435, slots := 15336, locals := 180 } : Room) s m [Value.ref a].toArray below meth c (MQ below (zPost D A (rV fun N' ad' g' => N' = i + 436 ∧ (∀ j, j < i + 1 → ad' j = ad j) ∧ (∀ j, j < i + 1 → j ≠ i → g' j = g j) ∧ isSt cs ad' g' i)) [Value.ref a].toArray s ({ frames := 3, cells := 435, slots := 15336, locals := 180 } : Room).cells ({ frames := 3, cells := 435, slots := 15336, locals := 180 } : Room).slots A) D A 2 (i + 18 + 10 * kk) ad1 g1 (17 + 10 * kk) (436 + 359 * kk) 58 [(1, .int (zI (kk : Int))), (0, .ref a)] [] := by
    intro n
    induction n with
    | zero =>
      intro kk ad1 g1 hkk f1 f2 f8 fw fn fr gp g40 gw40
      have haa : zAt ad1 i a := by show ad1 i = a; rw [f1 _ (by omega)]; exact ha
      have ha141 : zAt ad1 (i + 11) (ad1 (i + 11)) := rfl
      obtain ⟨b, fb1, fb2⟩ := g40
      refine z_iload_n C 0 dX6_init_58 rfl ?_
      refine z_aload_n C 1 dX6_init_59 rfl ?_
      refine z_get (v := .ref (ad1 (i + 11))) C (by omega) haa f8 rfl inA_X6 1 (by decide) q_259 rfl rfl dX6_init_60 ?_
      refine z_alen (z := 40) C (by omega) ha141 fb1 4 rfl rfl dX6_init_63 ?_
      have hkk : kk = 40 := by omega
      subst hkk
      refine z_icmp_ge (tgt := 86) C dX6_init_64 (by decide) (by omega) (by omega) (fun _ => ?_) (fun h => absurd h (by omega))
      refine z_iconst (z := 0) C dX6_init_86 rfl ?_
      refine z_istore_n (lv' := [(1, .int (zI (0))), (0, .ref a)]) C dX6_init_87 rfl (by decide) rfl ?_
      refine z_lv (lv' := [(1, .int (zI ((0 : Nat) : Int))), (0, .ref a)]) [0, 1] rfl ?_
      refine z_widen (k2 := 417 + 3 * 0) (n2 := 14796 + 90 * 0) (by decide) (by decide) ?_
      exact loop2 6 0 ad1 g1 rfl f1 f2 f8 fw fn fr ⟨b, fb1, fb2⟩ gw40 ⟨_, gp, fun k hk => absurd hk (Nat.not_lt_zero k)⟩ (fun k hk => absurd hk (Nat.not_lt_zero k))
    | succ n ih =>
      intro kk ad1 g1 hkk f1 f2 f8 fw fn fr gp g40 gw40
      have haa : zAt ad1 i a := by show ad1 i = a; rw [f1 _ (by omega)]; exact ha
      have ha142 : zAt ad1 (i + 11) (ad1 (i + 11)) := rfl
      obtain ⟨b, fb1, fb2⟩ := g40
      refine z_iload_n C 0 dX6_init_58 rfl ?_
      refine z_aload_n C 1 dX6_init_59 rfl ?_
      refine z_get (v := .ref (ad1 (i + 11))) C (by omega) haa f8 rfl inA_X6 1 (by decide) q_259 rfl rfl dX6_init_60 ?_
      refine z_alen (z := 40) C (by omega) ha142 fb1 4 rfl rfl dX6_init_63 ?_
      refine z_icmp_ge (tgt := 86) C dX6_init_64 (by decide) (by omega) (by omega) (fun h => absurd h (by omega)) (fun _ => ?_)
      refine z_aload_n C 1 dX6_init_67 rfl ?_
      refine z_get (v := .ref (ad1 (i + 11))) C (by omega) haa f8 rfl inA_X6 1 (by decide) q_259 rfl rfl dX6_init_68 ?_
      refine z_iload_n C 0 dX6_init_71 rfl ?_
      refine z_new (fs := [.int (zI (0)), .int (zI (0)), .int (zI (0)), .int (zI (0)), .int (zI (0)), .int (zI (0)), .null]) (ci := 10) C tyX8 tyX8_ok rfl inA_X8 q_141 q_142 q_5 (fun j hj => by rcases (show j = 0 ∨ j = 1 ∨ j = 2 ∨ j = 3 ∨ j = 4 ∨ j = 5 ∨ j = 6 by omega) with rfl | rfl | rfl | rfl | rfl | rfl | rfl <;> rfl) (by show _ ≤ 435; omega) (by show _ ≤ 15336; omega) dX6_init_72 (fun q143 ad144 g145 ea146 eg147 => ?_)
      have ha148 : zAt ad144 (i + 18 + 10 * kk) q143 := up_s ea146
      have hg149 := up_s eg147
      refine z_dup C dX6_init_75 rfl ?_
      refine z_cI (As := []) (rest := [.ref q143, .int (zI ((kk : Int))), .ref (ad1 (i + 11))]) C (c_X8_init l D A cs tt _ _ (i + 18 + 10 * kk) q143 ha148 hg149) mi_yX8_init q_143 rfl (by decide +kernel) (by decide) (Nat.le_of_ble_eq_true rfl) ⟨by show _ + 9 ≤ 435; omega, by show _ + 352 ≤ 15336; omega⟩ dX6_init_76 rfl (kV fun M153 ad154 g155 hq156 => ?_)
      obtain ⟨rfl, hA150, hG151, hp152⟩ := hq156
      have ha157 : zAt ad144 (i + 11) (ad1 (i + 11)) := up_n ea146 ha142 (by omega)
      have ha158 : zAt ad154 (i + 11) (ad1 (i + 11)) := (hA150 (i + 11) (by omega)).trans ha157
      have hg159 := up_n eg147 fb1 (by omega)
      have hg160 := (hG151 (i + 11) (by omega) (by omega)).trans hg159
      have ha161 : zAt ad154 (i + 18 + 10 * kk) (q143) := (hA150 (i + 18 + 10 * kk) (lt_o (i := i + 18 + 10 * kk) (c := 0) (d := 1) rfl)).trans ha148
      refine z_aast (q := (RX8, TX8, 7)) C (by omega) ha158 hg160 4 rfl (lt_o (i := i + 18 + 10 * kk) (c := 0) (d := 10) rfl) ha161 hp152.1 rfl (kk) (by omega) (by omega) (by decide) dX6_init_79 (fun g162 eg163 => ?_)
      have hg164 := up_s eg163
      refine z_iinc (z := ((kk + 1 : Nat) : Int)) (lv' := [(1, .int (zI (((kk + 1 : Nat) : Int)))), (0, .ref a)]) (j := 0) C dX6_init_80 rfl (congrArg zI (by omega)) (by decide) rfl ?_
      refine z_goto (tgt := 58) C dX6_init_83 (by decide) ?_
      have hp165 := isWorld.mv (ad' := ad154) (g' := g162) (fun j h1 h2 => by rfl) (fun j h1 h2 => by rw [eg163, va_up_ne _ _ (by omega)]) hp152
      have f1' : ∀ j, j < i + 1 → ad154 j = ad j := fun j h1 => by rw [hA150 _ (by omega)]; rw [ea146, va_up_ne _ _ (by omega)]; exact f1 j h1
      have f2' : ∀ j, j < i → g162 j = g j := fun j h1 => by rw [eg163, va_up_ne _ _ (by omega)]; rw [hG151 _ (by omega) (by omega)]; rw [eg147, va_up_ne _ _ (by omega)]; exact f2 j h1
      have hA9 : ∀ j, j < i + 18 + 10 * kk → ad154 j = ad1 j := fun j h1 => by rw [hA150 _ (by omega)]; rw [ea146, va_up_ne _ _ (by omega)]
      have hG9 : ∀ j, j < i + 18 + 10 * kk → j ≠ i + 11 → g162 j = g1 j := fun j h1 h2 => by rw [eg163, va_up_ne _ _ (by omega)]; rw [hG151 _ (by omega) (by omega)]; rw [eg147, va_up_ne _ _ (by omega)]
      have f8' : g162 i = oC 8 [.ref (ad154 (i + 1)), .ref (ad154 (i + 11)), .int (zI 0), .ref (ad154 (i + 12)), .ref (ad154 (i + 13)), .ref (ad154 (i + 17))] := by rw [hG9 _ (by omega) (by omega), hA9 _ (by omega), hA9 _ (by omega), hA9 _ (by omega), hA9 _ (by omega), hA9 _ (by omega)]; exact f8
      have fb' : ∀ k, k < kk + 1 → (va_up (b) (kk) (some q143)) k = some (ad154 (i + 18 + 10 * k)) := by
        intro k hk
        by_cases e9 : k = kk
        · subst e9; rw [va_up_self]; exact congrArg some (Eq.symm ha161)
        · rw [va_up_ne _ _ e9, hA9 _ (by omega)]; exact fb2 k (by omega)
      have fw' : ∀ k, k < kk + 1 → isWorld cs ad154 g162 (i + 18 + 10 * k) (fun _ => 0) (fun _ => 0) (fun _ => 0) (fun _ _ => 0) := by
        intro k hk
        by_cases e9 : k = kk
        · subst e9; exact hp165
        · exact (gw40 k (by omega)).mv (fun j h1 h2 => hA9 j (by omega)) (fun j h1 h2 => hG9 j (by omega) (by omega))
      have e9 : i + 18 + 10 * kk + 10 = i + 18 + 10 * (kk + 1) := by omega
      rw [e9]
      refine z_widen (k2 := 17 + 10 * (kk + 1)) (n2 := 436 + 359 * (kk + 1)) (by show 17 + 10 * kk + 1 + 9 ≤ _; omega) (by show 436 + 359 * kk + 7 + 352 ≤ _; omega) ?_
      exact ih (kk + 1) ad154 g162 (by omega) f1' f2' f8' (fw.mv (fun j h1 h2 => hA9 j (by omega)) (fun j h1 h2 => hG9 j (by omega) (by omega))) (fn.mv (fun j h1 h2 => hA9 j (by omega)) (fun j h1 h2 => hG9 j (by omega) (by omega))) (by rw [hG9 _ (by omega) (by omega)]; exact fr) (by rw [hG9 _ (by omega) (by omega)]; exact gp) ⟨_, hg164, fb'⟩ fw'
  refine z_lv (lv' := [(1, .int (zI ((0 : Nat) : Int))), (0, .ref a)]) [0, 1] rfl ?_
  refine z_widen (k2 := 17 + 10 * 0) (n2 := 436 + 359 * 0) (by decide) (by decide) ?_
  exact loop1 40 0 ad71 g79 rfl hadf hgf h82 hp98 hp99 hg115 hg114 ⟨_, hg108, fun k hk => absurd hk (Nat.not_lt_zero k)⟩ (fun k hk => absurd hk (Nat.not_lt_zero k))
end
section
-- 09.words.lean.txt
-- words of rec
theorem n_285 : (Jvm.Cond.methodLinkNest "SnowRecorder" (63 : Nat) ({ cls := "SnowRecorder$Guesses", name := "<init>", desc := "()V" } : Jvm.MethodName) "SnowRecorder") ∈ NW := NW_m2 45 (by decide +kernel) (by decide +kernel)
theorem n_309 : (Jvm.Cond.methodLinkNest "SnowRecorder" (70 : Nat) ({ cls := "SnowRecorder$Likeness", name := "<init>", desc := "()V" } : Jvm.MethodName) "SnowRecorder") ∈ NW := NW_m2 69 (by decide +kernel) (by decide +kernel)
theorem n_39 : (Jvm.Cond.methodLinkNest "SnowRecorder" (22 : Nat) ({ cls := "SnowRecorder$TextReader", name := "<init>", desc := "()V" } : Jvm.MethodName) "SnowRecorder") ∈ NW := NW_m1 39 (by decide +kernel) (by decide +kernel)
theorem n_75 : (Jvm.Cond.methodLinkNest "SnowRecorder" (29 : Nat) ({ cls := "SnowRecorder$Plan", name := "<init>", desc := "()V" } : Jvm.MethodName) "SnowRecorder") ∈ NW := NW_m1 75 (by decide +kernel) (by decide +kernel)
theorem q_10 : (Jvm.Cond.initialized "SnowRecorder$Likeness") ∈ AW := AW_m1 10 (by decide +kernel) (by decide +kernel)
theorem q_12 : (Jvm.Cond.initialized "java/lang/StringBuilder") ∈ AW := AW_m1 12 (by decide +kernel) (by decide +kernel)
theorem q_135 : (Jvm.Cond.classLink "SnowRecorder" (34 : Nat) "SnowRecorder$State") ∈ AW := AW_m1 135 (by decide +kernel) (by decide +kernel)
theorem q_136 : (Jvm.Cond.instantiable "SnowRecorder$State" (6 : Nat)) ∈ AW := AW_m1 136 (by decide +kernel) (by decide +kernel)
theorem q_137 : (Jvm.Cond.methodLink "SnowRecorder" (36 : Nat) ({ cls := "SnowRecorder$State", name := "<init>", desc := "()V" } : Jvm.MethodName)) ∈ AW := AW_m1 137 (by decide +kernel) (by decide +kernel)
theorem q_138 : (Jvm.Cond.instanceMethod ({ cls := "SnowRecorder$State", name := "<init>", desc := "()V" } : Jvm.MethodName)) ∈ AW := AW_m1 138 (by decide +kernel) (by decide +kernel)
theorem q_139 : (Jvm.Cond.code ({ cls := "SnowRecorder$State", name := "<init>", desc := "()V" } : Jvm.MethodName) prog_8_method_1_code (2 : Nat) (Option.none : Option Jvm.ClassFile.FieldType)) ∈ AW := AW_m1 139 (by decide +kernel) (by decide +kernel)
theorem q_2 : (Jvm.Cond.initialized "SnowRecorder$TextReader") ∈ AW := AW_m1 2 (by decide +kernel) (by decide +kernel)
theorem q_281 : (Jvm.Cond.classLink "SnowRecorder" (51 : Nat) "SnowRecorder$World") ∈ AW := AW_m2 41 (by decide +kernel) (by decide +kernel)
theorem q_282 : (Jvm.Cond.methodLink "SnowRecorder" (53 : Nat) ({ cls := "SnowRecorder$World", name := "<init>", desc := "()V" } : Jvm.MethodName)) ∈ AW := AW_m2 42 (by decide +kernel) (by decide +kernel)
theorem q_283 : (Jvm.Cond.classLink "SnowRecorder" (61 : Nat) "SnowRecorder$Guesses") ∈ AW := AW_m2 43 (by decide +kernel) (by decide +kernel)
theorem q_284 : (Jvm.Cond.instantiable "SnowRecorder$Guesses" (4 : Nat)) ∈ AW := AW_m2 44 (by decide +kernel) (by decide +kernel)
theorem q_286 : (Jvm.Cond.instanceMethod ({ cls := "SnowRecorder$Guesses", name := "<init>", desc := "()V" } : Jvm.MethodName)) ∈ AW := AW_m2 46 (by decide +kernel) (by decide +kernel)
theorem q_287 : (Jvm.Cond.code ({ cls := "SnowRecorder$Guesses", name := "<init>", desc := "()V" } : Jvm.MethodName) prog_2_method_1_code (1 : Nat) (Option.none : Option Jvm.ClassFile.FieldType)) ∈ AW := AW_m2 47 (by decide +kernel) (by decide +kernel)
theorem q_3 : (Jvm.Cond.initialized "SnowRecorder$Plan") ∈ AW := AW_m1 3 (by decide +kernel) (by decide +kernel)
theorem q_307 : (Jvm.Cond.classLink "SnowRecorder" (68 : Nat) "SnowRecorder$Likeness") ∈ AW := AW_m2 67 (by decide +kernel) (by decide +kernel)
theorem q_308 : (Jvm.Cond.instantiable "SnowRecorder$Likeness" (1 : Nat)) ∈ AW := AW_m2 68 (by decide +kernel) (by decide +kernel)
theorem q_310 : (Jvm.Cond.instanceMethod ({ cls := "SnowRecorder$Likeness", name := "<init>", desc := "()V" } : Jvm.MethodName)) ∈ AW := AW_m2 70 (by decide +kernel) (by decide +kernel)
theorem q_311 : (Jvm.Cond.code ({ cls := "SnowRecorder$Likeness", name := "<init>", desc := "()V" } : Jvm.MethodName) prog_3_method_1_code (1 : Nat) (Option.none : Option Jvm.ClassFile.FieldType)) ∈ AW := AW_m2 71 (by decide +kernel) (by decide +kernel)
theorem q_317 : (Jvm.Cond.classLink "SnowRecorder" (75 : Nat) "java/lang/StringBuilder") ∈ AW := AW_m2 77 (by decide +kernel) (by decide +kernel)
theorem q_318 : (Jvm.Cond.instantiable "java/lang/StringBuilder" (4 : Nat)) ∈ AW := AW_m2 78 (by decide +kernel) (by decide +kernel)
theorem q_319 : (Jvm.Cond.methodLink "SnowRecorder" (77 : Nat) ({ cls := "java/lang/StringBuilder", name := "<init>", desc := "()V" } : Jvm.MethodName)) ∈ AW := AW_m2 79 (by decide +kernel) (by decide +kernel)
theorem q_320 : (Jvm.Cond.instanceMethod ({ cls := "java/lang/StringBuilder", name := "<init>", desc := "()V" } : Jvm.MethodName)) ∈ AW := AW_m2 80 (by decide +kernel) (by decide +kernel)
theorem q_321 : (Jvm.Cond.code ({ cls := "java/lang/StringBuilder", name := "<init>", desc := "()V" } : Jvm.MethodName) prog_26_method_1_code (1 : Nat) (Option.none : Option Jvm.ClassFile.FieldType)) ∈ AW := AW_m2 81 (by decide +kernel) (by decide +kernel)
theorem q_34 : (Jvm.Cond.methodLink "SnowRecorder" (3 : Nat) ({ cls := "java/lang/Object", name := "<init>", desc := "()V" } : Jvm.MethodName)) ∈ AW := AW_m1 34 (by decide +kernel) (by decide +kernel)
theorem q_349 : (Jvm.Cond.fieldLink "SnowRecorder" (9 : Nat) "SnowRecorder" "tape" "[B") ∈ AW := AW_m2 109 (by decide +kernel) (by decide +kernel)
theorem q_350 : (Jvm.Cond.fieldLink "SnowRecorder" (13 : Nat) "SnowRecorder" "tapeSize" "I") ∈ AW := AW_m2 110 (by decide +kernel) (by decide +kernel)
theorem q_351 : (Jvm.Cond.fieldLink "SnowRecorder" (17 : Nat) "SnowRecorder" "faultPlace" "I") ∈ AW := AW_m2 111 (by decide +kernel) (by decide +kernel)
theorem q_352 : (Jvm.Cond.fieldLink "SnowRecorder" (23 : Nat) "SnowRecorder" "reader" "LSnowRecorder$TextReader;") ∈ AW := AW_m2 112 (by decide +kernel) (by decide +kernel)
theorem q_353 : (Jvm.Cond.fieldLink "SnowRecorder" (30 : Nat) "SnowRecorder" "plan" "LSnowRecorder$Plan;") ∈ AW := AW_m2 113 (by decide +kernel) (by decide +kernel)
theorem q_354 : (Jvm.Cond.fieldLink "SnowRecorder" (37 : Nat) "SnowRecorder" "state" "LSnowRecorder$State;") ∈ AW := AW_m2 114 (by decide +kernel) (by decide +kernel)
theorem q_355 : (Jvm.Cond.fieldLink "SnowRecorder" (41 : Nat) "SnowRecorder" "kept" "LSnowRecorder$State;") ∈ AW := AW_m2 115 (by decide +kernel) (by decide +kernel)
theorem q_356 : (Jvm.Cond.fieldLink "SnowRecorder" (44 : Nat) "SnowRecorder" "imaged" "Z") ∈ AW := AW_m2 116 (by decide +kernel) (by decide +kernel)
theorem q_357 : (Jvm.Cond.fieldLink "SnowRecorder" (48 : Nat) "SnowRecorder" "otherPlan" "LSnowRecorder$Plan;") ∈ AW := AW_m2 117 (by decide +kernel) (by decide +kernel)
theorem q_358 : (Jvm.Cond.fieldLink "SnowRecorder" (54 : Nat) "SnowRecorder" "trial" "LSnowRecorder$World;") ∈ AW := AW_m2 118 (by decide +kernel) (by decide +kernel)
theorem q_359 : (Jvm.Cond.fieldLink "SnowRecorder" (58 : Nat) "SnowRecorder" "lead" "LSnowRecorder$World;") ∈ AW := AW_m2 119 (by decide +kernel) (by decide +kernel)
theorem q_360 : (Jvm.Cond.fieldLink "SnowRecorder" (64 : Nat) "SnowRecorder" "guesses" "LSnowRecorder$Guesses;") ∈ AW := AW_m2 120 (by decide +kernel) (by decide +kernel)
theorem q_361 : (Jvm.Cond.fieldLink "SnowRecorder" (71 : Nat) "SnowRecorder" "likeness" "LSnowRecorder$Likeness;") ∈ AW := AW_m2 121 (by decide +kernel) (by decide +kernel)
theorem q_362 : (Jvm.Cond.fieldLink "SnowRecorder" (78 : Nat) "SnowRecorder" "line" "Ljava/lang/StringBuilder;") ∈ AW := AW_m2 122 (by decide +kernel) (by decide +kernel)
theorem q_363 : (Jvm.Cond.laysFinal "SnowRecorder" "SnowRecorder" "tape" "[B") ∈ AW := AW_m2 123 (by decide +kernel) (by decide +kernel)
theorem q_365 : (Jvm.Cond.lays "SnowRecorder" "SnowRecorder" "tapeSize" "I") ∈ AW := AW_m2 125 (by decide +kernel) (by decide +kernel)
theorem q_367 : (Jvm.Cond.lays "SnowRecorder" "SnowRecorder" "faultPlace" "I") ∈ AW := AW_m2 127 (by decide +kernel) (by decide +kernel)
theorem q_369 : (Jvm.Cond.laysFinal "SnowRecorder" "SnowRecorder" "reader" "LSnowRecorder$TextReader;") ∈ AW := AW_m2 129 (by decide +kernel) (by decide +kernel)
theorem q_37 : (Jvm.Cond.classLink "SnowRecorder" (20 : Nat) "SnowRecorder$TextReader") ∈ AW := AW_m1 37 (by decide +kernel) (by decide +kernel)
theorem q_371 : (Jvm.Cond.laysFinal "SnowRecorder" "SnowRecorder" "plan" "LSnowRecorder$Plan;") ∈ AW := AW_m2 131 (by decide +kernel) (by decide +kernel)
theorem q_373 : (Jvm.Cond.laysFinal "SnowRecorder" "SnowRecorder" "state" "LSnowRecorder$State;") ∈ AW := AW_m2 133 (by decide +kernel) (by decide +kernel)
theorem q_375 : (Jvm.Cond.laysFinal "SnowRecorder" "SnowRecorder" "kept" "LSnowRecorder$State;") ∈ AW := AW_m2 135 (by decide +kernel) (by decide +kernel)
theorem q_377 : (Jvm.Cond.lays "SnowRecorder" "SnowRecorder" "imaged" "Z") ∈ AW := AW_m2 137 (by decide +kernel) (by decide +kernel)
theorem q_379 : (Jvm.Cond.laysFinal "SnowRecorder" "SnowRecorder" "otherPlan" "LSnowRecorder$Plan;") ∈ AW := AW_m2 139 (by decide +kernel) (by decide +kernel)
theorem q_38 : (Jvm.Cond.instantiable "SnowRecorder$TextReader" (9 : Nat)) ∈ AW := AW_m1 38 (by decide +kernel) (by decide +kernel)
theorem q_381 : (Jvm.Cond.laysFinal "SnowRecorder" "SnowRecorder" "trial" "LSnowRecorder$World;") ∈ AW := AW_m2 141 (by decide +kernel) (by decide +kernel)
theorem q_383 : (Jvm.Cond.laysFinal "SnowRecorder" "SnowRecorder" "lead" "LSnowRecorder$World;") ∈ AW := AW_m2 143 (by decide +kernel) (by decide +kernel)
theorem q_385 : (Jvm.Cond.laysFinal "SnowRecorder" "SnowRecorder" "guesses" "LSnowRecorder$Guesses;") ∈ AW := AW_m2 145 (by decide +kernel) (by decide +kernel)
theorem q_387 : (Jvm.Cond.laysFinal "SnowRecorder" "SnowRecorder" "likeness" "LSnowRecorder$Likeness;") ∈ AW := AW_m2 147 (by decide +kernel) (by decide +kernel)
theorem q_389 : (Jvm.Cond.laysFinal "SnowRecorder" "SnowRecorder" "line" "Ljava/lang/StringBuilder;") ∈ AW := AW_m2 149 (by decide +kernel) (by decide +kernel)
theorem q_4 : (Jvm.Cond.initialized "SnowRecorder$State") ∈ AW := AW_m1 4 (by decide +kernel) (by decide +kernel)
theorem q_40 : (Jvm.Cond.instanceMethod ({ cls := "SnowRecorder$TextReader", name := "<init>", desc := "()V" } : Jvm.MethodName)) ∈ AW := AW_m1 40 (by decide +kernel) (by decide +kernel)
theorem q_41 : (Jvm.Cond.code ({ cls := "SnowRecorder$TextReader", name := "<init>", desc := "()V" } : Jvm.MethodName) prog_9_method_1_code (1 : Nat) (Option.none : Option Jvm.ClassFile.FieldType)) ∈ AW := AW_m1 41 (by decide +kernel) (by decide +kernel)
theorem q_73 : (Jvm.Cond.classLink "SnowRecorder" (27 : Nat) "SnowRecorder$Plan") ∈ AW := AW_m1 73 (by decide +kernel) (by decide +kernel)
theorem q_74 : (Jvm.Cond.instantiable "SnowRecorder$Plan" (9 : Nat)) ∈ AW := AW_m1 74 (by decide +kernel) (by decide +kernel)
theorem q_76 : (Jvm.Cond.instanceMethod ({ cls := "SnowRecorder$Plan", name := "<init>", desc := "()V" } : Jvm.MethodName)) ∈ AW := AW_m1 76 (by decide +kernel) (by decide +kernel)
theorem q_77 : (Jvm.Cond.code ({ cls := "SnowRecorder$Plan", name := "<init>", desc := "()V" } : Jvm.MethodName) prog_7_method_1_code (1 : Nat) (Option.none : Option Jvm.ClassFile.FieldType)) ∈ AW := AW_m1 77 (by decide +kernel) (by decide +kernel)
theorem q_9 : (Jvm.Cond.initialized "SnowRecorder$Guesses") ∈ AW := AW_m1 9 (by decide +kernel) (by decide +kernel)
theorem mi_yX7_init : zWi yX7_init cX7_init 1 := ⟨q_40, q_2, q_41⟩
theorem mi_yX5_init : zWi yX5_init cX5_init 1 := ⟨q_76, q_3, q_77⟩
theorem mi_yX6_init : zWi yX6_init cX6_init 2 := ⟨q_138, q_4, q_139⟩
theorem mi_yX0_init : zWi yX0_init cX0_init 1 := ⟨q_286, q_9, q_287⟩
theorem mi_yX1_init : zWi yX1_init cX1_init 1 := ⟨q_310, q_10, q_311⟩
theorem mi_yJ4_init_da8c8 : zWi yJ4_init_da8c8 cJ4_init_da8c8 1 := ⟨q_320, q_12, q_321⟩
theorem inA_X9 : ∀ w ∈ u_ws RX9 TX9 14, w ∈ AW := show ∀ w ∈ ([Cond.laysFinal "SnowRecorder" "SnowRecorder" "tape" "[B", Cond.lays "SnowRecorder" "SnowRecorder" "tapeSize" "I", Cond.lays "SnowRecorder" "SnowRecorder" "faultPlace" "I", Cond.laysFinal "SnowRecorder" "SnowRecorder" "reader" "LSnowRecorder$TextReader;", Cond.laysFinal "SnowRecorder" "SnowRecorder" "plan" "LSnowRecorder$Plan;", Cond.laysFinal "SnowRecorder" "SnowRecorder" "state" "LSnowRecorder$State;", Cond.laysFinal "SnowRecorder" "SnowRecorder" "kept" "LSnowRecorder$State;", Cond.lays "SnowRecorder" "SnowRecorder" "imaged" "Z", Cond.laysFinal "SnowRecorder" "SnowRecorder" "otherPlan" "LSnowRecorder$Plan;", Cond.laysFinal "SnowRecorder" "SnowRecorder" "trial" "LSnowRecorder$World;", Cond.laysFinal "SnowRecorder" "SnowRecorder" "lead" "LSnowRecorder$World;", Cond.laysFinal "SnowRecorder" "SnowRecorder" "guesses" "LSnowRecorder$Guesses;", Cond.laysFinal "SnowRecorder" "SnowRecorder" "likeness" "LSnowRecorder$Likeness;", Cond.laysFinal "SnowRecorder" "SnowRecorder" "line" "Ljava/lang/StringBuilder;"] : List Cond), w ∈ AW from List.forall_mem_cons.mpr ⟨q_363, List.forall_mem_cons.mpr ⟨q_365, List.forall_mem_cons.mpr ⟨q_367, List.forall_mem_cons.mpr ⟨q_369, List.forall_mem_cons.mpr ⟨q_371, List.forall_mem_cons.mpr ⟨q_373, List.forall_mem_cons.mpr ⟨q_375, List.forall_mem_cons.mpr ⟨q_377, List.forall_mem_cons.mpr ⟨q_379, List.forall_mem_cons.mpr ⟨q_381, List.forall_mem_cons.mpr ⟨q_383, List.forall_mem_cons.mpr ⟨q_385, List.forall_mem_cons.mpr ⟨q_387, List.forall_mem_cons.mpr ⟨q_389, fun _ h => absurd h List.not_mem_nil⟩⟩⟩⟩⟩⟩⟩⟩⟩⟩⟩⟩⟩⟩
end
section
-- 10.dec.lean.txt
-- decode rows of rec
theorem dX9_init_0 : decode cX9_init 0 = .ok (.aload_n 0, 1) := by decide +kernel
theorem dX9_init_1 : decode cX9_init 1 = .ok (.invokespecial 3, 3) := by decide +kernel
theorem dX9_init_4 : decode cX9_init 4 = .ok (.aload_n 0, 1) := by decide +kernel
theorem dX9_init_5 : decode cX9_init 5 = .ok (.sipush 900, 3) := by decide +kernel
theorem dX9_init_8 : decode cX9_init 8 = .ok (.newarray .byte, 2) := by decide +kernel
theorem dX9_init_10 : decode cX9_init 10 = .ok (.putfield 9, 3) := by decide +kernel
theorem dX9_init_13 : decode cX9_init 13 = .ok (.aload_n 0, 1) := by decide +kernel
theorem dX9_init_14 : decode cX9_init 14 = .ok (.iconst 0, 1) := by decide +kernel
theorem dX9_init_15 : decode cX9_init 15 = .ok (.putfield 13, 3) := by decide +kernel
theorem dX9_init_18 : decode cX9_init 18 = .ok (.aload_n 0, 1) := by decide +kernel
theorem dX9_init_19 : decode cX9_init 19 = .ok (.iconst (-1), 1) := by decide +kernel
theorem dX9_init_20 : decode cX9_init 20 = .ok (.putfield 17, 3) := by decide +kernel
theorem dX9_init_23 : decode cX9_init 23 = .ok (.aload_n 0, 1) := by decide +kernel
theorem dX9_init_24 : decode cX9_init 24 = .ok (.new 20, 3) := by decide +kernel
theorem dX9_init_27 : decode cX9_init 27 = .ok (.dup, 1) := by decide +kernel
theorem dX9_init_28 : decode cX9_init 28 = .ok (.invokespecial 22, 3) := by decide +kernel
theorem dX9_init_31 : decode cX9_init 31 = .ok (.putfield 23, 3) := by decide +kernel
theorem dX9_init_34 : decode cX9_init 34 = .ok (.aload_n 0, 1) := by decide +kernel
theorem dX9_init_35 : decode cX9_init 35 = .ok (.new 27, 3) := by decide +kernel
theorem dX9_init_38 : decode cX9_init 38 = .ok (.dup, 1) := by decide +kernel
theorem dX9_init_39 : decode cX9_init 39 = .ok (.invokespecial 29, 3) := by decide +kernel
theorem dX9_init_42 : decode cX9_init 42 = .ok (.putfield 30, 3) := by decide +kernel
theorem dX9_init_45 : decode cX9_init 45 = .ok (.aload_n 0, 1) := by decide +kernel
theorem dX9_init_46 : decode cX9_init 46 = .ok (.new 34, 3) := by decide +kernel
theorem dX9_init_49 : decode cX9_init 49 = .ok (.dup, 1) := by decide +kernel
theorem dX9_init_50 : decode cX9_init 50 = .ok (.invokespecial 36, 3) := by decide +kernel
theorem dX9_init_53 : decode cX9_init 53 = .ok (.putfield 37, 3) := by decide +kernel
theorem dX9_init_56 : decode cX9_init 56 = .ok (.aload_n 0, 1) := by decide +kernel
theorem dX9_init_57 : decode cX9_init 57 = .ok (.new 34, 3) := by decide +kernel
theorem dX9_init_60 : decode cX9_init 60 = .ok (.dup, 1) := by decide +kernel
theorem dX9_init_61 : decode cX9_init 61 = .ok (.invokespecial 36, 3) := by decide +kernel
theorem dX9_init_64 : decode cX9_init 64 = .ok (.putfield 41, 3) := by decide +kernel
theorem dX9_init_67 : decode cX9_init 67 = .ok (.aload_n 0, 1) := by decide +kernel
theorem dX9_init_68 : decode cX9_init 68 = .ok (.iconst 0, 1) := by decide +kernel
theorem dX9_init_69 : decode cX9_init 69 = .ok (.putfield 44, 3) := by decide +kernel
theorem dX9_init_72 : decode cX9_init 72 = .ok (.aload_n 0, 1) := by decide +kernel
theorem dX9_init_73 : decode cX9_init 73 = .ok (.new 27, 3) := by decide +kernel
theorem dX9_init_76 : decode cX9_init 76 = .ok (.dup, 1) := by decide +kernel
theorem dX9_init_77 : decode cX9_init 77 = .ok (.invokespecial 29, 3) := by decide +kernel
theorem dX9_init_80 : decode cX9_init 80 = .ok (.putfield 48, 3) := by decide +kernel
theorem dX9_init_83 : decode cX9_init 83 = .ok (.aload_n 0, 1) := by decide +kernel
theorem dX9_init_84 : decode cX9_init 84 = .ok (.new 51, 3) := by decide +kernel
theorem dX9_init_87 : decode cX9_init 87 = .ok (.dup, 1) := by decide +kernel
theorem dX9_init_88 : decode cX9_init 88 = .ok (.invokespecial 53, 3) := by decide +kernel
theorem dX9_init_91 : decode cX9_init 91 = .ok (.putfield 54, 3) := by decide +kernel
theorem dX9_init_94 : decode cX9_init 94 = .ok (.aload_n 0, 1) := by decide +kernel
theorem dX9_init_95 : decode cX9_init 95 = .ok (.new 51, 3) := by decide +kernel
theorem dX9_init_98 : decode cX9_init 98 = .ok (.dup, 1) := by decide +kernel
theorem dX9_init_99 : decode cX9_init 99 = .ok (.invokespecial 53, 3) := by decide +kernel
theorem dX9_init_102 : decode cX9_init 102 = .ok (.putfield 58, 3) := by decide +kernel
theorem dX9_init_105 : decode cX9_init 105 = .ok (.aload_n 0, 1) := by decide +kernel
theorem dX9_init_106 : decode cX9_init 106 = .ok (.new 61, 3) := by decide +kernel
theorem dX9_init_109 : decode cX9_init 109 = .ok (.dup, 1) := by decide +kernel
theorem dX9_init_110 : decode cX9_init 110 = .ok (.invokespecial 63, 3) := by decide +kernel
theorem dX9_init_113 : decode cX9_init 113 = .ok (.putfield 64, 3) := by decide +kernel
theorem dX9_init_116 : decode cX9_init 116 = .ok (.aload_n 0, 1) := by decide +kernel
theorem dX9_init_117 : decode cX9_init 117 = .ok (.new 68, 3) := by decide +kernel
theorem dX9_init_120 : decode cX9_init 120 = .ok (.dup, 1) := by decide +kernel
theorem dX9_init_121 : decode cX9_init 121 = .ok (.invokespecial 70, 3) := by decide +kernel
theorem dX9_init_124 : decode cX9_init 124 = .ok (.putfield 71, 3) := by decide +kernel
theorem dX9_init_127 : decode cX9_init 127 = .ok (.aload_n 0, 1) := by decide +kernel
theorem dX9_init_128 : decode cX9_init 128 = .ok (.new 75, 3) := by decide +kernel
theorem dX9_init_131 : decode cX9_init 131 = .ok (.dup, 1) := by decide +kernel
theorem dX9_init_132 : decode cX9_init 132 = .ok (.invokespecial 77, 3) := by decide +kernel
theorem dX9_init_135 : decode cX9_init 135 = .ok (.putfield 78, 3) := by decide +kernel
theorem dX9_init_138 : decode cX9_init 138 = .ok (.return_, 1) := by decide +kernel
end
section
-- 11.rec.lean.txt
def isRec (cs : Nat → ClassId) (ad : Nat → Nat) (g : Nat → va_E) (i : Nat) : Prop := g i = oC 11 [.ref (ad (i + 1)), .int (zI 0), .int (zI (-1)), .ref (ad (i + 2)), .ref (ad (i + 4)), .ref (ad (i + 11)), .ref (ad (i + 447)), .int (zI 0), .ref (ad (i + 883)), .ref (ad (i + 890)), .ref (ad (i + 900)), .ref (ad (i + 910)), .ref (ad (i + 917)), .ref (ad (i + 919))] ∧ g (i + 1) = bA cs 900 (fun _ => 0) ∧ isRdr cs ad g (i + 2) ∧ isPlan cs ad g (i + 4) 0 0 0 (fun _ => 0) (fun _ => 0) (fun _ => 0) (fun _ => 0) (fun _ => 0) tabZ ∧ isSt cs ad g (i + 11) ∧ isSt cs ad g (i + 447) ∧ isPlan cs ad g (i + 883) 0 0 0 (fun _ => 0) (fun _ => 0) (fun _ => 0) (fun _ => 0) (fun _ => 0) tabZ ∧ isWorld cs ad g (i + 890) (fun _ => 0) (fun _ => 0) (fun _ => 0) (fun _ _ => 0) ∧ isWorld cs ad g (i + 900) (fun _ => 0) (fun _ => 0) (fun _ => 0) (fun _ _ => 0) ∧ isGss cs ad g (i + 910) 0 (-1) (fun _ => 0) (fun _ _ => 0) ∧ isLike cs ad g (i + 917) (fun _ => 0) ∧ isBld cs ad g (i + 919)
theorem isRec.mv {cs : Nat → ClassId} {ad ad' : Nat → Nat} {g g' : Nat → va_E} {i : Nat} (hA : ∀ j, i ≤ j → j < i + 921 → ad' j = ad j) (hG : ∀ j, i ≤ j → j < i + 921 → g' j = g j) (h : isRec cs ad g i) : isRec cs ad' g' i := by
  obtain ⟨h1, h2, h3, h4, h5, h6, h7, h8, h9, h10, h11, h12⟩ := h
  exact ⟨by rw [hG _ (by omega) (by omega), hA _ (by omega) (by omega), hA _ (by omega) (by omega), hA _ (by omega) (by omega), hA _ (by omega) (by omega), hA _ (by omega) (by omega), hA _ (by omega) (by omega), hA _ (by omega) (by omega), hA _ (by omega) (by omega), hA _ (by omega) (by omega), hA _ (by omega) (by omega), hA _ (by omega) (by omega)]; exact h1, by rw [hG _ (by omega) (by omega)]; exact h2, h3.mv (fun j _ _ => hA j (by omega) (by omega)) (fun j _ _ => hG j (by omega) (by omega)), h4.mv (fun j _ _ => hA j (by omega) (by omega)) (fun j _ _ => hG j (by omega) (by omega)), h5.mv (fun j _ _ => hA j (by omega) (by omega)) (fun j _ _ => hG j (by omega) (by omega)), h6.mv (fun j _ _ => hA j (by omega) (by omega)) (fun j _ _ => hG j (by omega) (by omega)), h7.mv (fun j _ _ => hA j (by omega) (by omega)) (fun j _ _ => hG j (by omega) (by omega)), h8.mv (fun j _ _ => hA j (by omega) (by omega)) (fun j _ _ => hG j (by omega) (by omega)), h9.mv (fun j _ _ => hA j (by omega) (by omega)) (fun j _ _ => hG j (by omega) (by omega)), h10.mv (fun j _ _ => hA j (by omega) (by omega)) (fun j _ _ => hG j (by omega) (by omega)), h11.mv (fun j _ _ => hA j (by omega) (by omega)) (fun j _ _ => hG j (by omega) (by omega)), h12.mv (fun j _ _ => hA j (by omega) (by omega)) (fun j _ _ => hG j (by omega) (by omega))⟩

set_option maxRecDepth 100000 in
set_option maxHeartbeats 4000000 in
theorem c_X9_init (l : Launch) (D : va_G) (A : Nat → Prop) (cs : Nat → ClassId) (tt : Nat) (ad : Nat → Nat) (g : Nat → va_E) (i a : Nat) (ha : ad i = a) (hg : g i = oC 11 [.null, .int (zI (0)), .int (zI (0)), .null, .null, .null, .null, .int (zI (0)), .null, .null, .null, .null, .null, .null]) : zM l yX9_init cX9_init 1 none ({ frames := 4, cells := 920, slots := 37365, locals := 240 } : Room) D A cs tt (i + 1) ad g [.ref a] (rV fun N' ad' g' => N' = i + 921 ∧ (∀ j, j < i + 1 → ad' j = ad j) ∧ (∀ j, j < i + 1 → j ≠ i → g' j = g j) ∧ isRec cs ad' g' i) := by
  refine z_of (by decide) (Nat.le_of_ble_eq_true rfl) ?_
  intro p e s m below meth c C hr hlk hnm
  refine z_lv (lv' := [(0, .ref a)]) [0] rfl ?_
  refine z_aload_n C 0 dX9_init_0 rfl ?_
  refine z_objInit C q_34 q_35 q_36 dX9_init_1 (Nat.le_of_ble_eq_true rfl) (Nat.le_of_ble_eq_true rfl) ?_
  refine z_aload_n C 0 dX9_init_4 rfl ?_
  refine z_sipush (z := 900) C dX9_init_5 (by decide) ?_
  refine z_newB C 900 rfl q_72 (by decide) (by decide) (by decide) dX9_init_8 (fun q1 ad2 g3 ea4 eg5 => ?_)
  have ha6 : zAt ad2 (i + 1) q1 := up_s ea4
  have hg7 := up_s eg5
  have ha8 : zAt ad2 (i) (a) := up_n ea4 ha (ne_o (i := i) (c := 0) (d := 1) rfl)
  have hg9 := up_n eg5 hg (ne_o (i := i) (c := 0) (d := 1) rfl)
  refine z_putF (fs' := [.ref q1, .int (zI (0)), .int (zI (0)), .null, .null, .null, .null, .int (zI (0)), .null, .null, .null, .null, .null, .null]) C (lt_o (i := i) (c := 0) (d := 2) rfl) ha8 hg9 tyX9 tyX9_ok nmX9 rfl inA_X9 0 (by decide) q_349 rfl rfl hnm rfl rfl rfl (Nat.le_of_ble_eq_true rfl) rfl dX9_init_10 (fun g10 eg11 => ?_)
  have hg12 := up_s eg11
  refine z_aload_n C 0 dX9_init_13 rfl ?_
  refine z_iconst (z := 0) C dX9_init_14 rfl ?_
  refine z_put (fs' := [.ref q1, .int (zI (0)), .int (zI (0)), .null, .null, .null, .null, .int (zI (0)), .null, .null, .null, .null, .null, .null]) C (lt_o (i := i) (c := 0) (d := 2) rfl) ha8 hg12 tyX9 tyX9_ok nmX9 rfl inA_X9 1 (by decide) q_350 rfl rfl rfl rfl (Nat.le_of_ble_eq_true rfl) rfl dX9_init_15 (fun g13 eg14 => ?_)
  have hg15 := up_s eg14
  refine z_aload_n C 0 dX9_init_18 rfl ?_
  refine z_iconst (z := -1) C dX9_init_19 rfl ?_
  refine z_put (fs' := [.ref q1, .int (zI (0)), .int (zI (-1)), .null, .null, .null, .null, .int (zI (0)), .null, .null, .null, .null, .null, .null]) C (lt_o (i := i) (c := 0) (d := 2) rfl) ha8 hg15 tyX9 tyX9_ok nmX9 rfl inA_X9 2 (by decide) q_351 rfl rfl rfl rfl (Nat.le_of_ble_eq_true rfl) rfl dX9_init_20 (fun g16 eg17 => ?_)
  have hg18 := up_s eg17
  refine z_aload_n C 0 dX9_init_23 rfl ?_
  refine z_new (fs := [.int (zI (0)), .int (zI (0)), .null, .int (zI (0)), .int (zI (0)), .int (zI (0)), .int (zI (0)), .int (zI (0)), .int (zI (0))]) (ci := 9) C tyX7 tyX7_ok rfl inA_X7 q_37 q_38 q_2 (fun j hj => by rcases (show j = 0 ∨ j = 1 ∨ j = 2 ∨ j = 3 ∨ j = 4 ∨ j = 5 ∨ j = 6 ∨ j = 7 ∨ j = 8 by omega) with rfl | rfl | rfl | rfl | rfl | rfl | rfl | rfl | rfl <;> rfl) (by decide) (by decide) dX9_init_24 (fun q19 ad20 g21 ea22 eg23 => ?_)
  have ha24 : zAt ad20 (i + 1 + 1) q19 := up_s ea22
  have hg25 := up_s eg23
  refine z_dup C dX9_init_27 rfl ?_
  refine z_cIN (As := []) (rest := [.ref q19, .ref a]) C (c_X7_init l D A cs tt _ _ (i + 1 + 1) q19 ha24 hg25) mi_yX7_init n_39 rfl (by decide +kernel) (by decide) (Nat.le_of_ble_eq_true rfl) (by decide) dX9_init_28 rfl (kV fun M29 ad30 g31 hq32 => ?_)
  obtain ⟨rfl, hA26, hG27, hp28⟩ := hq32
  have e0o : i + 1 + 1 = i + 2 := by omega
  have ha33 : zAt ad20 (i) (a) := up_n ea22 ha8 (ne_o (i := i) (c := 0) (d := 2) rfl)
  have ha34 : zAt ad30 (i) (a) := (hA26 (i) (lt_o (i := i) (c := 0) (d := 3) rfl)).trans ha33
  have hg35 := up_n eg23 hg18 (ne_o (i := i) (c := 0) (d := 2) rfl)
  have hg36 := (hG27 (i) (lt_o (i := i) (c := 0) (d := 3) rfl) (ne_o (i := i) (c := 0) (d := 2) rfl)).trans hg35
  refine z_putF (fs' := [.ref q1, .int (zI (0)), .int (zI (-1)), .ref q19, .null, .null, .null, .int (zI (0)), .null, .null, .null, .null, .null, .null]) C (lt_o (i := i) (c := 0) (d := 4) rfl) ha34 hg36 tyX9 tyX9_ok nmX9 rfl inA_X9 3 (by decide) q_352 rfl rfl hnm rfl rfl rfl (Nat.le_of_ble_eq_true rfl) rfl dX9_init_31 (fun g37 eg38 => ?_)
  have hg39 := up_s eg38
  refine z_aload_n C 0 dX9_init_34 rfl ?_
  refine z_new (fs := [.int (zI (0)), .int (zI (0)), .int (zI (0)), .null, .null, .null, .null, .null, .null]) (ci := 7) C tyX5 tyX5_ok rfl inA_X5 q_73 q_74 q_3 (fun j hj => by rcases (show j = 0 ∨ j = 1 ∨ j = 2 ∨ j = 3 ∨ j = 4 ∨ j = 5 ∨ j = 6 ∨ j = 7 ∨ j = 8 by omega) with rfl | rfl | rfl | rfl | rfl | rfl | rfl | rfl | rfl <;> rfl) (by decide) (by decide) dX9_init_35 (fun q40 ad41 g42 ea43 eg44 => ?_)
  have ha45 : zAt ad41 (i + 1 + 1 + 2) q40 := up_s ea43
  have hg46 := up_s eg44
  refine z_dup C dX9_init_38 rfl ?_
  refine z_cIN (As := []) (rest := [.ref q40, .ref a]) C (c_X5_init l D A cs tt _ _ (i + 1 + 1 + 2) q40 ha45 hg46) mi_yX5_init n_75 rfl (by decide +kernel) (by decide) (Nat.le_of_ble_eq_true rfl) (by decide) dX9_init_39 rfl (kV fun M50 ad51 g52 hq53 => ?_)
  obtain ⟨rfl, hA47, hG48, hp49⟩ := hq53
  have e1o : i + 1 + 1 + 2 = i + 4 := by omega
  have ha54 : zAt ad41 (i) (a) := up_n ea43 ha34 (ne_o (i := i) (c := 0) (d := 4) rfl)
  have ha55 : zAt ad51 (i) (a) := (hA47 (i) (lt_o (i := i) (c := 0) (d := 5) rfl)).trans ha54
  have hg56 := up_n eg44 hg39 (ne_o (i := i) (c := 0) (d := 4) rfl)
  have hg57 := (hG48 (i) (lt_o (i := i) (c := 0) (d := 5) rfl) (ne_o (i := i) (c := 0) (d := 4) rfl)).trans hg56
  refine z_putF (fs' := [.ref q1, .int (zI (0)), .int (zI (-1)), .ref q19, .ref q40, .null, .null, .int (zI (0)), .null, .null, .null, .null, .null, .null]) C (lt_o (i := i) (c := 0) (d := 11) rfl) ha55 hg57 tyX9 tyX9_ok nmX9 rfl inA_X9 4 (by decide) q_353 rfl rfl hnm rfl rfl rfl (Nat.le_of_ble_eq_true rfl) rfl dX9_init_42 (fun g58 eg59 => ?_)
  have hg60 := up_s eg59
  refine z_aload_n C 0 dX9_init_45 rfl ?_
  refine z_new (fs := [.null, .null, .int (zI (0)), .null, .null, .null]) (ci := 8) C tyX6 tyX6_ok rfl inA_X6 q_135 q_136 q_4 (fun j hj => by rcases (show j = 0 ∨ j = 1 ∨ j = 2 ∨ j = 3 ∨ j = 4 ∨ j = 5 by omega) with rfl | rfl | rfl | rfl | rfl | rfl <;> rfl) (by decide) (by decide) dX9_init_46 (fun q61 ad62 g63 ea64 eg65 => ?_)
  have ha66 : zAt ad62 (i + 1 + 1 + 2 + 7) q61 := up_s ea64
  have hg67 := up_s eg65
  refine z_dup C dX9_init_49 rfl ?_
  refine z_cI (As := []) (rest := [.ref q61, .ref a]) C (c_X6_init l D A cs tt _ _ (i + 1 + 1 + 2 + 7) q61 ha66 hg67) mi_yX6_init q_137 rfl (by decide +kernel) (by decide) (Nat.le_of_ble_eq_true rfl) (by decide) dX9_init_50 rfl (kV fun M71 ad72 g73 hq74 => ?_)
  obtain ⟨rfl, hA68, hG69, hp70⟩ := hq74
  have e2o : i + 1 + 1 + 2 + 7 = i + 11 := by omega
  have ha75 : zAt ad62 (i) (a) := up_n ea64 ha55 (ne_o (i := i) (c := 0) (d := 11) rfl)
  have ha76 : zAt ad72 (i) (a) := (hA68 (i) (lt_o (i := i) (c := 0) (d := 12) rfl)).trans ha75
  have hg77 := up_n eg65 hg60 (ne_o (i := i) (c := 0) (d := 11) rfl)
  have hg78 := (hG69 (i) (lt_o (i := i) (c := 0) (d := 12) rfl) (ne_o (i := i) (c := 0) (d := 11) rfl)).trans hg77
  refine z_putF (fs' := [.ref q1, .int (zI (0)), .int (zI (-1)), .ref q19, .ref q40, .ref q61, .null, .int (zI (0)), .null, .null, .null, .null, .null, .null]) C (lt_o (i := i) (c := 0) (d := 447) rfl) ha76 hg78 tyX9 tyX9_ok nmX9 rfl inA_X9 5 (by decide) q_354 rfl rfl hnm rfl rfl rfl (Nat.le_of_ble_eq_true rfl) rfl dX9_init_53 (fun g79 eg80 => ?_)
  have hg81 := up_s eg80
  refine z_aload_n C 0 dX9_init_56 rfl ?_
  refine z_new (fs := [.null, .null, .int (zI (0)), .null, .null, .null]) (ci := 8) C tyX6 tyX6_ok rfl inA_X6 q_135 q_136 q_4 (fun j hj => by rcases (show j = 0 ∨ j = 1 ∨ j = 2 ∨ j = 3 ∨ j = 4 ∨ j = 5 by omega) with rfl | rfl | rfl | rfl | rfl | rfl <;> rfl) (by decide) (by decide) dX9_init_57 (fun q82 ad83 g84 ea85 eg86 => ?_)
  have ha87 : zAt ad83 (i + 1 + 1 + 2 + 7 + 436) q82 := up_s ea85
  have hg88 := up_s eg86
  refine z_dup C dX9_init_60 rfl ?_
  refine z_cI (As := []) (rest := [.ref q82, .ref a]) C (c_X6_init l D A cs tt _ _ (i + 1 + 1 + 2 + 7 + 436) q82 ha87 hg88) mi_yX6_init q_137 rfl (by decide +kernel) (by decide) (Nat.le_of_ble_eq_true rfl) (by decide) dX9_init_61 rfl (kV fun M92 ad93 g94 hq95 => ?_)
  obtain ⟨rfl, hA89, hG90, hp91⟩ := hq95
  have e3o : i + 1 + 1 + 2 + 7 + 436 = i + 447 := by omega
  have ha96 : zAt ad83 (i) (a) := up_n ea85 ha76 (ne_o (i := i) (c := 0) (d := 447) rfl)
  have ha97 : zAt ad93 (i) (a) := (hA89 (i) (lt_o (i := i) (c := 0) (d := 448) rfl)).trans ha96
  have hg98 := up_n eg86 hg81 (ne_o (i := i) (c := 0) (d := 447) rfl)
  have hg99 := (hG90 (i) (lt_o (i := i) (c := 0) (d := 448) rfl) (ne_o (i := i) (c := 0) (d := 447) rfl)).trans hg98
  refine z_putF (fs' := [.ref q1, .int (zI (0)), .int (zI (-1)), .ref q19, .ref q40, .ref q61, .ref q82, .int (zI (0)), .null, .null, .null, .null, .null, .null]) C (lt_o (i := i) (c := 0) (d := 883) rfl) ha97 hg99 tyX9 tyX9_ok nmX9 rfl inA_X9 6 (by decide) q_355 rfl rfl hnm rfl rfl rfl (Nat.le_of_ble_eq_true rfl) rfl dX9_init_64 (fun g100 eg101 => ?_)
  have hg102 := up_s eg101
  refine z_aload_n C 0 dX9_init_67 rfl ?_
  refine z_iconst (z := 0) C dX9_init_68 rfl ?_
  refine z_put (fs' := [.ref q1, .int (zI (0)), .int (zI (-1)), .ref q19, .ref q40, .ref q61, .ref q82, .int (zI (0)), .null, .null, .null, .null, .null, .null]) C (lt_o (i := i) (c := 0) (d := 883) rfl) ha97 hg102 tyX9 tyX9_ok nmX9 rfl inA_X9 7 (by decide) q_356 rfl rfl (by decide) rfl (Nat.le_of_ble_eq_true rfl) rfl dX9_init_69 (fun g103 eg104 => ?_)
  have hg105 := up_s eg104
  refine z_aload_n C 0 dX9_init_72 rfl ?_
  refine z_new (fs := [.int (zI (0)), .int (zI (0)), .int (zI (0)), .null, .null, .null, .null, .null, .null]) (ci := 7) C tyX5 tyX5_ok rfl inA_X5 q_73 q_74 q_3 (fun j hj => by rcases (show j = 0 ∨ j = 1 ∨ j = 2 ∨ j = 3 ∨ j = 4 ∨ j = 5 ∨ j = 6 ∨ j = 7 ∨ j = 8 by omega) with rfl | rfl | rfl | rfl | rfl | rfl | rfl | rfl | rfl <;> rfl) (by decide) (by decide) dX9_init_73 (fun q106 ad107 g108 ea109 eg110 => ?_)
  have ha111 : zAt ad107 (i + 1 + 1 + 2 + 7 + 436 + 436) q106 := up_s ea109
  have hg112 := up_s eg110
  refine z_dup C dX9_init_76 rfl ?_
  refine z_cIN (As := []) (rest := [.ref q106, .ref a]) C (c_X5_init l D A cs tt _ _ (i + 1 + 1 + 2 + 7 + 436 + 436) q106 ha111 hg112) mi_yX5_init n_75 rfl (by decide +kernel) (by decide) (Nat.le_of_ble_eq_true rfl) (by decide) dX9_init_77 rfl (kV fun M116 ad117 g118 hq119 => ?_)
  obtain ⟨rfl, hA113, hG114, hp115⟩ := hq119
  have e4o : i + 1 + 1 + 2 + 7 + 436 + 436 = i + 883 := by omega
  have ha120 : zAt ad107 (i) (a) := up_n ea109 ha97 (ne_o (i := i) (c := 0) (d := 883) rfl)
  have ha121 : zAt ad117 (i) (a) := (hA113 (i) (lt_o (i := i) (c := 0) (d := 884) rfl)).trans ha120
  have hg122 := up_n eg110 hg105 (ne_o (i := i) (c := 0) (d := 883) rfl)
  have hg123 := (hG114 (i) (lt_o (i := i) (c := 0) (d := 884) rfl) (ne_o (i := i) (c := 0) (d := 883) rfl)).trans hg122
  refine z_putF (fs' := [.ref q1, .int (zI (0)), .int (zI (-1)), .ref q19, .ref q40, .ref q61, .ref q82, .int (zI (0)), .ref q106, .null, .null, .null, .null, .null]) C (lt_o (i := i) (c := 0) (d := 890) rfl) ha121 hg123 tyX9 tyX9_ok nmX9 rfl inA_X9 8 (by decide) q_357 rfl rfl hnm rfl rfl rfl (Nat.le_of_ble_eq_true rfl) rfl dX9_init_80 (fun g124 eg125 => ?_)
  have hg126 := up_s eg125
  refine z_aload_n C 0 dX9_init_83 rfl ?_
  refine z_new (fs := [.int (zI (0)), .int (zI (0)), .int (zI (0)), .int (zI (0)), .int (zI (0)), .int (zI (0)), .null]) (ci := 10) C tyX8 tyX8_ok rfl inA_X8 q_281 q_142 q_5 (fun j hj => by rcases (show j = 0 ∨ j = 1 ∨ j = 2 ∨ j = 3 ∨ j = 4 ∨ j = 5 ∨ j = 6 by omega) with rfl | rfl | rfl | rfl | rfl | rfl | rfl <;> rfl) (by decide) (by decide) dX9_init_84 (fun q127 ad128 g129 ea130 eg131 => ?_)
  have ha132 : zAt ad128 (i + 1 + 1 + 2 + 7 + 436 + 436 + 7) q127 := up_s ea130
  have hg133 := up_s eg131
  refine z_dup C dX9_init_87 rfl ?_
  refine z_cI (As := []) (rest := [.ref q127, .ref a]) C (c_X8_init l D A cs tt _ _ (i + 1 + 1 + 2 + 7 + 436 + 436 + 7) q127 ha132 hg133) mi_yX8_init q_282 rfl (by decide +kernel) (by decide) (Nat.le_of_ble_eq_true rfl) (by decide) dX9_init_88 rfl (kV fun M137 ad138 g139 hq140 => ?_)
  obtain ⟨rfl, hA134, hG135, hp136⟩ := hq140
  have e5o : i + 1 + 1 + 2 + 7 + 436 + 436 + 7 = i + 890 := by omega
  have ha141 : zAt ad128 (i) (a) := up_n ea130 ha121 (ne_o (i := i) (c := 0) (d := 890) rfl)
  have ha142 : zAt ad138 (i) (a) := (hA134 (i) (lt_o (i := i) (c := 0) (d := 891) rfl)).trans ha141
  have hg143 := up_n eg131 hg126 (ne_o (i := i) (c := 0) (d := 890) rfl)
  have hg144 := (hG135 (i) (lt_o (i := i) (c := 0) (d := 891) rfl) (ne_o (i := i) (c := 0) (d := 890) rfl)).trans hg143
  refine z_putF (fs' := [.ref q1, .int (zI (0)), .int (zI (-1)), .ref q19, .ref q40, .ref q61, .ref q82, .int (zI (0)), .ref q106, .ref q127, .null, .null, .null, .null]) C (lt_o (i := i) (c := 0) (d := 900) rfl) ha142 hg144 tyX9 tyX9_ok nmX9 rfl inA_X9 9 (by decide) q_358 rfl rfl hnm rfl rfl rfl (Nat.le_of_ble_eq_true rfl) rfl dX9_init_91 (fun g145 eg146 => ?_)
  have hg147 := up_s eg146
  refine z_aload_n C 0 dX9_init_94 rfl ?_
  refine z_new (fs := [.int (zI (0)), .int (zI (0)), .int (zI (0)), .int (zI (0)), .int (zI (0)), .int (zI (0)), .null]) (ci := 10) C tyX8 tyX8_ok rfl inA_X8 q_281 q_142 q_5 (fun j hj => by rcases (show j = 0 ∨ j = 1 ∨ j = 2 ∨ j = 3 ∨ j = 4 ∨ j = 5 ∨ j = 6 by omega) with rfl | rfl | rfl | rfl | rfl | rfl | rfl <;> rfl) (by decide) (by decide) dX9_init_95 (fun q148 ad149 g150 ea151 eg152 => ?_)
  have ha153 : zAt ad149 (i + 1 + 1 + 2 + 7 + 436 + 436 + 7 + 10) q148 := up_s ea151
  have hg154 := up_s eg152
  refine z_dup C dX9_init_98 rfl ?_
  refine z_cI (As := []) (rest := [.ref q148, .ref a]) C (c_X8_init l D A cs tt _ _ (i + 1 + 1 + 2 + 7 + 436 + 436 + 7 + 10) q148 ha153 hg154) mi_yX8_init q_282 rfl (by decide +kernel) (by decide) (Nat.le_of_ble_eq_true rfl) (by decide) dX9_init_99 rfl (kV fun M158 ad159 g160 hq161 => ?_)
  obtain ⟨rfl, hA155, hG156, hp157⟩ := hq161
  have e6o : i + 1 + 1 + 2 + 7 + 436 + 436 + 7 + 10 = i + 900 := by omega
  have ha162 : zAt ad149 (i) (a) := up_n ea151 ha142 (ne_o (i := i) (c := 0) (d := 900) rfl)
  have ha163 : zAt ad159 (i) (a) := (hA155 (i) (lt_o (i := i) (c := 0) (d := 901) rfl)).trans ha162
  have hg164 := up_n eg152 hg147 (ne_o (i := i) (c := 0) (d := 900) rfl)
  have hg165 := (hG156 (i) (lt_o (i := i) (c := 0) (d := 901) rfl) (ne_o (i := i) (c := 0) (d := 900) rfl)).trans hg164
  refine z_putF (fs' := [.ref q1, .int (zI (0)), .int (zI (-1)), .ref q19, .ref q40, .ref q61, .ref q82, .int (zI (0)), .ref q106, .ref q127, .ref q148, .null, .null, .null]) C (lt_o (i := i) (c := 0) (d := 910) rfl) ha163 hg165 tyX9 tyX9_ok nmX9 rfl inA_X9 10 (by decide) q_359 rfl rfl hnm rfl rfl rfl (Nat.le_of_ble_eq_true rfl) rfl dX9_init_102 (fun g166 eg167 => ?_)
  have hg168 := up_s eg167
  refine z_aload_n C 0 dX9_init_105 rfl ?_
  refine z_new (fs := [.int (zI (0)), .int (zI (0)), .null, .null]) (ci := 2) C tyX0 tyX0_ok rfl inA_X0 q_283 q_284 q_9 (fun j hj => by rcases (show j = 0 ∨ j = 1 ∨ j = 2 ∨ j = 3 by omega) with rfl | rfl | rfl | rfl <;> rfl) (by decide) (by decide) dX9_init_106 (fun q169 ad170 g171 ea172 eg173 => ?_)
  have ha174 : zAt ad170 (i + 1 + 1 + 2 + 7 + 436 + 436 + 7 + 10 + 10) q169 := up_s ea172
  have hg175 := up_s eg173
  refine z_dup C dX9_init_109 rfl ?_
  refine z_cIN (As := []) (rest := [.ref q169, .ref a]) C (c_X0_init l D A cs tt _ _ (i + 1 + 1 + 2 + 7 + 436 + 436 + 7 + 10 + 10) q169 ha174 hg175) mi_yX0_init n_285 rfl (by decide +kernel) (by decide) (Nat.le_of_ble_eq_true rfl) (by decide) dX9_init_110 rfl (kV fun M179 ad180 g181 hq182 => ?_)
  obtain ⟨rfl, hA176, hG177, hp178⟩ := hq182
  have e7o : i + 1 + 1 + 2 + 7 + 436 + 436 + 7 + 10 + 10 = i + 910 := by omega
  have ha183 : zAt ad170 (i) (a) := up_n ea172 ha163 (ne_o (i := i) (c := 0) (d := 910) rfl)
  have ha184 : zAt ad180 (i) (a) := (hA176 (i) (lt_o (i := i) (c := 0) (d := 911) rfl)).trans ha183
  have hg185 := up_n eg173 hg168 (ne_o (i := i) (c := 0) (d := 910) rfl)
  have hg186 := (hG177 (i) (lt_o (i := i) (c := 0) (d := 911) rfl) (ne_o (i := i) (c := 0) (d := 910) rfl)).trans hg185
  refine z_putF (fs' := [.ref q1, .int (zI (0)), .int (zI (-1)), .ref q19, .ref q40, .ref q61, .ref q82, .int (zI (0)), .ref q106, .ref q127, .ref q148, .ref q169, .null, .null]) C (lt_o (i := i) (c := 0) (d := 917) rfl) ha184 hg186 tyX9 tyX9_ok nmX9 rfl inA_X9 11 (by decide) q_360 rfl rfl hnm rfl rfl rfl (Nat.le_of_ble_eq_true rfl) rfl dX9_init_113 (fun g187 eg188 => ?_)
  have hg189 := up_s eg188
  refine z_aload_n C 0 dX9_init_116 rfl ?_
  refine z_new (fs := [.null]) (ci := 3) C tyX1 tyX1_ok rfl inA_X1 q_307 q_308 q_10 (fun j hj => by rcases (show j = 0 by omega) with rfl <;> rfl) (by decide) (by decide) dX9_init_117 (fun q190 ad191 g192 ea193 eg194 => ?_)
  have ha195 : zAt ad191 (i + 1 + 1 + 2 + 7 + 436 + 436 + 7 + 10 + 10 + 7) q190 := up_s ea193
  have hg196 := up_s eg194
  refine z_dup C dX9_init_120 rfl ?_
  refine z_cIN (As := []) (rest := [.ref q190, .ref a]) C (c_X1_init l D A cs tt _ _ (i + 1 + 1 + 2 + 7 + 436 + 436 + 7 + 10 + 10 + 7) q190 ha195 hg196) mi_yX1_init n_309 rfl (by decide +kernel) (by decide) (Nat.le_of_ble_eq_true rfl) (by decide) dX9_init_121 rfl (kV fun M200 ad201 g202 hq203 => ?_)
  obtain ⟨rfl, hA197, hG198, hp199⟩ := hq203
  have e8o : i + 1 + 1 + 2 + 7 + 436 + 436 + 7 + 10 + 10 + 7 = i + 917 := by omega
  have ha204 : zAt ad191 (i) (a) := up_n ea193 ha184 (ne_o (i := i) (c := 0) (d := 917) rfl)
  have ha205 : zAt ad201 (i) (a) := (hA197 (i) (lt_o (i := i) (c := 0) (d := 918) rfl)).trans ha204
  have hg206 := up_n eg194 hg189 (ne_o (i := i) (c := 0) (d := 917) rfl)
  have hg207 := (hG198 (i) (lt_o (i := i) (c := 0) (d := 918) rfl) (ne_o (i := i) (c := 0) (d := 917) rfl)).trans hg206
  refine z_putF (fs' := [.ref q1, .int (zI (0)), .int (zI (-1)), .ref q19, .ref q40, .ref q61, .ref q82, .int (zI (0)), .ref q106, .ref q127, .ref q148, .ref q169, .ref q190, .null]) C (lt_o (i := i) (c := 0) (d := 919) rfl) ha205 hg207 tyX9 tyX9_ok nmX9 rfl inA_X9 12 (by decide) q_361 rfl rfl hnm rfl rfl rfl (Nat.le_of_ble_eq_true rfl) rfl dX9_init_124 (fun g208 eg209 => ?_)
  have hg210 := up_s eg209
  refine z_aload_n C 0 dX9_init_127 rfl ?_
  refine z_new (fs := [.null, .int (zI (0)), .int (zI (0)), .int (zI (0))]) (ci := 1) C tyJ4 tyJ4_ok rfl inA_J4 q_317 q_318 q_12 (fun j hj => by rcases (show j = 0 ∨ j = 1 ∨ j = 2 ∨ j = 3 by omega) with rfl | rfl | rfl | rfl <;> rfl) (by decide) (by decide) dX9_init_128 (fun q211 ad212 g213 ea214 eg215 => ?_)
  have ha216 : zAt ad212 (i + 1 + 1 + 2 + 7 + 436 + 436 + 7 + 10 + 10 + 7 + 2) q211 := up_s ea214
  have hg217 := up_s eg215
  refine z_dup C dX9_init_131 rfl ?_
  refine z_cI (As := []) (rest := [.ref q211, .ref a]) C (c_J4_init_da8c8 l D A cs tt _ _ (i + 1 + 1 + 2 + 7 + 436 + 436 + 7 + 10 + 10 + 7 + 2) q211 ha216 hg217) mi_yJ4_init_da8c8 q_319 rfl (by decide +kernel) (by decide) (Nat.le_of_ble_eq_true rfl) (by decide) dX9_init_132 rfl (kV fun M221 ad222 g223 hq224 => ?_)
  obtain ⟨rfl, hA218, hG219, hp220⟩ := hq224
  have e9o : i + 1 + 1 + 2 + 7 + 436 + 436 + 7 + 10 + 10 + 7 + 2 = i + 919 := by omega
  have ha225 : zAt ad212 (i) (a) := up_n ea214 ha205 (ne_o (i := i) (c := 0) (d := 919) rfl)
  have ha226 : zAt ad222 (i) (a) := (hA218 (i) (lt_o (i := i) (c := 0) (d := 920) rfl)).trans ha225
  have hg227 := up_n eg215 hg210 (ne_o (i := i) (c := 0) (d := 919) rfl)
  have hg228 := (hG219 (i) (lt_o (i := i) (c := 0) (d := 920) rfl) (ne_o (i := i) (c := 0) (d := 919) rfl)).trans hg227
  refine z_putF (fs' := [.ref q1, .int (zI (0)), .int (zI (-1)), .ref q19, .ref q40, .ref q61, .ref q82, .int (zI (0)), .ref q106, .ref q127, .ref q148, .ref q169, .ref q190, .ref q211]) C (lt_o (i := i) (c := 0) (d := 921) rfl) ha226 hg228 tyX9 tyX9_ok nmX9 rfl inA_X9 13 (by decide) q_362 rfl rfl hnm rfl rfl rfl (Nat.le_of_ble_eq_true rfl) rfl dX9_init_135 (fun g229 eg230 => ?_)
  have hg231 := up_s eg230
  have ha232 : zAt ad20 (i + 1) (q1) := up_n ea22 ha6 (ne_o (i := i) (c := 1) (d := 2) rfl)
  have ha233 : zAt ad30 (i + 1) (q1) := (hA26 (i + 1) (lt_o (i := i) (c := 1) (d := 3) rfl)).trans ha232
  have ha234 : zAt ad41 (i + 1) (q1) := up_n ea43 ha233 (ne_o (i := i) (c := 1) (d := 4) rfl)
  have ha235 : zAt ad51 (i + 1) (q1) := (hA47 (i + 1) (lt_o (i := i) (c := 1) (d := 5) rfl)).trans ha234
  have ha236 : zAt ad62 (i + 1) (q1) := up_n ea64 ha235 (ne_o (i := i) (c := 1) (d := 11) rfl)
  have ha237 : zAt ad72 (i + 1) (q1) := (hA68 (i + 1) (lt_o (i := i) (c := 1) (d := 12) rfl)).trans ha236
  have ha238 : zAt ad83 (i + 1) (q1) := up_n ea85 ha237 (ne_o (i := i) (c := 1) (d := 447) rfl)
  have ha239 : zAt ad93 (i + 1) (q1) := (hA89 (i + 1) (lt_o (i := i) (c := 1) (d := 448) rfl)).trans ha238
  have ha240 : zAt ad107 (i + 1) (q1) := up_n ea109 ha239 (ne_o (i := i) (c := 1) (d := 883) rfl)
  have ha241 : zAt ad117 (i + 1) (q1) := (hA113 (i + 1) (lt_o (i := i) (c := 1) (d := 884) rfl)).trans ha240
  have ha242 : zAt ad128 (i + 1) (q1) := up_n ea130 ha241 (ne_o (i := i) (c := 1) (d := 890) rfl)
  have ha243 : zAt ad138 (i + 1) (q1) := (hA134 (i + 1) (lt_o (i := i) (c := 1) (d := 891) rfl)).trans ha242
  have ha244 : zAt ad149 (i + 1) (q1) := up_n ea151 ha243 (ne_o (i := i) (c := 1) (d := 900) rfl)
  have ha245 : zAt ad159 (i + 1) (q1) := (hA155 (i + 1) (lt_o (i := i) (c := 1) (d := 901) rfl)).trans ha244
  have ha246 : zAt ad170 (i + 1) (q1) := up_n ea172 ha245 (ne_o (i := i) (c := 1) (d := 910) rfl)
  have ha247 : zAt ad180 (i + 1) (q1) := (hA176 (i + 1) (lt_o (i := i) (c := 1) (d := 911) rfl)).trans ha246
  have ha248 : zAt ad191 (i + 1) (q1) := up_n ea193 ha247 (ne_o (i := i) (c := 1) (d := 917) rfl)
  have ha249 : zAt ad201 (i + 1) (q1) := (hA197 (i + 1) (lt_o (i := i) (c := 1) (d := 918) rfl)).trans ha248
  have ha250 : zAt ad212 (i + 1) (q1) := up_n ea214 ha249 (ne_o (i := i) (c := 1) (d := 919) rfl)
  have ha251 : zAt ad222 (i + 1) (q1) := (hA218 (i + 1) (lt_o (i := i) (c := 1) (d := 920) rfl)).trans ha250
  have ha252 : zAt ad30 (i + 1 + 1) (q19) := (hA26 (i + 1 + 1) (lt_o (i := i) (c := 2) (d := 3) rfl)).trans ha24
  have ha253 : zAt ad41 (i + 1 + 1) (q19) := up_n ea43 ha252 (ne_o (i := i) (c := 2) (d := 4) rfl)
  have ha254 : zAt ad51 (i + 1 + 1) (q19) := (hA47 (i + 1 + 1) (lt_o (i := i) (c := 2) (d := 5) rfl)).trans ha253
  have ha255 : zAt ad62 (i + 1 + 1) (q19) := up_n ea64 ha254 (ne_o (i := i) (c := 2) (d := 11) rfl)
  have ha256 : zAt ad72 (i + 1 + 1) (q19) := (hA68 (i + 1 + 1) (lt_o (i := i) (c := 2) (d := 12) rfl)).trans ha255
  have ha257 : zAt ad83 (i + 1 + 1) (q19) := up_n ea85 ha256 (ne_o (i := i) (c := 2) (d := 447) rfl)
  have ha258 : zAt ad93 (i + 1 + 1) (q19) := (hA89 (i + 1 + 1) (lt_o (i := i) (c := 2) (d := 448) rfl)).trans ha257
  have ha259 : zAt ad107 (i + 1 + 1) (q19) := up_n ea109 ha258 (ne_o (i := i) (c := 2) (d := 883) rfl)
  have ha260 : zAt ad117 (i + 1 + 1) (q19) := (hA113 (i + 1 + 1) (lt_o (i := i) (c := 2) (d := 884) rfl)).trans ha259
  have ha261 : zAt ad128 (i + 1 + 1) (q19) := up_n ea130 ha260 (ne_o (i := i) (c := 2) (d := 890) rfl)
  have ha262 : zAt ad138 (i + 1 + 1) (q19) := (hA134 (i + 1 + 1) (lt_o (i := i) (c := 2) (d := 891) rfl)).trans ha261
  have ha263 : zAt ad149 (i + 1 + 1) (q19) := up_n ea151 ha262 (ne_o (i := i) (c := 2) (d := 900) rfl)
  have ha264 : zAt ad159 (i + 1 + 1) (q19) := (hA155 (i + 1 + 1) (lt_o (i := i) (c := 2) (d := 901) rfl)).trans ha263
  have ha265 : zAt ad170 (i + 1 + 1) (q19) := up_n ea172 ha264 (ne_o (i := i) (c := 2) (d := 910) rfl)
  have ha266 : zAt ad180 (i + 1 + 1) (q19) := (hA176 (i + 1 + 1) (lt_o (i := i) (c := 2) (d := 911) rfl)).trans ha265
  have ha267 : zAt ad191 (i + 1 + 1) (q19) := up_n ea193 ha266 (ne_o (i := i) (c := 2) (d := 917) rfl)
  have ha268 : zAt ad201 (i + 1 + 1) (q19) := (hA197 (i + 1 + 1) (lt_o (i := i) (c := 2) (d := 918) rfl)).trans ha267
  have ha269 : zAt ad212 (i + 1 + 1) (q19) := up_n ea214 ha268 (ne_o (i := i) (c := 2) (d := 919) rfl)
  have ha270 : zAt ad222 (i + 1 + 1) (q19) := (hA218 (i + 1 + 1) (lt_o (i := i) (c := 2) (d := 920) rfl)).trans ha269
  have ha271 : zAt ad51 (i + 1 + 1 + 2) (q40) := (hA47 (i + 1 + 1 + 2) (lt_o (i := i) (c := 4) (d := 5) rfl)).trans ha45
  have ha272 : zAt ad62 (i + 1 + 1 + 2) (q40) := up_n ea64 ha271 (ne_o (i := i) (c := 4) (d := 11) rfl)
  have ha273 : zAt ad72 (i + 1 + 1 + 2) (q40) := (hA68 (i + 1 + 1 + 2) (lt_o (i := i) (c := 4) (d := 12) rfl)).trans ha272
  have ha274 : zAt ad83 (i + 1 + 1 + 2) (q40) := up_n ea85 ha273 (ne_o (i := i) (c := 4) (d := 447) rfl)
  have ha275 : zAt ad93 (i + 1 + 1 + 2) (q40) := (hA89 (i + 1 + 1 + 2) (lt_o (i := i) (c := 4) (d := 448) rfl)).trans ha274
  have ha276 : zAt ad107 (i + 1 + 1 + 2) (q40) := up_n ea109 ha275 (ne_o (i := i) (c := 4) (d := 883) rfl)
  have ha277 : zAt ad117 (i + 1 + 1 + 2) (q40) := (hA113 (i + 1 + 1 + 2) (lt_o (i := i) (c := 4) (d := 884) rfl)).trans ha276
  have ha278 : zAt ad128 (i + 1 + 1 + 2) (q40) := up_n ea130 ha277 (ne_o (i := i) (c := 4) (d := 890) rfl)
  have ha279 : zAt ad138 (i + 1 + 1 + 2) (q40) := (hA134 (i + 1 + 1 + 2) (lt_o (i := i) (c := 4) (d := 891) rfl)).trans ha278
  have ha280 : zAt ad149 (i + 1 + 1 + 2) (q40) := up_n ea151 ha279 (ne_o (i := i) (c := 4) (d := 900) rfl)
  have ha281 : zAt ad159 (i + 1 + 1 + 2) (q40) := (hA155 (i + 1 + 1 + 2) (lt_o (i := i) (c := 4) (d := 901) rfl)).trans ha280
  have ha282 : zAt ad170 (i + 1 + 1 + 2) (q40) := up_n ea172 ha281 (ne_o (i := i) (c := 4) (d := 910) rfl)
  have ha283 : zAt ad180 (i + 1 + 1 + 2) (q40) := (hA176 (i + 1 + 1 + 2) (lt_o (i := i) (c := 4) (d := 911) rfl)).trans ha282
  have ha284 : zAt ad191 (i + 1 + 1 + 2) (q40) := up_n ea193 ha283 (ne_o (i := i) (c := 4) (d := 917) rfl)
  have ha285 : zAt ad201 (i + 1 + 1 + 2) (q40) := (hA197 (i + 1 + 1 + 2) (lt_o (i := i) (c := 4) (d := 918) rfl)).trans ha284
  have ha286 : zAt ad212 (i + 1 + 1 + 2) (q40) := up_n ea214 ha285 (ne_o (i := i) (c := 4) (d := 919) rfl)
  have ha287 : zAt ad222 (i + 1 + 1 + 2) (q40) := (hA218 (i + 1 + 1 + 2) (lt_o (i := i) (c := 4) (d := 920) rfl)).trans ha286
  have ha288 : zAt ad72 (i + 1 + 1 + 2 + 7) (q61) := (hA68 (i + 1 + 1 + 2 + 7) (lt_o (i := i) (c := 11) (d := 12) rfl)).trans ha66
  have ha289 : zAt ad83 (i + 1 + 1 + 2 + 7) (q61) := up_n ea85 ha288 (ne_o (i := i) (c := 11) (d := 447) rfl)
  have ha290 : zAt ad93 (i + 1 + 1 + 2 + 7) (q61) := (hA89 (i + 1 + 1 + 2 + 7) (lt_o (i := i) (c := 11) (d := 448) rfl)).trans ha289
  have ha291 : zAt ad107 (i + 1 + 1 + 2 + 7) (q61) := up_n ea109 ha290 (ne_o (i := i) (c := 11) (d := 883) rfl)
  have ha292 : zAt ad117 (i + 1 + 1 + 2 + 7) (q61) := (hA113 (i + 1 + 1 + 2 + 7) (lt_o (i := i) (c := 11) (d := 884) rfl)).trans ha291
  have ha293 : zAt ad128 (i + 1 + 1 + 2 + 7) (q61) := up_n ea130 ha292 (ne_o (i := i) (c := 11) (d := 890) rfl)
  have ha294 : zAt ad138 (i + 1 + 1 + 2 + 7) (q61) := (hA134 (i + 1 + 1 + 2 + 7) (lt_o (i := i) (c := 11) (d := 891) rfl)).trans ha293
  have ha295 : zAt ad149 (i + 1 + 1 + 2 + 7) (q61) := up_n ea151 ha294 (ne_o (i := i) (c := 11) (d := 900) rfl)
  have ha296 : zAt ad159 (i + 1 + 1 + 2 + 7) (q61) := (hA155 (i + 1 + 1 + 2 + 7) (lt_o (i := i) (c := 11) (d := 901) rfl)).trans ha295
  have ha297 : zAt ad170 (i + 1 + 1 + 2 + 7) (q61) := up_n ea172 ha296 (ne_o (i := i) (c := 11) (d := 910) rfl)
  have ha298 : zAt ad180 (i + 1 + 1 + 2 + 7) (q61) := (hA176 (i + 1 + 1 + 2 + 7) (lt_o (i := i) (c := 11) (d := 911) rfl)).trans ha297
  have ha299 : zAt ad191 (i + 1 + 1 + 2 + 7) (q61) := up_n ea193 ha298 (ne_o (i := i) (c := 11) (d := 917) rfl)
  have ha300 : zAt ad201 (i + 1 + 1 + 2 + 7) (q61) := (hA197 (i + 1 + 1 + 2 + 7) (lt_o (i := i) (c := 11) (d := 918) rfl)).trans ha299
  have ha301 : zAt ad212 (i + 1 + 1 + 2 + 7) (q61) := up_n ea214 ha300 (ne_o (i := i) (c := 11) (d := 919) rfl)
  have ha302 : zAt ad222 (i + 1 + 1 + 2 + 7) (q61) := (hA218 (i + 1 + 1 + 2 + 7) (lt_o (i := i) (c := 11) (d := 920) rfl)).trans ha301
  have ha303 : zAt ad93 (i + 1 + 1 + 2 + 7 + 436) (q82) := (hA89 (i + 1 + 1 + 2 + 7 + 436) (lt_o (i := i) (c := 447) (d := 448) rfl)).trans ha87
  have ha304 : zAt ad107 (i + 1 + 1 + 2 + 7 + 436) (q82) := up_n ea109 ha303 (ne_o (i := i) (c := 447) (d := 883) rfl)
  have ha305 : zAt ad117 (i + 1 + 1 + 2 + 7 + 436) (q82) := (hA113 (i + 1 + 1 + 2 + 7 + 436) (lt_o (i := i) (c := 447) (d := 884) rfl)).trans ha304
  have ha306 : zAt ad128 (i + 1 + 1 + 2 + 7 + 436) (q82) := up_n ea130 ha305 (ne_o (i := i) (c := 447) (d := 890) rfl)
  have ha307 : zAt ad138 (i + 1 + 1 + 2 + 7 + 436) (q82) := (hA134 (i + 1 + 1 + 2 + 7 + 436) (lt_o (i := i) (c := 447) (d := 891) rfl)).trans ha306
  have ha308 : zAt ad149 (i + 1 + 1 + 2 + 7 + 436) (q82) := up_n ea151 ha307 (ne_o (i := i) (c := 447) (d := 900) rfl)
  have ha309 : zAt ad159 (i + 1 + 1 + 2 + 7 + 436) (q82) := (hA155 (i + 1 + 1 + 2 + 7 + 436) (lt_o (i := i) (c := 447) (d := 901) rfl)).trans ha308
  have ha310 : zAt ad170 (i + 1 + 1 + 2 + 7 + 436) (q82) := up_n ea172 ha309 (ne_o (i := i) (c := 447) (d := 910) rfl)
  have ha311 : zAt ad180 (i + 1 + 1 + 2 + 7 + 436) (q82) := (hA176 (i + 1 + 1 + 2 + 7 + 436) (lt_o (i := i) (c := 447) (d := 911) rfl)).trans ha310
  have ha312 : zAt ad191 (i + 1 + 1 + 2 + 7 + 436) (q82) := up_n ea193 ha311 (ne_o (i := i) (c := 447) (d := 917) rfl)
  have ha313 : zAt ad201 (i + 1 + 1 + 2 + 7 + 436) (q82) := (hA197 (i + 1 + 1 + 2 + 7 + 436) (lt_o (i := i) (c := 447) (d := 918) rfl)).trans ha312
  have ha314 : zAt ad212 (i + 1 + 1 + 2 + 7 + 436) (q82) := up_n ea214 ha313 (ne_o (i := i) (c := 447) (d := 919) rfl)
  have ha315 : zAt ad222 (i + 1 + 1 + 2 + 7 + 436) (q82) := (hA218 (i + 1 + 1 + 2 + 7 + 436) (lt_o (i := i) (c := 447) (d := 920) rfl)).trans ha314
  have ha316 : zAt ad117 (i + 1 + 1 + 2 + 7 + 436 + 436) (q106) := (hA113 (i + 1 + 1 + 2 + 7 + 436 + 436) (lt_o (i := i) (c := 883) (d := 884) rfl)).trans ha111
  have ha317 : zAt ad128 (i + 1 + 1 + 2 + 7 + 436 + 436) (q106) := up_n ea130 ha316 (ne_o (i := i) (c := 883) (d := 890) rfl)
  have ha318 : zAt ad138 (i + 1 + 1 + 2 + 7 + 436 + 436) (q106) := (hA134 (i + 1 + 1 + 2 + 7 + 436 + 436) (lt_o (i := i) (c := 883) (d := 891) rfl)).trans ha317
  have ha319 : zAt ad149 (i + 1 + 1 + 2 + 7 + 436 + 436) (q106) := up_n ea151 ha318 (ne_o (i := i) (c := 883) (d := 900) rfl)
  have ha320 : zAt ad159 (i + 1 + 1 + 2 + 7 + 436 + 436) (q106) := (hA155 (i + 1 + 1 + 2 + 7 + 436 + 436) (lt_o (i := i) (c := 883) (d := 901) rfl)).trans ha319
  have ha321 : zAt ad170 (i + 1 + 1 + 2 + 7 + 436 + 436) (q106) := up_n ea172 ha320 (ne_o (i := i) (c := 883) (d := 910) rfl)
  have ha322 : zAt ad180 (i + 1 + 1 + 2 + 7 + 436 + 436) (q106) := (hA176 (i + 1 + 1 + 2 + 7 + 436 + 436) (lt_o (i := i) (c := 883) (d := 911) rfl)).trans ha321
  have ha323 : zAt ad191 (i + 1 + 1 + 2 + 7 + 436 + 436) (q106) := up_n ea193 ha322 (ne_o (i := i) (c := 883) (d := 917) rfl)
  have ha324 : zAt ad201 (i + 1 + 1 + 2 + 7 + 436 + 436) (q106) := (hA197 (i + 1 + 1 + 2 + 7 + 436 + 436) (lt_o (i := i) (c := 883) (d := 918) rfl)).trans ha323
  have ha325 : zAt ad212 (i + 1 + 1 + 2 + 7 + 436 + 436) (q106) := up_n ea214 ha324 (ne_o (i := i) (c := 883) (d := 919) rfl)
  have ha326 : zAt ad222 (i + 1 + 1 + 2 + 7 + 436 + 436) (q106) := (hA218 (i + 1 + 1 + 2 + 7 + 436 + 436) (lt_o (i := i) (c := 883) (d := 920) rfl)).trans ha325
  have ha327 : zAt ad138 (i + 1 + 1 + 2 + 7 + 436 + 436 + 7) (q127) := (hA134 (i + 1 + 1 + 2 + 7 + 436 + 436 + 7) (lt_o (i := i) (c := 890) (d := 891) rfl)).trans ha132
  have ha328 : zAt ad149 (i + 1 + 1 + 2 + 7 + 436 + 436 + 7) (q127) := up_n ea151 ha327 (ne_o (i := i) (c := 890) (d := 900) rfl)
  have ha329 : zAt ad159 (i + 1 + 1 + 2 + 7 + 436 + 436 + 7) (q127) := (hA155 (i + 1 + 1 + 2 + 7 + 436 + 436 + 7) (lt_o (i := i) (c := 890) (d := 901) rfl)).trans ha328
  have ha330 : zAt ad170 (i + 1 + 1 + 2 + 7 + 436 + 436 + 7) (q127) := up_n ea172 ha329 (ne_o (i := i) (c := 890) (d := 910) rfl)
  have ha331 : zAt ad180 (i + 1 + 1 + 2 + 7 + 436 + 436 + 7) (q127) := (hA176 (i + 1 + 1 + 2 + 7 + 436 + 436 + 7) (lt_o (i := i) (c := 890) (d := 911) rfl)).trans ha330
  have ha332 : zAt ad191 (i + 1 + 1 + 2 + 7 + 436 + 436 + 7) (q127) := up_n ea193 ha331 (ne_o (i := i) (c := 890) (d := 917) rfl)
  have ha333 : zAt ad201 (i + 1 + 1 + 2 + 7 + 436 + 436 + 7) (q127) := (hA197 (i + 1 + 1 + 2 + 7 + 436 + 436 + 7) (lt_o (i := i) (c := 890) (d := 918) rfl)).trans ha332
  have ha334 : zAt ad212 (i + 1 + 1 + 2 + 7 + 436 + 436 + 7) (q127) := up_n ea214 ha333 (ne_o (i := i) (c := 890) (d := 919) rfl)
  have ha335 : zAt ad222 (i + 1 + 1 + 2 + 7 + 436 + 436 + 7) (q127) := (hA218 (i + 1 + 1 + 2 + 7 + 436 + 436 + 7) (lt_o (i := i) (c := 890) (d := 920) rfl)).trans ha334
  have ha336 : zAt ad159 (i + 1 + 1 + 2 + 7 + 436 + 436 + 7 + 10) (q148) := (hA155 (i + 1 + 1 + 2 + 7 + 436 + 436 + 7 + 10) (lt_o (i := i) (c := 900) (d := 901) rfl)).trans ha153
  have ha337 : zAt ad170 (i + 1 + 1 + 2 + 7 + 436 + 436 + 7 + 10) (q148) := up_n ea172 ha336 (ne_o (i := i) (c := 900) (d := 910) rfl)
  have ha338 : zAt ad180 (i + 1 + 1 + 2 + 7 + 436 + 436 + 7 + 10) (q148) := (hA176 (i + 1 + 1 + 2 + 7 + 436 + 436 + 7 + 10) (lt_o (i := i) (c := 900) (d := 911) rfl)).trans ha337
  have ha339 : zAt ad191 (i + 1 + 1 + 2 + 7 + 436 + 436 + 7 + 10) (q148) := up_n ea193 ha338 (ne_o (i := i) (c := 900) (d := 917) rfl)
  have ha340 : zAt ad201 (i + 1 + 1 + 2 + 7 + 436 + 436 + 7 + 10) (q148) := (hA197 (i + 1 + 1 + 2 + 7 + 436 + 436 + 7 + 10) (lt_o (i := i) (c := 900) (d := 918) rfl)).trans ha339
  have ha341 : zAt ad212 (i + 1 + 1 + 2 + 7 + 436 + 436 + 7 + 10) (q148) := up_n ea214 ha340 (ne_o (i := i) (c := 900) (d := 919) rfl)
  have ha342 : zAt ad222 (i + 1 + 1 + 2 + 7 + 436 + 436 + 7 + 10) (q148) := (hA218 (i + 1 + 1 + 2 + 7 + 436 + 436 + 7 + 10) (lt_o (i := i) (c := 900) (d := 920) rfl)).trans ha341
  have ha343 : zAt ad180 (i + 1 + 1 + 2 + 7 + 436 + 436 + 7 + 10 + 10) (q169) := (hA176 (i + 1 + 1 + 2 + 7 + 436 + 436 + 7 + 10 + 10) (lt_o (i := i) (c := 910) (d := 911) rfl)).trans ha174
  have ha344 : zAt ad191 (i + 1 + 1 + 2 + 7 + 436 + 436 + 7 + 10 + 10) (q169) := up_n ea193 ha343 (ne_o (i := i) (c := 910) (d := 917) rfl)
  have ha345 : zAt ad201 (i + 1 + 1 + 2 + 7 + 436 + 436 + 7 + 10 + 10) (q169) := (hA197 (i + 1 + 1 + 2 + 7 + 436 + 436 + 7 + 10 + 10) (lt_o (i := i) (c := 910) (d := 918) rfl)).trans ha344
  have ha346 : zAt ad212 (i + 1 + 1 + 2 + 7 + 436 + 436 + 7 + 10 + 10) (q169) := up_n ea214 ha345 (ne_o (i := i) (c := 910) (d := 919) rfl)
  have ha347 : zAt ad222 (i + 1 + 1 + 2 + 7 + 436 + 436 + 7 + 10 + 10) (q169) := (hA218 (i + 1 + 1 + 2 + 7 + 436 + 436 + 7 + 10 + 10) (lt_o (i := i) (c := 910) (d := 920) rfl)).trans ha346
  have ha348 : zAt ad201 (i + 1 + 1 + 2 + 7 + 436 + 436 + 7 + 10 + 10 + 7) (q190) := (hA197 (i + 1 + 1 + 2 + 7 + 436 + 436 + 7 + 10 + 10 + 7) (lt_o (i := i) (c := 917) (d := 918) rfl)).trans ha195
  have ha349 : zAt ad212 (i + 1 + 1 + 2 + 7 + 436 + 436 + 7 + 10 + 10 + 7) (q190) := up_n ea214 ha348 (ne_o (i := i) (c := 917) (d := 919) rfl)
  have ha350 : zAt ad222 (i + 1 + 1 + 2 + 7 + 436 + 436 + 7 + 10 + 10 + 7) (q190) := (hA218 (i + 1 + 1 + 2 + 7 + 436 + 436 + 7 + 10 + 10 + 7) (lt_o (i := i) (c := 917) (d := 920) rfl)).trans ha349
  have ha351 : zAt ad222 (i + 1 + 1 + 2 + 7 + 436 + 436 + 7 + 10 + 10 + 7 + 2) (q211) := (hA218 (i + 1 + 1 + 2 + 7 + 436 + 436 + 7 + 10 + 10 + 7 + 2) (lt_o (i := i) (c := 919) (d := 920) rfl)).trans ha216
  have hg352 := up_n eg11 hg7 (ne_o (i := i) (c := 1) (d := 0) rfl)
  have hg353 := up_n eg14 hg352 (ne_o (i := i) (c := 1) (d := 0) rfl)
  have hg354 := up_n eg17 hg353 (ne_o (i := i) (c := 1) (d := 0) rfl)
  have hg355 := up_n eg23 hg354 (ne_o (i := i) (c := 1) (d := 2) rfl)
  have hg356 := (hG27 (i + 1) (lt_o (i := i) (c := 1) (d := 3) rfl) (ne_o (i := i) (c := 1) (d := 2) rfl)).trans hg355
  have hg357 := up_n eg38 hg356 (ne_o (i := i) (c := 1) (d := 0) rfl)
  have hg358 := up_n eg44 hg357 (ne_o (i := i) (c := 1) (d := 4) rfl)
  have hg359 := (hG48 (i + 1) (lt_o (i := i) (c := 1) (d := 5) rfl) (ne_o (i := i) (c := 1) (d := 4) rfl)).trans hg358
  have hg360 := up_n eg59 hg359 (ne_o (i := i) (c := 1) (d := 0) rfl)
  have hg361 := up_n eg65 hg360 (ne_o (i := i) (c := 1) (d := 11) rfl)
  have hg362 := (hG69 (i + 1) (lt_o (i := i) (c := 1) (d := 12) rfl) (ne_o (i := i) (c := 1) (d := 11) rfl)).trans hg361
  have hg363 := up_n eg80 hg362 (ne_o (i := i) (c := 1) (d := 0) rfl)
  have hg364 := up_n eg86 hg363 (ne_o (i := i) (c := 1) (d := 447) rfl)
  have hg365 := (hG90 (i + 1) (lt_o (i := i) (c := 1) (d := 448) rfl) (ne_o (i := i) (c := 1) (d := 447) rfl)).trans hg364
  have hg366 := up_n eg101 hg365 (ne_o (i := i) (c := 1) (d := 0) rfl)
  have hg367 := up_n eg104 hg366 (ne_o (i := i) (c := 1) (d := 0) rfl)
  have hg368 := up_n eg110 hg367 (ne_o (i := i) (c := 1) (d := 883) rfl)
  have hg369 := (hG114 (i + 1) (lt_o (i := i) (c := 1) (d := 884) rfl) (ne_o (i := i) (c := 1) (d := 883) rfl)).trans hg368
  have hg370 := up_n eg125 hg369 (ne_o (i := i) (c := 1) (d := 0) rfl)
  have hg371 := up_n eg131 hg370 (ne_o (i := i) (c := 1) (d := 890) rfl)
  have hg372 := (hG135 (i + 1) (lt_o (i := i) (c := 1) (d := 891) rfl) (ne_o (i := i) (c := 1) (d := 890) rfl)).trans hg371
  have hg373 := up_n eg146 hg372 (ne_o (i := i) (c := 1) (d := 0) rfl)
  have hg374 := up_n eg152 hg373 (ne_o (i := i) (c := 1) (d := 900) rfl)
  have hg375 := (hG156 (i + 1) (lt_o (i := i) (c := 1) (d := 901) rfl) (ne_o (i := i) (c := 1) (d := 900) rfl)).trans hg374
  have hg376 := up_n eg167 hg375 (ne_o (i := i) (c := 1) (d := 0) rfl)
  have hg377 := up_n eg173 hg376 (ne_o (i := i) (c := 1) (d := 910) rfl)
  have hg378 := (hG177 (i + 1) (lt_o (i := i) (c := 1) (d := 911) rfl) (ne_o (i := i) (c := 1) (d := 910) rfl)).trans hg377
  have hg379 := up_n eg188 hg378 (ne_o (i := i) (c := 1) (d := 0) rfl)
  have hg380 := up_n eg194 hg379 (ne_o (i := i) (c := 1) (d := 917) rfl)
  have hg381 := (hG198 (i + 1) (lt_o (i := i) (c := 1) (d := 918) rfl) (ne_o (i := i) (c := 1) (d := 917) rfl)).trans hg380
  have hg382 := up_n eg209 hg381 (ne_o (i := i) (c := 1) (d := 0) rfl)
  have hg383 := up_n eg215 hg382 (ne_o (i := i) (c := 1) (d := 919) rfl)
  have hg384 := (hG219 (i + 1) (lt_o (i := i) (c := 1) (d := 920) rfl) (ne_o (i := i) (c := 1) (d := 919) rfl)).trans hg383
  have hg385 := up_n eg230 hg384 (ne_o (i := i) (c := 1) (d := 0) rfl)
  have hfin : g229 i = oC 11 [.ref (ad222 (i + 1)), .int (zI 0), .int (zI (-1)), .ref (ad222 (i + 2)), .ref (ad222 (i + 4)), .ref (ad222 (i + 11)), .ref (ad222 (i + 447)), .int (zI 0), .ref (ad222 (i + 883)), .ref (ad222 (i + 890)), .ref (ad222 (i + 900)), .ref (ad222 (i + 910)), .ref (ad222 (i + 917)), .ref (ad222 (i + 919))] := by rw [← (show ad222 (i + 1) = q1 from ha251), ← (show ad222 (i + 1 + 1) = q19 from ha270), ← (show ad222 (i + 1 + 1 + 2) = q40 from ha287), ← (show ad222 (i + 1 + 1 + 2 + 7) = q61 from ha302), ← (show ad222 (i + 1 + 1 + 2 + 7 + 436) = q82 from ha315), ← (show ad222 (i + 1 + 1 + 2 + 7 + 436 + 436) = q106 from ha326), ← (show ad222 (i + 1 + 1 + 2 + 7 + 436 + 436 + 7) = q127 from ha335), ← (show ad222 (i + 1 + 1 + 2 + 7 + 436 + 436 + 7 + 10) = q148 from ha342), ← (show ad222 (i + 1 + 1 + 2 + 7 + 436 + 436 + 7 + 10 + 10) = q169 from ha347), ← (show ad222 (i + 1 + 1 + 2 + 7 + 436 + 436 + 7 + 10 + 10 + 7) = q190 from ha350), ← (show ad222 (i + 1 + 1 + 2 + 7 + 436 + 436 + 7 + 10 + 10 + 7 + 2) = q211 from ha351)] at hg231; exact hg231
  have hp386 := isRdr.mv (ad' := ad222) (g' := g229) (fun j h1 h2 => by rw [hA218 _ (by omega)]; rw [ea214, va_up_ne _ _ (by omega)]; rw [hA197 _ (by omega)]; rw [ea193, va_up_ne _ _ (by omega)]; rw [hA176 _ (by omega)]; rw [ea172, va_up_ne _ _ (by omega)]; rw [hA155 _ (by omega)]; rw [ea151, va_up_ne _ _ (by omega)]; rw [hA134 _ (by omega)]; rw [ea130, va_up_ne _ _ (by omega)]; rw [hA113 _ (by omega)]; rw [ea109, va_up_ne _ _ (by omega)]; rw [hA89 _ (by omega)]; rw [ea85, va_up_ne _ _ (by omega)]; rw [hA68 _ (by omega)]; rw [ea64, va_up_ne _ _ (by omega)]; rw [hA47 _ (by omega)]; rw [ea43, va_up_ne _ _ (by omega)]) (fun j h1 h2 => by rw [eg230, va_up_ne _ _ (by omega)]; rw [hG219 _ (by omega) (by omega)]; rw [eg215, va_up_ne _ _ (by omega)]; rw [eg209, va_up_ne _ _ (by omega)]; rw [hG198 _ (by omega) (by omega)]; rw [eg194, va_up_ne _ _ (by omega)]; rw [eg188, va_up_ne _ _ (by omega)]; rw [hG177 _ (by omega) (by omega)]; rw [eg173, va_up_ne _ _ (by omega)]; rw [eg167, va_up_ne _ _ (by omega)]; rw [hG156 _ (by omega) (by omega)]; rw [eg152, va_up_ne _ _ (by omega)]; rw [eg146, va_up_ne _ _ (by omega)]; rw [hG135 _ (by omega) (by omega)]; rw [eg131, va_up_ne _ _ (by omega)]; rw [eg125, va_up_ne _ _ (by omega)]; rw [hG114 _ (by omega) (by omega)]; rw [eg110, va_up_ne _ _ (by omega)]; rw [eg104, va_up_ne _ _ (by omega)]; rw [eg101, va_up_ne _ _ (by omega)]; rw [hG90 _ (by omega) (by omega)]; rw [eg86, va_up_ne _ _ (by omega)]; rw [eg80, va_up_ne _ _ (by omega)]; rw [hG69 _ (by omega) (by omega)]; rw [eg65, va_up_ne _ _ (by omega)]; rw [eg59, va_up_ne _ _ (by omega)]; rw [hG48 _ (by omega) (by omega)]; rw [eg44, va_up_ne _ _ (by omega)]; rw [eg38, va_up_ne _ _ (by omega)]) hp28
  have hp387 := isPlan.mv (ad' := ad222) (g' := g229) (fun j h1 h2 => by rw [hA218 _ (by omega)]; rw [ea214, va_up_ne _ _ (by omega)]; rw [hA197 _ (by omega)]; rw [ea193, va_up_ne _ _ (by omega)]; rw [hA176 _ (by omega)]; rw [ea172, va_up_ne _ _ (by omega)]; rw [hA155 _ (by omega)]; rw [ea151, va_up_ne _ _ (by omega)]; rw [hA134 _ (by omega)]; rw [ea130, va_up_ne _ _ (by omega)]; rw [hA113 _ (by omega)]; rw [ea109, va_up_ne _ _ (by omega)]; rw [hA89 _ (by omega)]; rw [ea85, va_up_ne _ _ (by omega)]; rw [hA68 _ (by omega)]; rw [ea64, va_up_ne _ _ (by omega)]) (fun j h1 h2 => by rw [eg230, va_up_ne _ _ (by omega)]; rw [hG219 _ (by omega) (by omega)]; rw [eg215, va_up_ne _ _ (by omega)]; rw [eg209, va_up_ne _ _ (by omega)]; rw [hG198 _ (by omega) (by omega)]; rw [eg194, va_up_ne _ _ (by omega)]; rw [eg188, va_up_ne _ _ (by omega)]; rw [hG177 _ (by omega) (by omega)]; rw [eg173, va_up_ne _ _ (by omega)]; rw [eg167, va_up_ne _ _ (by omega)]; rw [hG156 _ (by omega) (by omega)]; rw [eg152, va_up_ne _ _ (by omega)]; rw [eg146, va_up_ne _ _ (by omega)]; rw [hG135 _ (by omega) (by omega)]; rw [eg131, va_up_ne _ _ (by omega)]; rw [eg125, va_up_ne _ _ (by omega)]; rw [hG114 _ (by omega) (by omega)]; rw [eg110, va_up_ne _ _ (by omega)]; rw [eg104, va_up_ne _ _ (by omega)]; rw [eg101, va_up_ne _ _ (by omega)]; rw [hG90 _ (by omega) (by omega)]; rw [eg86, va_up_ne _ _ (by omega)]; rw [eg80, va_up_ne _ _ (by omega)]; rw [hG69 _ (by omega) (by omega)]; rw [eg65, va_up_ne _ _ (by omega)]; rw [eg59, va_up_ne _ _ (by omega)]) hp49
  have hp388 := isSt.mv (ad' := ad222) (g' := g229) (fun j h1 h2 => by rw [hA218 _ (by omega)]; rw [ea214, va_up_ne _ _ (by omega)]; rw [hA197 _ (by omega)]; rw [ea193, va_up_ne _ _ (by omega)]; rw [hA176 _ (by omega)]; rw [ea172, va_up_ne _ _ (by omega)]; rw [hA155 _ (by omega)]; rw [ea151, va_up_ne _ _ (by omega)]; rw [hA134 _ (by omega)]; rw [ea130, va_up_ne _ _ (by omega)]; rw [hA113 _ (by omega)]; rw [ea109, va_up_ne _ _ (by omega)]; rw [hA89 _ (by omega)]; rw [ea85, va_up_ne _ _ (by omega)]) (fun j h1 h2 => by rw [eg230, va_up_ne _ _ (by omega)]; rw [hG219 _ (by omega) (by omega)]; rw [eg215, va_up_ne _ _ (by omega)]; rw [eg209, va_up_ne _ _ (by omega)]; rw [hG198 _ (by omega) (by omega)]; rw [eg194, va_up_ne _ _ (by omega)]; rw [eg188, va_up_ne _ _ (by omega)]; rw [hG177 _ (by omega) (by omega)]; rw [eg173, va_up_ne _ _ (by omega)]; rw [eg167, va_up_ne _ _ (by omega)]; rw [hG156 _ (by omega) (by omega)]; rw [eg152, va_up_ne _ _ (by omega)]; rw [eg146, va_up_ne _ _ (by omega)]; rw [hG135 _ (by omega) (by omega)]; rw [eg131, va_up_ne _ _ (by omega)]; rw [eg125, va_up_ne _ _ (by omega)]; rw [hG114 _ (by omega) (by omega)]; rw [eg110, va_up_ne _ _ (by omega)]; rw [eg104, va_up_ne _ _ (by omega)]; rw [eg101, va_up_ne _ _ (by omega)]; rw [hG90 _ (by omega) (by omega)]; rw [eg86, va_up_ne _ _ (by omega)]; rw [eg80, va_up_ne _ _ (by omega)]) hp70
  have hp389 := isSt.mv (ad' := ad222) (g' := g229) (fun j h1 h2 => by rw [hA218 _ (by omega)]; rw [ea214, va_up_ne _ _ (by omega)]; rw [hA197 _ (by omega)]; rw [ea193, va_up_ne _ _ (by omega)]; rw [hA176 _ (by omega)]; rw [ea172, va_up_ne _ _ (by omega)]; rw [hA155 _ (by omega)]; rw [ea151, va_up_ne _ _ (by omega)]; rw [hA134 _ (by omega)]; rw [ea130, va_up_ne _ _ (by omega)]; rw [hA113 _ (by omega)]; rw [ea109, va_up_ne _ _ (by omega)]) (fun j h1 h2 => by rw [eg230, va_up_ne _ _ (by omega)]; rw [hG219 _ (by omega) (by omega)]; rw [eg215, va_up_ne _ _ (by omega)]; rw [eg209, va_up_ne _ _ (by omega)]; rw [hG198 _ (by omega) (by omega)]; rw [eg194, va_up_ne _ _ (by omega)]; rw [eg188, va_up_ne _ _ (by omega)]; rw [hG177 _ (by omega) (by omega)]; rw [eg173, va_up_ne _ _ (by omega)]; rw [eg167, va_up_ne _ _ (by omega)]; rw [hG156 _ (by omega) (by omega)]; rw [eg152, va_up_ne _ _ (by omega)]; rw [eg146, va_up_ne _ _ (by omega)]; rw [hG135 _ (by omega) (by omega)]; rw [eg131, va_up_ne _ _ (by omega)]; rw [eg125, va_up_ne _ _ (by omega)]; rw [hG114 _ (by omega) (by omega)]; rw [eg110, va_up_ne _ _ (by omega)]; rw [eg104, va_up_ne _ _ (by omega)]; rw [eg101, va_up_ne _ _ (by omega)]) hp91
  have hp390 := isPlan.mv (ad' := ad222) (g' := g229) (fun j h1 h2 => by rw [hA218 _ (by omega)]; rw [ea214, va_up_ne _ _ (by omega)]; rw [hA197 _ (by omega)]; rw [ea193, va_up_ne _ _ (by omega)]; rw [hA176 _ (by omega)]; rw [ea172, va_up_ne _ _ (by omega)]; rw [hA155 _ (by omega)]; rw [ea151, va_up_ne _ _ (by omega)]; rw [hA134 _ (by omega)]; rw [ea130, va_up_ne _ _ (by omega)]) (fun j h1 h2 => by rw [eg230, va_up_ne _ _ (by omega)]; rw [hG219 _ (by omega) (by omega)]; rw [eg215, va_up_ne _ _ (by omega)]; rw [eg209, va_up_ne _ _ (by omega)]; rw [hG198 _ (by omega) (by omega)]; rw [eg194, va_up_ne _ _ (by omega)]; rw [eg188, va_up_ne _ _ (by omega)]; rw [hG177 _ (by omega) (by omega)]; rw [eg173, va_up_ne _ _ (by omega)]; rw [eg167, va_up_ne _ _ (by omega)]; rw [hG156 _ (by omega) (by omega)]; rw [eg152, va_up_ne _ _ (by omega)]; rw [eg146, va_up_ne _ _ (by omega)]; rw [hG135 _ (by omega) (by omega)]; rw [eg131, va_up_ne _ _ (by omega)]; rw [eg125, va_up_ne _ _ (by omega)]) hp115
  have hp391 := isWorld.mv (ad' := ad222) (g' := g229) (fun j h1 h2 => by rw [hA218 _ (by omega)]; rw [ea214, va_up_ne _ _ (by omega)]; rw [hA197 _ (by omega)]; rw [ea193, va_up_ne _ _ (by omega)]; rw [hA176 _ (by omega)]; rw [ea172, va_up_ne _ _ (by omega)]; rw [hA155 _ (by omega)]; rw [ea151, va_up_ne _ _ (by omega)]) (fun j h1 h2 => by rw [eg230, va_up_ne _ _ (by omega)]; rw [hG219 _ (by omega) (by omega)]; rw [eg215, va_up_ne _ _ (by omega)]; rw [eg209, va_up_ne _ _ (by omega)]; rw [hG198 _ (by omega) (by omega)]; rw [eg194, va_up_ne _ _ (by omega)]; rw [eg188, va_up_ne _ _ (by omega)]; rw [hG177 _ (by omega) (by omega)]; rw [eg173, va_up_ne _ _ (by omega)]; rw [eg167, va_up_ne _ _ (by omega)]; rw [hG156 _ (by omega) (by omega)]; rw [eg152, va_up_ne _ _ (by omega)]; rw [eg146, va_up_ne _ _ (by omega)]) hp136
  have hp392 := isWorld.mv (ad' := ad222) (g' := g229) (fun j h1 h2 => by rw [hA218 _ (by omega)]; rw [ea214, va_up_ne _ _ (by omega)]; rw [hA197 _ (by omega)]; rw [ea193, va_up_ne _ _ (by omega)]; rw [hA176 _ (by omega)]; rw [ea172, va_up_ne _ _ (by omega)]) (fun j h1 h2 => by rw [eg230, va_up_ne _ _ (by omega)]; rw [hG219 _ (by omega) (by omega)]; rw [eg215, va_up_ne _ _ (by omega)]; rw [eg209, va_up_ne _ _ (by omega)]; rw [hG198 _ (by omega) (by omega)]; rw [eg194, va_up_ne _ _ (by omega)]; rw [eg188, va_up_ne _ _ (by omega)]; rw [hG177 _ (by omega) (by omega)]; rw [eg173, va_up_ne _ _ (by omega)]; rw [eg167, va_up_ne _ _ (by omega)]) hp157
  have hp393 := isGss.mv (ad' := ad222) (g' := g229) (fun j h1 h2 => by rw [hA218 _ (by omega)]; rw [ea214, va_up_ne _ _ (by omega)]; rw [hA197 _ (by omega)]; rw [ea193, va_up_ne _ _ (by omega)]) (fun j h1 h2 => by rw [eg230, va_up_ne _ _ (by omega)]; rw [hG219 _ (by omega) (by omega)]; rw [eg215, va_up_ne _ _ (by omega)]; rw [eg209, va_up_ne _ _ (by omega)]; rw [hG198 _ (by omega) (by omega)]; rw [eg194, va_up_ne _ _ (by omega)]; rw [eg188, va_up_ne _ _ (by omega)]) hp178
  have hp394 := isLike.mv (ad' := ad222) (g' := g229) (fun j h1 h2 => by rw [hA218 _ (by omega)]; rw [ea214, va_up_ne _ _ (by omega)]) (fun j h1 h2 => by rw [eg230, va_up_ne _ _ (by omega)]; rw [hG219 _ (by omega) (by omega)]; rw [eg215, va_up_ne _ _ (by omega)]; rw [eg209, va_up_ne _ _ (by omega)]) hp199
  have hp395 := isBld.mv (ad' := ad222) (g' := g229) (fun j h1 h2 => by rfl) (fun j h1 h2 => by rw [eg230, va_up_ne _ _ (by omega)]) hp220
  exact z_vret C hr hlk dX9_init_138 (by decide) (by decide) (⟨rfl, rfl, fun j h1 => by rw [hA218 _ (by omega)]; rw [ea214, va_up_ne _ _ (by omega)]; rw [hA197 _ (by omega)]; rw [ea193, va_up_ne _ _ (by omega)]; rw [hA176 _ (by omega)]; rw [ea172, va_up_ne _ _ (by omega)]; rw [hA155 _ (by omega)]; rw [ea151, va_up_ne _ _ (by omega)]; rw [hA134 _ (by omega)]; rw [ea130, va_up_ne _ _ (by omega)]; rw [hA113 _ (by omega)]; rw [ea109, va_up_ne _ _ (by omega)]; rw [hA89 _ (by omega)]; rw [ea85, va_up_ne _ _ (by omega)]; rw [hA68 _ (by omega)]; rw [ea64, va_up_ne _ _ (by omega)]; rw [hA47 _ (by omega)]; rw [ea43, va_up_ne _ _ (by omega)]; rw [hA26 _ (by omega)]; rw [ea22, va_up_ne _ _ (by omega)]; rw [ea4, va_up_ne _ _ (by omega)], fun j h1 h2 => by rw [eg230, va_up_ne _ _ (by omega)]; rw [hG219 _ (by omega) (by omega)]; rw [eg215, va_up_ne _ _ (by omega)]; rw [eg209, va_up_ne _ _ (by omega)]; rw [hG198 _ (by omega) (by omega)]; rw [eg194, va_up_ne _ _ (by omega)]; rw [eg188, va_up_ne _ _ (by omega)]; rw [hG177 _ (by omega) (by omega)]; rw [eg173, va_up_ne _ _ (by omega)]; rw [eg167, va_up_ne _ _ (by omega)]; rw [hG156 _ (by omega) (by omega)]; rw [eg152, va_up_ne _ _ (by omega)]; rw [eg146, va_up_ne _ _ (by omega)]; rw [hG135 _ (by omega) (by omega)]; rw [eg131, va_up_ne _ _ (by omega)]; rw [eg125, va_up_ne _ _ (by omega)]; rw [hG114 _ (by omega) (by omega)]; rw [eg110, va_up_ne _ _ (by omega)]; rw [eg104, va_up_ne _ _ (by omega)]; rw [eg101, va_up_ne _ _ (by omega)]; rw [hG90 _ (by omega) (by omega)]; rw [eg86, va_up_ne _ _ (by omega)]; rw [eg80, va_up_ne _ _ (by omega)]; rw [hG69 _ (by omega) (by omega)]; rw [eg65, va_up_ne _ _ (by omega)]; rw [eg59, va_up_ne _ _ (by omega)]; rw [hG48 _ (by omega) (by omega)]; rw [eg44, va_up_ne _ _ (by omega)]; rw [eg38, va_up_ne _ _ (by omega)]; rw [hG27 _ (by omega) (by omega)]; rw [eg23, va_up_ne _ _ (by omega)]; rw [eg17, va_up_ne _ _ (by omega)]; rw [eg14, va_up_ne _ _ (by omega)]; rw [eg11, va_up_ne _ _ (by omega)]; rw [eg5, va_up_ne _ _ (by omega)], hfin, hg385, hp386, hp387, hp388, hp389, hp390, hp391, hp392, hp393, hp394, hp395⟩)
end
section
-- 12.words.lean.txt
-- words of mod
theorem q_1454 : (Jvm.Cond.methodLink "SnowRecorderModel" (3 : Nat) ({ cls := "java/lang/Object", name := "<init>", desc := "()V" } : Jvm.MethodName)) ∈ AW := AW_m7 14 (by decide +kernel) (by decide +kernel)
theorem q_1455 : (Jvm.Cond.methodLink "SnowRecorderModel" (107 : Nat) ({ cls := "SnowRecorderModel", name := "laysTable", desc := "()V" } : Jvm.MethodName)) ∈ AW := AW_m7 15 (by decide +kernel) (by decide +kernel)
theorem q_1457 : (Jvm.Cond.instanceMethod ({ cls := "SnowRecorderModel", name := "laysTable", desc := "()V" } : Jvm.MethodName)) ∈ AW := AW_m7 17 (by decide +kernel) (by decide +kernel)
theorem q_1458 : (Jvm.Cond.code ({ cls := "SnowRecorderModel", name := "laysTable", desc := "()V" } : Jvm.MethodName) prog_12_method_2_code (2 : Nat) (Option.none : Option Jvm.ClassFile.FieldType)) ∈ AW := AW_m7 18 (by decide +kernel) (by decide +kernel)
theorem q_1459 : (Jvm.Cond.fieldLink "SnowRecorderModel" (9 : Nat) "SnowRecorderModel" "rows" "[I") ∈ AW := AW_m7 19 (by decide +kernel) (by decide +kernel)
theorem q_1460 : (Jvm.Cond.fieldLink "SnowRecorderModel" (13 : Nat) "SnowRecorderModel" "steep" "[I") ∈ AW := AW_m7 20 (by decide +kernel) (by decide +kernel)
theorem q_1461 : (Jvm.Cond.fieldLink "SnowRecorderModel" (16 : Nat) "SnowRecorderModel" "open" "[I") ∈ AW := AW_m7 21 (by decide +kernel) (by decide +kernel)
theorem q_1462 : (Jvm.Cond.fieldLink "SnowRecorderModel" (19 : Nat) "SnowRecorderModel" "air" "[I") ∈ AW := AW_m7 22 (by decide +kernel) (by decide +kernel)
theorem q_1463 : (Jvm.Cond.fieldLink "SnowRecorderModel" (22 : Nat) "SnowRecorderModel" "falling" "[I") ∈ AW := AW_m7 23 (by decide +kernel) (by decide +kernel)
theorem q_1464 : (Jvm.Cond.fieldLink "SnowRecorderModel" (25 : Nat) "SnowRecorderModel" "much" "[I") ∈ AW := AW_m7 24 (by decide +kernel) (by decide +kernel)
theorem q_1465 : (Jvm.Cond.fieldLink "SnowRecorderModel" (28 : Nat) "SnowRecorderModel" "table" "[I") ∈ AW := AW_m7 25 (by decide +kernel) (by decide +kernel)
theorem q_1466 : (Jvm.Cond.fieldLink "SnowRecorderModel" (31 : Nat) "SnowRecorderModel" "noteSlope" "[I") ∈ AW := AW_m7 26 (by decide +kernel) (by decide +kernel)
theorem q_1467 : (Jvm.Cond.fieldLink "SnowRecorderModel" (34 : Nat) "SnowRecorderModel" "noteHours" "[I") ∈ AW := AW_m7 27 (by decide +kernel) (by decide +kernel)
theorem q_1468 : (Jvm.Cond.fieldLink "SnowRecorderModel" (37 : Nat) "SnowRecorderModel" "noteDepth" "[I") ∈ AW := AW_m7 28 (by decide +kernel) (by decide +kernel)
theorem q_1469 : (Jvm.Cond.fieldLink "SnowRecorderModel" (40 : Nat) "SnowRecorderModel" "refused" "[I") ∈ AW := AW_m7 29 (by decide +kernel) (by decide +kernel)
theorem q_1470 : (Jvm.Cond.fieldLink "SnowRecorderModel" (43 : Nat) "SnowRecorderModel" "pits" "[I") ∈ AW := AW_m7 30 (by decide +kernel) (by decide +kernel)
theorem q_1481 : (Jvm.Cond.fieldLink "SnowRecorderModel" (46 : Nat) "SnowRecorderModel" "tape" "[I") ∈ AW := AW_m7 41 (by decide +kernel) (by decide +kernel)
theorem q_1483 : (Jvm.Cond.fieldLink "SnowRecorderModel" (49 : Nat) "SnowRecorderModel" "faultPlace" "I") ∈ AW := AW_m7 43 (by decide +kernel) (by decide +kernel)
theorem q_1485 : (Jvm.Cond.fieldLink "SnowRecorderModel" (53 : Nat) "SnowRecorderModel" "without" "I") ∈ AW := AW_m7 45 (by decide +kernel) (by decide +kernel)
theorem q_1486 : (Jvm.Cond.fieldLink "SnowRecorderModel" (56 : Nat) "SnowRecorderModel" "otherHour" "I") ∈ AW := AW_m7 46 (by decide +kernel) (by decide +kernel)
theorem q_1489 : (Jvm.Cond.fieldLink "SnowRecorderModel" (59 : Nat) "SnowRecorderModel" "temps" "[I") ∈ AW := AW_m7 49 (by decide +kernel) (by decide +kernel)
theorem q_1490 : (Jvm.Cond.fieldLink "SnowRecorderModel" (62 : Nat) "SnowRecorderModel" "kinds" "[I") ∈ AW := AW_m7 50 (by decide +kernel) (by decide +kernel)
theorem q_1498 : (Jvm.Cond.fieldLink "SnowRecorderModel" (65 : Nat) "SnowRecorderModel" "steep1" "[I") ∈ AW := AW_m7 58 (by decide +kernel) (by decide +kernel)
theorem q_1499 : (Jvm.Cond.fieldLink "SnowRecorderModel" (68 : Nat) "SnowRecorderModel" "open1" "[I") ∈ AW := AW_m7 59 (by decide +kernel) (by decide +kernel)
theorem q_15 : (Jvm.Cond.initialized "SnowRecorderModel") ∈ AW := AW_m1 15 (by decide +kernel) (by decide +kernel)
theorem q_1500 : (Jvm.Cond.fieldLink "SnowRecorderModel" (71 : Nat) "SnowRecorderModel" "many1" "[I") ∈ AW := AW_m7 60 (by decide +kernel) (by decide +kernel)
theorem q_1501 : (Jvm.Cond.fieldLink "SnowRecorderModel" (74 : Nat) "SnowRecorderModel" "air1" "[I") ∈ AW := AW_m7 61 (by decide +kernel) (by decide +kernel)
theorem q_1502 : (Jvm.Cond.fieldLink "SnowRecorderModel" (77 : Nat) "SnowRecorderModel" "falling1" "[I") ∈ AW := AW_m7 62 (by decide +kernel) (by decide +kernel)
theorem q_1503 : (Jvm.Cond.fieldLink "SnowRecorderModel" (80 : Nat) "SnowRecorderModel" "much1" "[I") ∈ AW := AW_m7 63 (by decide +kernel) (by decide +kernel)
theorem q_1504 : (Jvm.Cond.fieldLink "SnowRecorderModel" (83 : Nat) "SnowRecorderModel" "table1" "[I") ∈ AW := AW_m7 64 (by decide +kernel) (by decide +kernel)
theorem q_1505 : (Jvm.Cond.fieldLink "SnowRecorderModel" (86 : Nat) "SnowRecorderModel" "layer1" "[I") ∈ AW := AW_m7 65 (by decide +kernel) (by decide +kernel)
theorem q_1509 : (Jvm.Cond.fieldLink "SnowRecorderModel" (89 : Nat) "SnowRecorderModel" "line" "[I") ∈ AW := AW_m7 69 (by decide +kernel) (by decide +kernel)
theorem q_1511 : (Jvm.Cond.fieldLink "SnowRecorderModel" (92 : Nat) "SnowRecorderModel" "oneKinds" "[I") ∈ AW := AW_m7 71 (by decide +kernel) (by decide +kernel)
theorem q_1512 : (Jvm.Cond.fieldLink "SnowRecorderModel" (95 : Nat) "SnowRecorderModel" "otherKinds" "[I") ∈ AW := AW_m7 72 (by decide +kernel) (by decide +kernel)
theorem q_1513 : (Jvm.Cond.fieldLink "SnowRecorderModel" (98 : Nat) "SnowRecorderModel" "folded" "[I") ∈ AW := AW_m7 73 (by decide +kernel) (by decide +kernel)
theorem q_1516 : (Jvm.Cond.fieldLink "SnowRecorderModel" (101 : Nat) "SnowRecorderModel" "dayDepth" "[I") ∈ AW := AW_m7 76 (by decide +kernel) (by decide +kernel)
theorem q_1517 : (Jvm.Cond.fieldLink "SnowRecorderModel" (104 : Nat) "SnowRecorderModel" "depths" "[I") ∈ AW := AW_m7 77 (by decide +kernel) (by decide +kernel)
theorem q_1519 : (Jvm.Cond.laysFinal "SnowRecorderModel" "SnowRecorderModel" "rows" "[I") ∈ AW := AW_m7 79 (by decide +kernel) (by decide +kernel)
theorem q_1521 : (Jvm.Cond.laysFinal "SnowRecorderModel" "SnowRecorderModel" "steep" "[I") ∈ AW := AW_m7 81 (by decide +kernel) (by decide +kernel)
theorem q_1523 : (Jvm.Cond.laysFinal "SnowRecorderModel" "SnowRecorderModel" "open" "[I") ∈ AW := AW_m7 83 (by decide +kernel) (by decide +kernel)
theorem q_1525 : (Jvm.Cond.laysFinal "SnowRecorderModel" "SnowRecorderModel" "air" "[I") ∈ AW := AW_m7 85 (by decide +kernel) (by decide +kernel)
theorem q_1527 : (Jvm.Cond.laysFinal "SnowRecorderModel" "SnowRecorderModel" "falling" "[I") ∈ AW := AW_m7 87 (by decide +kernel) (by decide +kernel)
theorem q_1529 : (Jvm.Cond.laysFinal "SnowRecorderModel" "SnowRecorderModel" "much" "[I") ∈ AW := AW_m7 89 (by decide +kernel) (by decide +kernel)
theorem q_1531 : (Jvm.Cond.laysFinal "SnowRecorderModel" "SnowRecorderModel" "table" "[I") ∈ AW := AW_m7 91 (by decide +kernel) (by decide +kernel)
theorem q_1533 : (Jvm.Cond.laysFinal "SnowRecorderModel" "SnowRecorderModel" "noteSlope" "[I") ∈ AW := AW_m7 93 (by decide +kernel) (by decide +kernel)
theorem q_1535 : (Jvm.Cond.laysFinal "SnowRecorderModel" "SnowRecorderModel" "noteHours" "[I") ∈ AW := AW_m7 95 (by decide +kernel) (by decide +kernel)
theorem q_1537 : (Jvm.Cond.laysFinal "SnowRecorderModel" "SnowRecorderModel" "noteDepth" "[I") ∈ AW := AW_m7 97 (by decide +kernel) (by decide +kernel)
theorem q_1539 : (Jvm.Cond.laysFinal "SnowRecorderModel" "SnowRecorderModel" "refused" "[I") ∈ AW := AW_m7 99 (by decide +kernel) (by decide +kernel)
theorem q_1541 : (Jvm.Cond.laysFinal "SnowRecorderModel" "SnowRecorderModel" "pits" "[I") ∈ AW := AW_m7 101 (by decide +kernel) (by decide +kernel)
theorem q_1543 : (Jvm.Cond.lays "SnowRecorderModel" "SnowRecorderModel" "thrown" "I") ∈ AW := AW_m7 103 (by decide +kernel) (by decide +kernel)
theorem q_1545 : (Jvm.Cond.lays "SnowRecorderModel" "SnowRecorderModel" "slopes" "I") ∈ AW := AW_m7 105 (by decide +kernel) (by decide +kernel)
theorem q_1547 : (Jvm.Cond.lays "SnowRecorderModel" "SnowRecorderModel" "hourMany" "I") ∈ AW := AW_m7 107 (by decide +kernel) (by decide +kernel)
theorem q_1549 : (Jvm.Cond.lays "SnowRecorderModel" "SnowRecorderModel" "acts" "I") ∈ AW := AW_m7 109 (by decide +kernel) (by decide +kernel)
theorem q_1551 : (Jvm.Cond.lays "SnowRecorderModel" "SnowRecorderModel" "firstAct" "I") ∈ AW := AW_m7 111 (by decide +kernel) (by decide +kernel)
theorem q_1553 : (Jvm.Cond.lays "SnowRecorderModel" "SnowRecorderModel" "notes" "I") ∈ AW := AW_m7 113 (by decide +kernel) (by decide +kernel)
theorem q_1555 : (Jvm.Cond.lays "SnowRecorderModel" "SnowRecorderModel" "imageActs" "I") ∈ AW := AW_m7 115 (by decide +kernel) (by decide +kernel)
theorem q_1557 : (Jvm.Cond.lays "SnowRecorderModel" "SnowRecorderModel" "imageFirst" "I") ∈ AW := AW_m7 117 (by decide +kernel) (by decide +kernel)
theorem q_1559 : (Jvm.Cond.lays "SnowRecorderModel" "SnowRecorderModel" "imageNotes" "I") ∈ AW := AW_m7 119 (by decide +kernel) (by decide +kernel)
theorem q_1561 : (Jvm.Cond.lays "SnowRecorderModel" "SnowRecorderModel" "hasImage" "I") ∈ AW := AW_m7 121 (by decide +kernel) (by decide +kernel)
theorem q_1563 : (Jvm.Cond.laysFinal "SnowRecorderModel" "SnowRecorderModel" "tape" "[I") ∈ AW := AW_m7 123 (by decide +kernel) (by decide +kernel)
theorem q_1565 : (Jvm.Cond.lays "SnowRecorderModel" "SnowRecorderModel" "taped" "I") ∈ AW := AW_m7 125 (by decide +kernel) (by decide +kernel)
theorem q_1567 : (Jvm.Cond.lays "SnowRecorderModel" "SnowRecorderModel" "faultPlace" "I") ∈ AW := AW_m7 127 (by decide +kernel) (by decide +kernel)
theorem q_1569 : (Jvm.Cond.lays "SnowRecorderModel" "SnowRecorderModel" "warmer" "I") ∈ AW := AW_m7 129 (by decide +kernel) (by decide +kernel)
theorem q_1571 : (Jvm.Cond.lays "SnowRecorderModel" "SnowRecorderModel" "without" "I") ∈ AW := AW_m7 131 (by decide +kernel) (by decide +kernel)
theorem q_1573 : (Jvm.Cond.lays "SnowRecorderModel" "SnowRecorderModel" "otherHour" "I") ∈ AW := AW_m7 133 (by decide +kernel) (by decide +kernel)
theorem q_1575 : (Jvm.Cond.lays "SnowRecorderModel" "SnowRecorderModel" "otherMuch" "I") ∈ AW := AW_m7 135 (by decide +kernel) (by decide +kernel)
theorem q_1577 : (Jvm.Cond.lays "SnowRecorderModel" "SnowRecorderModel" "isClear" "Z") ∈ AW := AW_m7 137 (by decide +kernel) (by decide +kernel)
theorem q_1579 : (Jvm.Cond.laysFinal "SnowRecorderModel" "SnowRecorderModel" "temps" "[I") ∈ AW := AW_m7 139 (by decide +kernel) (by decide +kernel)
theorem q_1581 : (Jvm.Cond.laysFinal "SnowRecorderModel" "SnowRecorderModel" "kinds" "[I") ∈ AW := AW_m7 141 (by decide +kernel) (by decide +kernel)
theorem q_1583 : (Jvm.Cond.lays "SnowRecorderModel" "SnowRecorderModel" "next" "I") ∈ AW := AW_m7 143 (by decide +kernel) (by decide +kernel)
theorem q_1585 : (Jvm.Cond.lays "SnowRecorderModel" "SnowRecorderModel" "place" "I") ∈ AW := AW_m7 145 (by decide +kernel) (by decide +kernel)
theorem q_1587 : (Jvm.Cond.lays "SnowRecorderModel" "SnowRecorderModel" "size" "I") ∈ AW := AW_m7 147 (by decide +kernel) (by decide +kernel)
theorem q_1589 : (Jvm.Cond.lays "SnowRecorderModel" "SnowRecorderModel" "sort" "I") ∈ AW := AW_m7 149 (by decide +kernel) (by decide +kernel)
theorem q_1591 : (Jvm.Cond.lays "SnowRecorderModel" "SnowRecorderModel" "value" "I") ∈ AW := AW_m7 151 (by decide +kernel) (by decide +kernel)
theorem q_1593 : (Jvm.Cond.lays "SnowRecorderModel" "SnowRecorderModel" "word" "I") ∈ AW := AW_m7 153 (by decide +kernel) (by decide +kernel)
theorem q_1595 : (Jvm.Cond.lays "SnowRecorderModel" "SnowRecorderModel" "bad" "I") ∈ AW := AW_m7 155 (by decide +kernel) (by decide +kernel)
theorem q_1597 : (Jvm.Cond.laysFinal "SnowRecorderModel" "SnowRecorderModel" "steep1" "[I") ∈ AW := AW_m7 157 (by decide +kernel) (by decide +kernel)
theorem q_1599 : (Jvm.Cond.laysFinal "SnowRecorderModel" "SnowRecorderModel" "open1" "[I") ∈ AW := AW_m7 159 (by decide +kernel) (by decide +kernel)
theorem q_1601 : (Jvm.Cond.laysFinal "SnowRecorderModel" "SnowRecorderModel" "many1" "[I") ∈ AW := AW_m7 161 (by decide +kernel) (by decide +kernel)
theorem q_1603 : (Jvm.Cond.laysFinal "SnowRecorderModel" "SnowRecorderModel" "air1" "[I") ∈ AW := AW_m7 163 (by decide +kernel) (by decide +kernel)
theorem q_1605 : (Jvm.Cond.laysFinal "SnowRecorderModel" "SnowRecorderModel" "falling1" "[I") ∈ AW := AW_m7 165 (by decide +kernel) (by decide +kernel)
theorem q_1607 : (Jvm.Cond.laysFinal "SnowRecorderModel" "SnowRecorderModel" "much1" "[I") ∈ AW := AW_m7 167 (by decide +kernel) (by decide +kernel)
theorem q_1609 : (Jvm.Cond.laysFinal "SnowRecorderModel" "SnowRecorderModel" "table1" "[I") ∈ AW := AW_m7 169 (by decide +kernel) (by decide +kernel)
theorem q_1611 : (Jvm.Cond.laysFinal "SnowRecorderModel" "SnowRecorderModel" "layer1" "[I") ∈ AW := AW_m7 171 (by decide +kernel) (by decide +kernel)
theorem q_1613 : (Jvm.Cond.lays "SnowRecorderModel" "SnowRecorderModel" "slopes1" "I") ∈ AW := AW_m7 173 (by decide +kernel) (by decide +kernel)
theorem q_1615 : (Jvm.Cond.lays "SnowRecorderModel" "SnowRecorderModel" "hours1" "I") ∈ AW := AW_m7 175 (by decide +kernel) (by decide +kernel)
theorem q_1617 : (Jvm.Cond.lays "SnowRecorderModel" "SnowRecorderModel" "names1" "I") ∈ AW := AW_m7 177 (by decide +kernel) (by decide +kernel)
theorem q_1619 : (Jvm.Cond.laysFinal "SnowRecorderModel" "SnowRecorderModel" "line" "[I") ∈ AW := AW_m7 179 (by decide +kernel) (by decide +kernel)
theorem q_1621 : (Jvm.Cond.lays "SnowRecorderModel" "SnowRecorderModel" "lined" "I") ∈ AW := AW_m7 181 (by decide +kernel) (by decide +kernel)
theorem q_1623 : (Jvm.Cond.laysFinal "SnowRecorderModel" "SnowRecorderModel" "oneKinds" "[I") ∈ AW := AW_m7 183 (by decide +kernel) (by decide +kernel)
theorem q_1625 : (Jvm.Cond.laysFinal "SnowRecorderModel" "SnowRecorderModel" "otherKinds" "[I") ∈ AW := AW_m7 185 (by decide +kernel) (by decide +kernel)
theorem q_1627 : (Jvm.Cond.laysFinal "SnowRecorderModel" "SnowRecorderModel" "folded" "[I") ∈ AW := AW_m7 187 (by decide +kernel) (by decide +kernel)
theorem q_1629 : (Jvm.Cond.lays "SnowRecorderModel" "SnowRecorderModel" "ones" "I") ∈ AW := AW_m7 189 (by decide +kernel) (by decide +kernel)
theorem q_1631 : (Jvm.Cond.lays "SnowRecorderModel" "SnowRecorderModel" "others" "I") ∈ AW := AW_m7 191 (by decide +kernel) (by decide +kernel)
theorem q_1633 : (Jvm.Cond.laysFinal "SnowRecorderModel" "SnowRecorderModel" "dayDepth" "[I") ∈ AW := AW_m7 193 (by decide +kernel) (by decide +kernel)
theorem q_1635 : (Jvm.Cond.laysFinal "SnowRecorderModel" "SnowRecorderModel" "depths" "[I") ∈ AW := AW_m7 195 (by decide +kernel) (by decide +kernel)
theorem q_1637 : (Jvm.Cond.lays "SnowRecorderModel" "SnowRecorderModel" "its" "I") ∈ AW := AW_m7 197 (by decide +kernel) (by decide +kernel)
theorem s_39 : Cond.selects "SnowRecorderModel" ({ cls := "SnowRecorderModel", name := "laysTable", desc := "()V" } : Jvm.MethodName) ({ cls := "SnowRecorderModel", name := "laysTable", desc := "()V" } : Jvm.MethodName) ∈ AW := AW_m 39 (by decide +kernel) (by decide +kernel)
theorem hd_yX10_laysTable : yX10_laysTable.cls ≠ "java/lang/invoke/MethodHandle" ∧ yX10_laysTable.cls ≠ "java/lang/invoke/VarHandle" ∧ (parseMethodDescriptor yX10_laysTable.desc).map (fun d => d.parameters.length) = some 0 := by decide +kernel
theorem mv_yX10_laysTable : zWv yX10_laysTable cX10_laysTable 2 none := ⟨q_1457, s_39, q_15, q_1458⟩
theorem inA_X10 : ∀ w ∈ u_ws RX10 TX10 60, w ∈ AW := show ∀ w ∈ ([Cond.laysFinal "SnowRecorderModel" "SnowRecorderModel" "rows" "[I", Cond.laysFinal "SnowRecorderModel" "SnowRecorderModel" "steep" "[I", Cond.laysFinal "SnowRecorderModel" "SnowRecorderModel" "open" "[I", Cond.laysFinal "SnowRecorderModel" "SnowRecorderModel" "air" "[I", Cond.laysFinal "SnowRecorderModel" "SnowRecorderModel" "falling" "[I", Cond.laysFinal "SnowRecorderModel" "SnowRecorderModel" "much" "[I", Cond.laysFinal "SnowRecorderModel" "SnowRecorderModel" "table" "[I", Cond.laysFinal "SnowRecorderModel" "SnowRecorderModel" "noteSlope" "[I", Cond.laysFinal "SnowRecorderModel" "SnowRecorderModel" "noteHours" "[I", Cond.laysFinal "SnowRecorderModel" "SnowRecorderModel" "noteDepth" "[I", Cond.laysFinal "SnowRecorderModel" "SnowRecorderModel" "refused" "[I", Cond.laysFinal "SnowRecorderModel" "SnowRecorderModel" "pits" "[I", Cond.lays "SnowRecorderModel" "SnowRecorderModel" "thrown" "I", Cond.lays "SnowRecorderModel" "SnowRecorderModel" "slopes" "I", Cond.lays "SnowRecorderModel" "SnowRecorderModel" "hourMany" "I", Cond.lays "SnowRecorderModel" "SnowRecorderModel" "acts" "I", Cond.lays "SnowRecorderModel" "SnowRecorderModel" "firstAct" "I", Cond.lays "SnowRecorderModel" "SnowRecorderModel" "notes" "I", Cond.lays "SnowRecorderModel" "SnowRecorderModel" "imageActs" "I", Cond.lays "SnowRecorderModel" "SnowRecorderModel" "imageFirst" "I", Cond.lays "SnowRecorderModel" "SnowRecorderModel" "imageNotes" "I", Cond.lays "SnowRecorderModel" "SnowRecorderModel" "hasImage" "I", Cond.laysFinal "SnowRecorderModel" "SnowRecorderModel" "tape" "[I", Cond.lays "SnowRecorderModel" "SnowRecorderModel" "taped" "I", Cond.lays "SnowRecorderModel" "SnowRecorderModel" "faultPlace" "I", Cond.lays "SnowRecorderModel" "SnowRecorderModel" "warmer" "I", Cond.lays "SnowRecorderModel" "SnowRecorderModel" "without" "I", Cond.lays "SnowRecorderModel" "SnowRecorderModel" "otherHour" "I", Cond.lays "SnowRecorderModel" "SnowRecorderModel" "otherMuch" "I", Cond.lays "SnowRecorderModel" "SnowRecorderModel" "isClear" "Z", Cond.laysFinal "SnowRecorderModel" "SnowRecorderModel" "temps" "[I", Cond.laysFinal "SnowRecorderModel" "SnowRecorderModel" "kinds" "[I", Cond.lays "SnowRecorderModel" "SnowRecorderModel" "next" "I", Cond.lays "SnowRecorderModel" "SnowRecorderModel" "place" "I", Cond.lays "SnowRecorderModel" "SnowRecorderModel" "size" "I", Cond.lays "SnowRecorderModel" "SnowRecorderModel" "sort" "I", Cond.lays "SnowRecorderModel" "SnowRecorderModel" "value" "I", Cond.lays "SnowRecorderModel" "SnowRecorderModel" "word" "I", Cond.lays "SnowRecorderModel" "SnowRecorderModel" "bad" "I", Cond.laysFinal "SnowRecorderModel" "SnowRecorderModel" "steep1" "[I", Cond.laysFinal "SnowRecorderModel" "SnowRecorderModel" "open1" "[I", Cond.laysFinal "SnowRecorderModel" "SnowRecorderModel" "many1" "[I", Cond.laysFinal "SnowRecorderModel" "SnowRecorderModel" "air1" "[I", Cond.laysFinal "SnowRecorderModel" "SnowRecorderModel" "falling1" "[I", Cond.laysFinal "SnowRecorderModel" "SnowRecorderModel" "much1" "[I", Cond.laysFinal "SnowRecorderModel" "SnowRecorderModel" "table1" "[I", Cond.laysFinal "SnowRecorderModel" "SnowRecorderModel" "layer1" "[I", Cond.lays "SnowRecorderModel" "SnowRecorderModel" "slopes1" "I", Cond.lays "SnowRecorderModel" "SnowRecorderModel" "hours1" "I", Cond.lays "SnowRecorderModel" "SnowRecorderModel" "names1" "I", Cond.laysFinal "SnowRecorderModel" "SnowRecorderModel" "line" "[I", Cond.lays "SnowRecorderModel" "SnowRecorderModel" "lined" "I", Cond.laysFinal "SnowRecorderModel" "SnowRecorderModel" "oneKinds" "[I", Cond.laysFinal "SnowRecorderModel" "SnowRecorderModel" "otherKinds" "[I", Cond.laysFinal "SnowRecorderModel" "SnowRecorderModel" "folded" "[I", Cond.lays "SnowRecorderModel" "SnowRecorderModel" "ones" "I", Cond.lays "SnowRecorderModel" "SnowRecorderModel" "others" "I", Cond.laysFinal "SnowRecorderModel" "SnowRecorderModel" "dayDepth" "[I", Cond.laysFinal "SnowRecorderModel" "SnowRecorderModel" "depths" "[I", Cond.lays "SnowRecorderModel" "SnowRecorderModel" "its" "I"] : List Cond), w ∈ AW from List.forall_mem_cons.mpr ⟨q_1519, List.forall_mem_cons.mpr ⟨q_1521, List.forall_mem_cons.mpr ⟨q_1523, List.forall_mem_cons.mpr ⟨q_1525, List.forall_mem_cons.mpr ⟨q_1527, List.forall_mem_cons.mpr ⟨q_1529, List.forall_mem_cons.mpr ⟨q_1531, List.forall_mem_cons.mpr ⟨q_1533, List.forall_mem_cons.mpr ⟨q_1535, List.forall_mem_cons.mpr ⟨q_1537, List.forall_mem_cons.mpr ⟨q_1539, List.forall_mem_cons.mpr ⟨q_1541, List.forall_mem_cons.mpr ⟨q_1543, List.forall_mem_cons.mpr ⟨q_1545, List.forall_mem_cons.mpr ⟨q_1547, List.forall_mem_cons.mpr ⟨q_1549, List.forall_mem_cons.mpr ⟨q_1551, List.forall_mem_cons.mpr ⟨q_1553, List.forall_mem_cons.mpr ⟨q_1555, List.forall_mem_cons.mpr ⟨q_1557, List.forall_mem_cons.mpr ⟨q_1559, List.forall_mem_cons.mpr ⟨q_1561, List.forall_mem_cons.mpr ⟨q_1563, List.forall_mem_cons.mpr ⟨q_1565, List.forall_mem_cons.mpr ⟨q_1567, List.forall_mem_cons.mpr ⟨q_1569, List.forall_mem_cons.mpr ⟨q_1571, List.forall_mem_cons.mpr ⟨q_1573, List.forall_mem_cons.mpr ⟨q_1575, List.forall_mem_cons.mpr ⟨q_1577, List.forall_mem_cons.mpr ⟨q_1579, List.forall_mem_cons.mpr ⟨q_1581, List.forall_mem_cons.mpr ⟨q_1583, List.forall_mem_cons.mpr ⟨q_1585, List.forall_mem_cons.mpr ⟨q_1587, List.forall_mem_cons.mpr ⟨q_1589, List.forall_mem_cons.mpr ⟨q_1591, List.forall_mem_cons.mpr ⟨q_1593, List.forall_mem_cons.mpr ⟨q_1595, List.forall_mem_cons.mpr ⟨q_1597, List.forall_mem_cons.mpr ⟨q_1599, List.forall_mem_cons.mpr ⟨q_1601, List.forall_mem_cons.mpr ⟨q_1603, List.forall_mem_cons.mpr ⟨q_1605, List.forall_mem_cons.mpr ⟨q_1607, List.forall_mem_cons.mpr ⟨q_1609, List.forall_mem_cons.mpr ⟨q_1611, List.forall_mem_cons.mpr ⟨q_1613, List.forall_mem_cons.mpr ⟨q_1615, List.forall_mem_cons.mpr ⟨q_1617, List.forall_mem_cons.mpr ⟨q_1619, List.forall_mem_cons.mpr ⟨q_1621, List.forall_mem_cons.mpr ⟨q_1623, List.forall_mem_cons.mpr ⟨q_1625, List.forall_mem_cons.mpr ⟨q_1627, List.forall_mem_cons.mpr ⟨q_1629, List.forall_mem_cons.mpr ⟨q_1631, List.forall_mem_cons.mpr ⟨q_1633, List.forall_mem_cons.mpr ⟨q_1635, List.forall_mem_cons.mpr ⟨q_1637, fun _ h => absurd h List.not_mem_nil⟩⟩⟩⟩⟩⟩⟩⟩⟩⟩⟩⟩⟩⟩⟩⟩⟩⟩⟩⟩⟩⟩⟩⟩⟩⟩⟩⟩⟩⟩⟩⟩⟩⟩⟩⟩⟩⟩⟩⟩⟩⟩⟩⟩⟩⟩⟩⟩⟩⟩⟩⟩⟩⟩⟩⟩⟩⟩⟩⟩
end
