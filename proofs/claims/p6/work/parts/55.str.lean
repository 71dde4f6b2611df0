theorem zC.S {p : Program} {s : State} {m : MethodId} {args : Array Value} {c : Code} {cc : ByteArray} {nL : Nat} {own : String} {D : va_G} {A : Nat → Prop} {cs : Nat → ClassId} {tt : Nat} (C : zC p s m args c cc nL own D A cs tt) : zS A cs s := C.2.2.2.2.2.2.2.2.2.2.2.2.2
theorem SKL_len : ∀ q ∈ SKL, 1 ≤ q.2.2.2.2.length ∧ q.2.2.2.2.length ≤ 6 := by decide
theorem ldcw_str {p : Program} {l : Launch} {e : Env} {R : Room} {s : State} {m : MethodId} {args : Array Value} {below : List Frame} {meth : Method} {c : Code} {T : State} {locs : List Loc} {cells slots : Nat} (X : Stand p l e R s m args below meth c T locs cells slots) (hexec : p.tables.exec = Jvm.exec) {own text : String} {index a : Nat} (hown : s.vm.findClass own = some m.cls) (hconst : (Cond.stringRef own index text).before args s = true) (hev : (Term.string own index).eval args s none [] s = some (.ref a)) {g : JFrame} (hg : g.method = m) (hdg : decode c.code g.pc = .ok (.ldc_w index, 3)) : ∀ target, Steps p.tables e below (T.setTop { g with pc := g.pc + 3, stack := .ref a :: g.stack }) target → Steps p.tables e below (T.setTop g) target := by
  obtain ⟨k, cf, i, a', hk, hcf, hcp, -, hr, hev'⟩ := Cond.stringRef_spec hown hconst
  cases hev.symm.trans hev'
  obtain ⟨k', hk', he⟩ := X.warmed.alike.2.2 _ _ hk
  have hr' : k'.resolved[index]? = some (some (.string a)) := by
    rcases X.warmed.entry hk hk' index with h | ⟨h, -⟩
    · rw [h]; exact hr
    · rw [hr] at h; cases h
  intro target hrest
  subst hg
  jvm_step X.here [hexec, hdg, ldc_w.wp_string (e := e) (s := T) (f := g) X.here.top hk' (by rw [he]; exact hcf) hcp hr']
  exact hrest
section ZSTR
variable {p : Program} {l : Launch} {e : Env} {R : Room} {s : State} {m : MethodId} {args : Array Value} {below : List Frame} {meth : Method} {c : Code} {Q : State → Prop} {D : va_G} {A : Nat → Prop} {cs : Nat → ClassId} {tt : Nat} {cc : ByteArray} {nL : Nat} {own : String} {N : Nat} {ad : Nat → Nat} {g : Nat → va_E} {k n pc : Nat} {lv lv' : List (Nat × Value)} {rest : List Value} {Qr : zR} {st : List Value} {q : String × Nat × String × Nat × List Int32}
theorem z_ldcS (C : zC p s m args c cc nL own D A cs tt) (hq : q ∈ SKL) {idx : Nat} (ho : q.1 = own) (hi : q.2.1 = idx) (hdg : decode cc pc = .ok (.ldc idx, 2)) (kk : zV p l e R s m args below meth c Q D A nL N ad g k n (pc + 2) (lv) (.ref (cs (100 + q.2.2.2.1)) :: rest)) : zV p l e R s m args below meth c Q D A nL N ad g k n (pc) (lv) (rest) := fun H locs ls hP hD hS hl => by
  subst ho; subst hi
  exact va_ldcS C.1 C.2.1 C.2.2.2.1 (C.S.1 q hq).1 hdg (kk H locs ls hP hD hS hl)
theorem z_ldcwS (C : zC p s m args c cc nL own D A cs tt) (hq : q ∈ SKL) {idx : Nat} (ho : q.1 = own) (hi : q.2.1 = idx) (hdg : decode cc pc = .ok (.ldc_w idx, 3)) (kk : zV p l e R s m args below meth c Q D A nL N ad g k n (pc + 3) (lv) (.ref (cs (100 + q.2.2.2.1)) :: rest)) : zV p l e R s m args below meth c Q D A nL N ad g k n (pc) (lv) (rest) := fun H locs ls hP hD hS hl => by
  subst ho; subst hi
  intro T hT X
  obtain ⟨t, a1, b1⟩ := kk H locs ls hP hD hS hl T hT X
  have hz := (C.S.1 q hq).1
  exact ⟨t, ldcw_str X C.1 C.2.2.2.1 (text := q.2.2.1) hz.1 hz.2 (g := F0 m pc ls rest) rfl (by rw [C.2.1]; exact hdg) t a1, b1⟩
theorem z_sval (C : zC p s m args c cc nL own D A cs tt) (hq : q ∈ SKL) {idx : Nat} (hlk : Cond.fieldLink own idx "java/lang/String" "value" "[B" ∈ AW) (hdg : decode cc pc = .ok (.getfield idx, 3)) (kk : zV p l e R s m args below meth c Q D A nL N ad g k n (pc + 3) (lv) (.ref (cs (200 + q.2.2.2.1)) :: rest)) : zV p l e R s m args below meth c Q D A nL N ad g k n (pc) (lv) (.ref (cs (100 + q.2.2.2.1)) :: rest) := fun H locs ls hP hD hS hl => vk_getf C.1 C.2.1 (C.S.1 q hq).2.2.2.1 hS C.2.2.2.1 (C.2.2.2.2.1 _ hlk) (fun _ h => h) hdg (kk H locs ls hP hD hS hl)
theorem z_scod (C : zC p s m args c cc nL own D A cs tt) (hq : q ∈ SKL) {idx : Nat} (hlk : Cond.fieldLink own idx "java/lang/String" "coder" "B" ∈ AW) (hdg : decode cc pc = .ok (.getfield idx, 3)) (kk : zV p l e R s m args below meth c Q D A nL N ad g k n (pc + 3) (lv) (.int (zI 0) :: rest)) : zV p l e R s m args below meth c Q D A nL N ad g k n (pc) (lv) (.ref (cs (100 + q.2.2.2.1)) :: rest) := fun H locs ls hP hD hS hl => vk_getf C.1 C.2.1 (C.S.1 q hq).2.2.1 hS C.2.2.2.1 (C.2.2.2.2.1 _ hlk) (fun _ h => h) hdg (kk H locs ls hP hD hS hl)
theorem z_salen (C : zC p s m args c cc nL own D A cs tt) (hq : q ∈ SKL) (hdg : decode cc pc = .ok (.arraylength, 1)) (kk : zV p l e R s m args below meth c Q D A nL N ad g k n (pc + 1) (lv) (.int (zI (q.2.2.2.2.length : Int)) :: rest)) : zV p l e R s m args below meth c Q D A nL N ad g k n (pc) (lv) (.ref (cs (200 + q.2.2.2.1)) :: rest) := fun H locs ls hP hD hS hl => va_tlen C.1 C.2.1 (C.S.1 q hq).2.2.2.2 hS (zI_nat _) hdg (kk H locs ls hP hD hS hl)
theorem z_sbald (C : zC p s m args c cc nL own D A cs tt) (hq : q ∈ SKL) (j : Nat) {z y : Int} (hz : z = (j : Int)) (hj : j < q.2.2.2.2.length) (hv : q.2.2.2.2.getD j 0 = zI y) (hdg : decode cc pc = .ok (.baload, 1)) (kk : zV p l e R s m args below meth c Q D A nL N ad g k n (pc + 1) (lv) (.int (zI y) :: rest)) : zV p l e R s m args below meth c Q D A nL N ad g k n (pc) (lv) (.int (zI z) :: .ref (cs (200 + q.2.2.2.1)) :: rest) := fun H locs ls hP hD hS hl => by
  subst hz
  have hL := SKL_len q hq
  exact va_tb C.1 C.2.1 (C.S.1 q hq).2.2.2.2 hS (zI_in hj (by omega)) (show Value.int (q.2.2.2.2.getD (zI (j : Int)).toNatClampNeg 0) = .int (zI y) by rw [zI_clN (by omega), hv]) hdg (kk H locs ls hP hD hS hl)
theorem z_gsQ (C : zC p s m args c cc nL own D A cs tt) {idx : Nat} (hlk : Cond.fieldLink own idx "jdk/internal/util/Preconditions" "SIOOBE_FORMATTER" "Ljava/util/function/BiFunction;" ∈ AW) (hdg : decode cc pc = .ok (.getstatic idx, 3)) (kn : zV p l e R s m args below meth c Q D A nL N ad g k n (pc + 3) (lv) (.null :: rest)) (kr : ∀ t : Nat, zV p l e R s m args below meth c Q D A nL N ad g k n (pc + 3) (lv) (.ref t :: rest)) : zV p l e R s m args below meth c Q D A nL N ad g k n (pc) (lv) (rest) := fun H locs ls hP hD hS hl => by
  rcases C.S.2.2 with h | ⟨t, h⟩
  · exact va_gets C.1 C.2.1 h hS C.2.2.2.1 (C.2.2.2.2.1 _ hlk) (fun _ h => h) hdg (kn H locs ls hP hD hS hl)
  · exact va_gets C.1 C.2.1 h hS C.2.2.2.1 (C.2.2.2.2.1 _ hlk) (fun _ h => h) hdg (kr t H locs ls hP hD hS hl)
theorem z_cVs (C : zC p s m args c cc nL own D A cs tt) {y : MethodName} {cb : ByteArray} {mL index : Nat} {ret : Option FieldType} {rm : Room} {As : List Value} (hq : q ∈ SKL) (hM : zM l y cb mL ret rm D A cs tt N ad g (.ref (cs (100 + q.2.2.2.1)) :: As) Qr) (hyc : y.cls = "java/lang/String") (hw : zWv y cb mL ret) (hlk : Cond.methodLink own index y ∈ AW) (hd : y.cls ≠ "java/lang/invoke/MethodHandle" ∧ y.cls ≠ "java/lang/invoke/VarHandle" ∧ (parseMethodDescriptor y.desc).map (fun d => d.parameters.length) = some As.length) (hR : rm.frames + 1 ≤ R.frames ∧ 8 + (mL + 11) + rm.locals ≤ R.locals) (hrest : (rest.map fun v => v.category).sum ≤ 8) (hf : k + rm.cells ≤ R.cells ∧ n + rm.slots ≤ R.slots) (hdg : decode cc pc = .ok (.invokevirtual index, 3)) (hst : st = As.reverse ++ .ref (cs (100 + q.2.2.2.1)) :: rest)
    (kk : ∀ (r : Option Value) (N' : Nat) (ad' : Nat → Nat) (g' : Nat → va_E), Qr r N' ad' g' → zV p l e R s m args below meth c Q D A nL N' ad' g' (k + rm.cells) (n + rm.slots) (pc + 3) (lv) (r.toList ++ rest)) : zV p l e R s m args below meth c Q D A nL N ad g k n (pc) (lv) (st) := fun H locs ls hP hD hS hl => by
  have hG : GoodIn AW (wsV own index y.cls y (Cond.code y cb mL ret :: AW)) := AW_in (fun w h => by
    rcases List.mem_append.mp h with h | h
    · rcases List.mem_cons.mp h with rfl | h
      · exact hlk
      · rcases List.mem_cons.mp h with rfl | h
        · exact hw.1
        · rcases List.mem_cons.mp h with rfl | h
          · exact hw.2.1
          · rcases List.mem_cons.mp h with rfl | h
            · exact hw.2.2.1
            · exact absurd h List.not_mem_nil
    · rcases List.mem_cons.mp h with rfl | h
      · exact hw.2.2.2
      · exact h)
  have hrc : ∃ cell : Cell, H[cs (100 + q.2.2.2.1)]? = some cell ∧ cell.vm.isStatics = false ∧ s.vm.findClass y.cls = some cell.cls := by
    obtain ⟨cell, h1, h2, h3, h4⟩ := (C.S.1 q hq).2.1.kept hS.2.1
    exact ⟨cell, h1, h2, by rw [hyc]; exact h3⟩
  exact z_run (va_runV (As := As) (rest := rest) ⟨C.1, C.2.1, C.2.2.1, C.2.2.2.1, C.2.2.2.2.1⟩ hM (cwV As.length C.2.2.2.2.1 hG rfl rfl rfl ⟨rfl, hd⟩ hR) ⟨zPre.blind, hrc, (z_preS C hP hD hS).2⟩ rfl rfl hl.1 hst (lv_room hrest) hdg hf) hS hl kk
end ZSTR

theorem skm0 : (("SnowRecorder$TextReader", 61, "slope", 0, [115, 108, 111, 112, 101]) : String × Nat × String × Nat × List Int32) ∈ SKL := List.mem_of_getElem? (i := 0) rfl
theorem skm1 : (("SnowRecorder$TextReader", 71, "layer", 1, [108, 97, 121, 101, 114]) : String × Nat × String × Nat × List Int32) ∈ SKL := List.mem_of_getElem? (i := 1) rfl
theorem skm2 : (("SnowRecorder", 495, "powder", 2, [112, 111, 119, 100, 101, 114]) : String × Nat × String × Nat × List Int32) ∈ SKL := List.mem_of_getElem? (i := 2) rfl
theorem skm3 : (("SnowRecorder", 497, "grains", 3, [103, 114, 97, 105, 110, 115]) : String × Nat × String × Nat × List Int32) ∈ SKL := List.mem_of_getElem? (i := 3) rfl
theorem skm4 : (("SnowRecorder", 499, "facets", 4, [102, 97, 99, 101, 116, 115]) : String × Nat × String × Nat × List Int32) ∈ SKL := List.mem_of_getElem? (i := 4) rfl
theorem skm5 : (("SnowRecorder", 501, "crust", 5, [99, 114, 117, 115, 116]) : String × Nat × String × Nat × List Int32) ∈ SKL := List.mem_of_getElem? (i := 5) rfl
theorem skm6 : (("SnowRecorder", 503, "hoar", 6, [104, 111, 97, 114]) : String × Nat × String × Nat × List Int32) ∈ SKL := List.mem_of_getElem? (i := 6) rfl
theorem skm7 : (("SnowRecorder$TextReader", 76, "hour", 7, [104, 111, 117, 114]) : String × Nat × String × Nat × List Int32) ∈ SKL := List.mem_of_getElem? (i := 7) rfl
theorem skm8 : (("SnowRecorder$TextReader", 149, "snow", 8, [115, 110, 111, 119]) : String × Nat × String × Nat × List Int32) ∈ SKL := List.mem_of_getElem? (i := 8) rfl
theorem skm9 : (("SnowRecorder$TextReader", 151, "rain", 9, [114, 97, 105, 110]) : String × Nat × String × Nat × List Int32) ∈ SKL := List.mem_of_getElem? (i := 9) rfl
theorem skm10 : (("SnowRecorder$TextReader", 153, "hoar", 10, [104, 111, 97, 114]) : String × Nat × String × Nat × List Int32) ∈ SKL := List.mem_of_getElem? (i := 10) rfl
theorem skm11 : (("SnowRecorder$TextReader", 81, "strong", 11, [115, 116, 114, 111, 110, 103]) : String × Nat × String × Nat × List Int32) ∈ SKL := List.mem_of_getElem? (i := 11) rfl
theorem skm12 : (("SnowRecorder$TextReader", 87, "holds", 12, [104, 111, 108, 100, 115]) : String × Nat × String × Nat × List Int32) ∈ SKL := List.mem_of_getElem? (i := 12) rfl
theorem skm13 : (("SnowRecorder$TextReader", 89, "stiff", 13, [115, 116, 105, 102, 102]) : String × Nat × String × Nat × List Int32) ∈ SKL := List.mem_of_getElem? (i := 13) rfl
theorem skm14 : (("SnowRecorder", 487, " of ", 14, [32, 111, 102, 32]) : String × Nat × String × Nat × List Int32) ∈ SKL := List.mem_of_getElem? (i := 14) rfl
theorem skm15 : (("SnowRecorder", 489, " wet ", 15, [32, 119, 101, 116, 32]) : String × Nat × String × Nat × List Int32) ∈ SKL := List.mem_of_getElem? (i := 15) rfl
theorem skm16 : (("SnowRecorder", 491, " in ", 16, [32, 105, 110, 32]) : String × Nat × String × Nat × List Int32) ∈ SKL := List.mem_of_getElem? (i := 16) rfl
theorem skm17 : (("SnowRecorder", 493, " at ", 17, [32, 97, 116, 32]) : String × Nat × String × Nat × List Int32) ∈ SKL := List.mem_of_getElem? (i := 17) rfl
set_option maxRecDepth 100000 in
set_option maxHeartbeats 4000000 in
theorem c_coder (l : Launch) (D : va_G) (A : Nat → Prop) (cs : Nat → ClassId) (tt : Nat) (N : Nat) (ad : Nat → Nat) (g : Nat → va_E) (q : String × Nat × String × Nat × List Int32) (hq : q ∈ SKL) : zM l yJ0_coder_7d493 cJ0_coder_7d493 1 (some .byte) ({ frames := 1, cells := 0, slots := 0, locals := 60 } : Room) D A cs tt N ad g [.ref (cs (100 + q.2.2.2.1))] (rI0 N ad fun r g' => r = 0 ∧ g = g') := by
  have hqL := SKL_len q hq
  refine z_of (by decide) (Nat.le_of_ble_eq_true rfl) ?_
  intro p e s m below meth c C hr hlk hnm
  refine z_lv (lv' := [(0, .ref (cs (100 + q.2.2.2.1)))]) [0] rfl ?_
  refine z_getZ C q_766 dJ0_coder_7d493_0 ?_
  refine z_if_eq (tgt := 13) C dJ0_coder_7d493_3 (by decide) (by omega) (fun h => absurd h (by omega)) (fun _ => ?_)
  refine z_aload_n C 0 dJ0_coder_7d493_6 rfl ?_
  refine z_scod C hq q_1167 dJ0_coder_7d493_7 ?_
  refine z_goto (tgt := 14) C dJ0_coder_7d493_10 (by decide) ?_
  exact z_zret C hr hlk dJ0_coder_7d493_14 (by decide) (by decide) (by decide) ⟨0, rfl, rfl, rfl, rfl, rfl⟩

set_option maxRecDepth 100000 in
set_option maxHeartbeats 4000000 in
theorem c_isLatin1 (l : Launch) (D : va_G) (A : Nat → Prop) (cs : Nat → ClassId) (tt : Nat) (N : Nat) (ad : Nat → Nat) (g : Nat → va_E) (q : String × Nat × String × Nat × List Int32) (hq : q ∈ SKL) : zM l yJ0_isLatin1_aae02 cJ0_isLatin1_aae02 1 (some .boolean) ({ frames := 1, cells := 0, slots := 0, locals := 60 } : Room) D A cs tt N ad g [.ref (cs (100 + q.2.2.2.1))] (rI0 N ad fun r g' => r = 1 ∧ g = g') := by
  have hqL := SKL_len q hq
  refine z_of (by decide) (Nat.le_of_ble_eq_true rfl) ?_
  intro p e s m below meth c C hr hlk hnm
  refine z_lv (lv' := [(0, .ref (cs (100 + q.2.2.2.1)))]) [0] rfl ?_
  refine z_getZ C q_766 dJ0_isLatin1_aae02_0 ?_
  refine z_if_eq (tgt := 17) C dJ0_isLatin1_aae02_3 (by decide) (by omega) (fun h => absurd h (by omega)) (fun _ => ?_)
  refine z_aload_n C 0 dJ0_isLatin1_aae02_6 rfl ?_
  refine z_scod C hq q_1167 dJ0_isLatin1_aae02_7 ?_
  refine z_if_ne (tgt := 17) C dJ0_isLatin1_aae02_10 (by decide) (by omega) (fun h => absurd h (by omega)) (fun _ => ?_)
  refine z_iconst (z := 1) C dJ0_isLatin1_aae02_13 rfl ?_
  refine z_goto (tgt := 18) C dJ0_isLatin1_aae02_14 (by decide) ?_
  exact z_zret C hr hlk dJ0_isLatin1_aae02_18 (by decide) (by decide) (by decide) ⟨1, rfl, rfl, rfl, rfl, rfl⟩

theorem c16 {x : Int} (h : 0 ≤ x ∧ x ≤ 65535) : (zI x).toUInt32.toUInt16.toUInt32.toInt32 = zI x := by
  obtain ⟨n, rfl⟩ := Int.eq_ofNat_of_zero_le h.1
  rw [← zI_nat, ← Int32.toBitVec_inj]
  apply BitVec.eq_of_toNat_eq
  simp
  omega
theorem m16 {x : Int} (h : 0 ≤ x ∧ x ≤ 65535) : ((zI x).toUInt32 % 65536).toInt32 = zI x := by
  obtain ⟨n, rfl⟩ := Int.eq_ofNat_of_zero_le h.1
  rw [← zI_nat, ← Int32.toBitVec_inj]
  apply BitVec.eq_of_toNat_eq
  simp
  omega
theorem nc16 {x : Int} (h : 0 ≤ x ∧ x ≤ 65535) : narrow .char (.int (zI x)) = .int (zI x) := congrArg Value.int (c16 h)
theorem shr0 (x : Int) : zI x >>> (zI 0 &&& 31) = zI x := by simp [show zI 0 = (0 : Int32) from rfl]
set_option maxRecDepth 100000 in
set_option maxHeartbeats 4000000 in
theorem c_slen (l : Launch) (D : va_G) (A : Nat → Prop) (cs : Nat → ClassId) (tt : Nat) (N : Nat) (ad : Nat → Nat) (g : Nat → va_E) (q : String × Nat × String × Nat × List Int32) (hq : q ∈ SKL) : zM l yJ0_length_8abf5 cJ0_length_8abf5 1 (some .int) ({ frames := 2, cells := 0, slots := 0, locals := 120 } : Room) D A cs tt N ad g [.ref (cs (100 + q.2.2.2.1))] (rI0 N ad fun r g' => r = (q.2.2.2.2.length : Int) ∧ g = g') := by
  have hqL := SKL_len q hq
  refine z_of (by decide) (Nat.le_of_ble_eq_true rfl) ?_
  intro p e s m below meth c C hr hlk hnm
  refine z_lv (lv' := [(0, .ref (cs (100 + q.2.2.2.1)))]) [0] rfl ?_
  refine z_aload_n C 0 dJ0_length_8abf5_0 rfl ?_
  refine z_sval C hq q_1166 dJ0_length_8abf5_1 ?_
  refine z_salen C hq dJ0_length_8abf5_4 ?_
  refine z_aload_n C 0 dJ0_length_8abf5_5 rfl ?_
  refine z_cVs (As := []) (rest := [.int (zI ((q.2.2.2.2.length : Int)))]) C hq (c_coder l D A cs tt N ad _ q hq) rfl mv_yJ0_coder_7d493 q_762 hd_yJ0_coder_7d493 (by decide) (Nat.le_of_ble_eq_true rfl) (by decide) dJ0_length_8abf5_6 rfl (kI0 fun vy1 gvy1 hvy1 => ?_)
  obtain ⟨rfl, rfl⟩ := hvy1
  refine z_ishr (z := (q.2.2.2.2.length : Int)) C dJ0_length_8abf5_9 (shr0 _) ?_
  exact z_iret C hr hlk dJ0_length_8abf5_10 (by decide) (by decide) ⟨(q.2.2.2.2.length : Int), rfl, rfl, rfl, rfl, rfl⟩

set_option maxRecDepth 100000 in
set_option maxHeartbeats 4000000 in
theorem c_ckI_n (l : Launch) (D : va_G) (A : Nat → Prop) (cs : Nat → ClassId) (tt : Nat) (N : Nat) (ad : Nat → Nat) (g : Nat → va_E) (z n9 : Int) (hz : 0 ≤ z ∧ z < n9 ∧ n9 ≤ 2147483647) : zM l yJ3_checkIndex_8e157 cJ3_checkIndex_8e157 3 (some .int) ({ frames := 1, cells := 0, slots := 0, locals := 60 } : Room) D A cs tt N ad g [.int (zI (z)), .int (zI (n9)), .null] (rI0 N ad fun r g' => r = z ∧ g = g') := by
  refine z_of (by decide) (Nat.le_of_ble_eq_true rfl) ?_
  intro p e s m below meth c C hr hlk hnm
  refine z_lv (lv' := [(0, .int (zI (z))), (1, .int (zI (n9))), (2, .null)]) [0, 1, 2] rfl ?_
  refine z_iload_n C 0 dJ3_checkIndex_8e157_0 rfl ?_
  refine z_if_lt (tgt := 9) C dJ3_checkIndex_8e157_1 (by decide) (by omega) (fun h => absurd h (by omega)) (fun _ => ?_)
  refine z_iload_n C 0 dJ3_checkIndex_8e157_4 rfl ?_
  refine z_iload_n C 1 dJ3_checkIndex_8e157_5 rfl ?_
  refine z_icmp_lt (tgt := 16) C dJ3_checkIndex_8e157_6 (by decide) (by omega) (by omega) (fun _ => ?_) (fun h => absurd h (by omega))
  refine z_iload_n C 0 dJ3_checkIndex_8e157_16 rfl ?_
  exact z_iret C hr hlk dJ3_checkIndex_8e157_17 (by decide) (by decide) ⟨z, rfl, rfl, rfl, rfl, rfl⟩

set_option maxRecDepth 100000 in
set_option maxHeartbeats 4000000 in
theorem c_ckI_r (l : Launch) (D : va_G) (A : Nat → Prop) (cs : Nat → ClassId) (tt : Nat) (N : Nat) (ad : Nat → Nat) (g : Nat → va_E) (z n9 : Int) (hz : 0 ≤ z ∧ z < n9 ∧ n9 ≤ 2147483647) (t9 : Nat) : zM l yJ3_checkIndex_8e157 cJ3_checkIndex_8e157 3 (some .int) ({ frames := 1, cells := 0, slots := 0, locals := 60 } : Room) D A cs tt N ad g [.int (zI (z)), .int (zI (n9)), .ref t9] (rI0 N ad fun r g' => r = z ∧ g = g') := by
  refine z_of (by decide) (Nat.le_of_ble_eq_true rfl) ?_
  intro p e s m below meth c C hr hlk hnm
  refine z_lv (lv' := [(0, .int (zI (z))), (1, .int (zI (n9))), (2, .ref t9)]) [0, 1, 2] rfl ?_
  refine z_iload_n C 0 dJ3_checkIndex_8e157_0 rfl ?_
  refine z_if_lt (tgt := 9) C dJ3_checkIndex_8e157_1 (by decide) (by omega) (fun h => absurd h (by omega)) (fun _ => ?_)
  refine z_iload_n C 0 dJ3_checkIndex_8e157_4 rfl ?_
  refine z_iload_n C 1 dJ3_checkIndex_8e157_5 rfl ?_
  refine z_icmp_lt (tgt := 16) C dJ3_checkIndex_8e157_6 (by decide) (by omega) (by omega) (fun _ => ?_) (fun h => absurd h (by omega))
  refine z_iload_n C 0 dJ3_checkIndex_8e157_16 rfl ?_
  exact z_iret C hr hlk dJ3_checkIndex_8e157_17 (by decide) (by decide) ⟨z, rfl, rfl, rfl, rfl, rfl⟩

set_option maxRecDepth 100000 in
set_option maxHeartbeats 4000000 in
theorem c_ckS (l : Launch) (D : va_G) (A : Nat → Prop) (cs : Nat → ClassId) (tt : Nat) (N : Nat) (ad : Nat → Nat) (g : Nat → va_E) (z n9 : Int) (hz : 0 ≤ z ∧ z < n9 ∧ n9 ≤ 2147483647) : zM l yJ0_checkIndex_df160 cJ0_checkIndex_df160 2 none ({ frames := 2, cells := 0, slots := 0, locals := 120 } : Room) D A cs tt N ad g [.int (zI (z)), .int (zI (n9))] (rV0 N ad fun g' => g = g') := by
  refine z_of (by decide) (Nat.le_of_ble_eq_true rfl) ?_
  intro p e s m below meth c C hr hlk hnm
  refine z_lv (lv' := [(0, .int (zI (z))), (1, .int (zI (n9)))]) [0, 1] rfl ?_
  refine z_iload_n C 0 dJ0_checkIndex_df160_0 rfl ?_
  refine z_iload_n C 1 dJ0_checkIndex_df160_1 rfl ?_
  refine z_gsQ C q_781 dJ0_checkIndex_df160_2 ?_ (fun t9 => ?_)
  · refine z_cS (As := [.int (zI (z)), .int (zI (n9)), .null]) (rest := []) C (c_ckI_n l D A cs tt N ad _ (z) (n9) (by omega)) ms_yJ3_checkIndex_8e157 q_783 hd_yJ3_checkIndex_8e157 (by decide) (Nat.le_of_ble_eq_true rfl) (by decide) dJ0_checkIndex_df160_5 rfl (kI0 fun vy1 gvy1 hvy1 => ?_)
    obtain ⟨rfl, rfl⟩ := hvy1
    refine z_pop C dJ0_checkIndex_df160_8 rfl ?_
    exact z_vret C hr hlk dJ0_checkIndex_df160_9 (by decide) (by decide) ⟨rfl, rfl, rfl, rfl⟩
  · refine z_cS (As := [.int (zI (z)), .int (zI (n9)), .ref t9]) (rest := []) C (c_ckI_r l D A cs tt N ad _ (z) (n9) (by omega) _) ms_yJ3_checkIndex_8e157 q_783 hd_yJ3_checkIndex_8e157 (by decide) (Nat.le_of_ble_eq_true rfl) (by decide) dJ0_checkIndex_df160_5 rfl (kI0 fun vy2 gvy2 hvy2 => ?_)
    obtain ⟨rfl, rfl⟩ := hvy2
    refine z_pop C dJ0_checkIndex_df160_8 rfl ?_
    exact z_vret C hr hlk dJ0_checkIndex_df160_9 (by decide) (by decide) ⟨rfl, rfl, rfl, rfl⟩

set_option maxRecDepth 100000 in
set_option maxHeartbeats 4000000 in
theorem c_L1charAt (l : Launch) (D : va_G) (A : Nat → Prop) (cs : Nat → ClassId) (tt : Nat) (N : Nat) (ad : Nat → Nat) (g : Nat → va_E) (q : String × Nat × String × Nat × List Int32) (hq : q ∈ SKL) (z : Int) (hz : 0 ≤ z ∧ z < (q.2.2.2.2.length : Int)) : zM l yJ1_charAt_3b067 cJ1_charAt_3b067 2 (some .char) ({ frames := 3, cells := 0, slots := 0, locals := 180 } : Room) D A cs tt N ad g [.ref (cs (200 + q.2.2.2.1)), .int (zI (z))] (rI0 N ad fun r g' => (0 ≤ r ∧ r ≤ 255) ∧ g = g') := by
  have hqL := SKL_len q hq
  refine z_of (by decide) (Nat.le_of_ble_eq_true rfl) ?_
  intro p e s m below meth c C hr hlk hnm
  refine z_lv (lv' := [(0, .ref (cs (200 + q.2.2.2.1))), (1, .int (zI (z)))]) [0, 1] rfl ?_
  refine z_iload_n C 1 dJ1_charAt_3b067_0 rfl ?_
  refine z_aload_n C 0 dJ1_charAt_3b067_1 rfl ?_
  refine z_salen C hq dJ1_charAt_3b067_2 ?_
  refine z_cS (As := [.int (zI (z)), .int (zI ((q.2.2.2.2.length : Int)))]) (rest := []) C (c_ckS l D A cs tt N ad _ (z) ((q.2.2.2.2.length : Int)) (by omega)) ms_yJ0_checkIndex_df160 q_778 hd_yJ0_checkIndex_df160 (by decide) (Nat.le_of_ble_eq_true rfl) (by decide) dJ1_charAt_3b067_3 rfl (kV0 fun gvy1 hvy1 => ?_)
  obtain rfl := hvy1
  refine z_aload_n C 0 dJ1_charAt_3b067_6 rfl ?_
  refine z_iload_n C 1 dJ1_charAt_3b067_7 rfl ?_
  obtain ⟨yy2, eyy2, hyy2⟩ := zI_of (q.2.2.2.2.getD ((z).toNat) 0)
  refine z_sbald (y := yy2) C hq ((z).toNat) (by omega) (by omega) eyy2 dJ1_charAt_3b067_8 ?_
  refine z_sipush (z := 255) C dJ1_charAt_3b067_9 (by decide) ?_
  obtain ⟨xy3, exy4, hxy5⟩ := zI_and (zI (yy2)) (m := zI 255) 8 (by decide)
  refine z_iand (z := xy3) C dJ1_charAt_3b067_12 exy4 ?_
  refine z_i2c (z := xy3) C dJ1_charAt_3b067_13 (m16 (by omega)) ?_
  exact z_zret C hr hlk dJ1_charAt_3b067_14 (nc16 (by omega)) (by decide) (by decide) ⟨xy3, rfl, rfl, rfl, by omega, rfl⟩

set_option maxRecDepth 100000 in
set_option maxHeartbeats 4000000 in
theorem c_scharAt (l : Launch) (D : va_G) (A : Nat → Prop) (cs : Nat → ClassId) (tt : Nat) (N : Nat) (ad : Nat → Nat) (g : Nat → va_E) (q : String × Nat × String × Nat × List Int32) (hq : q ∈ SKL) (z : Int) (hz : 0 ≤ z ∧ z < (q.2.2.2.2.length : Int)) : zM l yJ0_charAt_5068e cJ0_charAt_5068e 2 (some .char) ({ frames := 4, cells := 0, slots := 0, locals := 240 } : Room) D A cs tt N ad g [.ref (cs (100 + q.2.2.2.1)), .int (zI (z))] (rI0 N ad fun r g' => (0 ≤ r ∧ r ≤ 255) ∧ g = g') := by
  have hqL := SKL_len q hq
  refine z_of (by decide) (Nat.le_of_ble_eq_true rfl) ?_
  intro p e s m below meth c C hr hlk hnm
  refine z_lv (lv' := [(0, .ref (cs (100 + q.2.2.2.1))), (1, .int (zI (z)))]) [0, 1] rfl ?_
  refine z_aload_n C 0 dJ0_charAt_5068e_0 rfl ?_
  refine z_cVs (As := []) (rest := []) C hq (c_isLatin1 l D A cs tt N ad _ q hq) rfl mv_yJ0_isLatin1_aae02 q_771 hd_yJ0_isLatin1_aae02 (by decide) (Nat.le_of_ble_eq_true rfl) (by decide) dJ0_charAt_5068e_1 rfl (kI0 fun vy1 gvy1 hvy1 => ?_)
  obtain ⟨rfl, rfl⟩ := hvy1
  refine z_if_eq (tgt := 16) C dJ0_charAt_5068e_4 (by decide) (by omega) (fun h => absurd h (by omega)) (fun _ => ?_)
  refine z_aload_n C 0 dJ0_charAt_5068e_7 rfl ?_
  refine z_sval C hq q_1166 dJ0_charAt_5068e_8 ?_
  refine z_iload_n C 1 dJ0_charAt_5068e_11 rfl ?_
  refine z_cS (As := [.ref (cs (200 + q.2.2.2.1)), .int (zI (z))]) (rest := []) C (c_L1charAt l D A cs tt N ad _ q hq (z) (by omega)) ms_yJ1_charAt_3b067 q_775 hd_yJ1_charAt_3b067 (by decide) (Nat.le_of_ble_eq_true rfl) (by decide) dJ0_charAt_5068e_12 rfl (kI0 fun vy2 gvy2 hvy2 => ?_)
  obtain ⟨hvy2, rfl⟩ := hvy2
  exact z_zret C hr hlk dJ0_charAt_5068e_15 (nc16 (by omega)) (by decide) (by decide) ⟨vy2, rfl, rfl, rfl, by omega, rfl⟩

