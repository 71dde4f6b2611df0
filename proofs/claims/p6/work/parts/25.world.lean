theorem xor_neg {a b : Int} (ha : -2147483648 ≤ a ∧ a ≤ 2147483647) (hb : -2147483648 ≤ b ∧ b ≤ 2147483647) {z : Int} (e : zI a ^^^ zI b = zI z) (hz : -2147483648 ≤ z ∧ z ≤ 2147483647) : z < 0 ↔ (a < 0 ↔ 0 ≤ b) := by
  have h1 : (zI z).toBitVec.msb = ((zI a).toBitVec.msb ^^ (zI b).toBitVec.msb) := by rw [← e, Int32.toBitVec_xor, BitVec.msb_xor]
  rw [BitVec.msb_eq_toInt, BitVec.msb_eq_toInt, BitVec.msb_eq_toInt] at h1
  have e1 : (zI z).toBitVec.toInt = z := zI_to hz
  have e2 : (zI a).toBitVec.toInt = a := zI_to ha
  have e3 : (zI b).toBitVec.toInt = b := zI_to hb
  rw [e1, e2, e3] at h1
  by_cases h2 : z < 0 <;> by_cases h3 : a < 0 <;> by_cases h4 : b < 0 <;> simp [h2, h3, h4] at h1 <;> omega
theorem tmod_f {a b : Int} (hb : 0 < b) : (0 ≤ a → 0 ≤ a.tmod b ∧ a.tmod b < b) ∧ (a < 0 → -b < a.tmod b ∧ a.tmod b ≤ 0) := by
  refine ⟨fun h => ?_, fun h => ?_⟩
  · rw [Int.tmod_eq_emod_of_nonneg h]; exact ⟨Int.emod_nonneg _ (by omega), Int.emod_lt_of_pos _ hb⟩
  · have h1 : a.tmod b = -((-a).tmod b) := by rw [Int.neg_tmod, Int.neg_neg]
    rw [h1, Int.tmod_eq_emod_of_nonneg (by omega)]
    have h2 := Int.emod_nonneg (-a) (show b ≠ 0 by omega); have h3 := Int.emod_lt_of_pos (-a) hb
    omega
theorem Met_ofWF {l : Launch} {y : MethodName} {ws ws' : List Cond} {rm : Room} {Pc : Array Value → State → Prop} {Qc : Array Value → State → Outcome → State → Prop} {mc ms : Nat} {free : Addr → Prop} {cc : ByteArray} {maxL : Nat} {ret : Option FieldType} (hy : plainFor y = true) (hw : ws = Cond.code y cc maxL ret :: ws')
    (body : ∀ p e s m args below meth c s₁, BodyLoose p l y (headSpec ws rm) cc maxL ret e s m args below meth c s₁ → c.maxLocals = maxL → Pc args s → W p l e (headSpec ws rm).room s m args below meth c s.heap [] 0 0 (MQ below Qc args s mc ms free) (entryFrame m args maxL)) : Met l y ws rm Pc Qc mc ms free := by
  refine MetFree.of_bodySF (code := cc) (maxLocals := maxL) (ret := ret) hy ?_ ?_
  · intro args s m h hn
    obtain ⟨meth, c, h1, h2, h3, h4, h5, h6, -, -⟩ := Cond.code_spec hn (atoms_spec (ws := ws) h _ (by rw [hw]; exact List.mem_cons_self))
    exact ⟨meth, c, h1, h2, h3, h4, h5, h6⟩
  · intro p e s m args below meth c s₁ B hml hP _
    have hh0 : s₁.heap = s.heap := by rw [B.state]; rfl
    obtain ⟨t, a1, o, b1, b2, b3⟩ := body p e s m args below meth c s₁ B hml hP s₁ hh0 (Stand.of_body B)
    exact ⟨t, o, a1, b1, b2, ⟨b3.1, b3.2⟩⟩
theorem z_ofF {l : Launch} {y : MethodName} {cc : ByteArray} {mL : Nat} {ret : Option FieldType} {rm : Room} {D : va_G} {A : Nat → Prop} {cs : Nat → ClassId} {tt N : Nat} {ad : Nat → Nat} {g : Nat → va_E} {avs : List Value} {Qr : zR} (hy : plainFor y = true) (hlen : (lg_sl avs).length ≤ mL)
    (body : ∀ (p : Program) (e : Env) (s : State) (m : MethodId) (below : List Frame) (meth : Method) (c : Code), zC p s m avs.toArray c cc mL y.cls D A cs tt → meth.sig.returnType = ret → meth.locks = false → meth.name = y.name →
      zV p l e rm s m avs.toArray below meth c (MQ below (zPost D A Qr) avs.toArray s rm.cells rm.slots A) D A mL N ad g 0 0 0 (lv_args 0 avs) []) : zM l y cc mL ret rm D A cs tt N ad g avs Qr := by
  refine Met_ofWF (cc := cc) (maxL := mL) (ret := ret) hy rfl ?_
  intro p e s m args below meth c s₁ B hml hv
  obtain ⟨rfl, hE, hP, hD⟩ := hv
  have hts := atoms_spec (ws := Cond.code y cc mL ret :: AW) B.pre
  have hl := lv_entry avs (n := mL) hlen
  rw [lg_entry_eq]
  exact body p e s m below meth c ⟨B.exec, B.bytes, hml, findClass_of_methodNamed B.named, fun w h => hts w (List.mem_cons_of_mem _ h), hE⟩ B.returns B.notSynchronized (name_of_methodNamed B.named B.method).1 s.heap [] _ hP hD va_S.rf hl
theorem pf_floorMod : plainFor yJ9_floorMod_7cf53 = true := by decide +kernel
abbrev okWorld (cs : Nat → ClassId) (ad : Nat → Nat) (g : Nat → va_E) (a : Nat) : Prop := ∃ (t z o : Nat → Int) (r : Nat → Nat → Int), (∀ k, k < 4 → 0 ≤ z k ∧ z k ≤ 12) ∧ (0 ≤ t 5 ∧ t 5 ≤ 6) ∧ isWorld cs ad g a t z o r
theorem okWorld.mv {cs : Nat → ClassId} {ad : Nat → Nat} {g g' : Nat → va_E} {a : Nat} (hG : ∀ j, a ≤ j → j < a + 10 → g' j = g j) (h : okWorld cs ad g a) : okWorld cs ad g' a := by
  obtain ⟨t, z, o, r, h1, h2, h3⟩ := h
  exact ⟨t, z, o, r, h1, h2, h3.mv (fun _ _ _ => rfl) hG⟩
theorem okWorld.pack {cs : Nat → ClassId} {ad : Nat → Nat} {g g' : Nat → va_E} {a k : Nat} (hk : k < 4) (h : okWorld cs ad g a) (hG : ∀ j, j ≠ a + 2 + 2 * k → j ≠ a + 2 + 2 * k + 1 → g' j = g j) (hp : okPack cs ad g' (a + 2 + 2 * k)) : okWorld cs ad g' a := by
  obtain ⟨t, z, o, r, h1, h2, h3, ⟨u, h4, h5⟩, h6⟩ := h
  obtain ⟨s, o', r', hs, hp⟩ := hp
  refine ⟨t, fun j => if j = k then s else z j, fun j => if j = k then o' else o j, fun j => if j = k then r' else r j, fun j hj => ?_, h2, ?_, ⟨u, ?_, h5⟩, fun j hj => ?_⟩
  · by_cases e : j = k
    · simp only [if_pos e]; exact hs
    · simp only [if_neg e]; exact h1 j hj
  · rw [hG _ (by omega) (by omega)]; exact h3
  · rw [hG _ (by omega) (by omega)]; exact h4
  · by_cases e : j = k
    · subst e; simp only [if_pos]; exact hp
    · simp only [if_neg e]; exact (h6 j hj).mv (fun _ _ _ => rfl) (fun i _ _ => hG i (by omega) (by omega))
theorem okWorld.head {cs : Nat → ClassId} {ad : Nat → Nat} {g g' : Nat → va_E} {a : Nat} (h : okWorld cs ad g a) (hG : ∀ j, j ≠ a → g' j = g j) {x0 x1 x2 x3 x4 x5 : Int} (hx : 0 ≤ x5 ∧ x5 ≤ 6) (hp : g' a = oC 10 [.int (zI x0), .int (zI x1), .int (zI x2), .int (zI x3), .int (zI x4), .int (zI x5), .ref (ad (a + 1))]) : okWorld cs ad g' a := by
  obtain ⟨t, z, o, r, h1, h2, h3, ⟨u, h4, h5⟩, h6⟩ := h
  refine ⟨fun k => [x0, x1, x2, x3, x4, x5].getD k 0, z, o, r, h1, hx, hp, ⟨u, ?_, h5⟩, fun j hj => ?_⟩
  · rw [hG _ (by omega)]; exact h4
  · exact (h6 j hj).mv (fun _ _ _ => rfl) (fun i _ _ => hG i (by omega))

set_option maxRecDepth 100000 in
set_option maxHeartbeats 4000000 in
theorem c_floorMod (l : Launch) (D : va_G) (A : Nat → Prop) (cs : Nat → ClassId) (tt : Nat) (N : Nat) (ad : Nat → Nat) (g : Nat → va_E) (z : Int) (hz : -2147483648 ≤ z ∧ z ≤ 2147483647) (z1 : Int) (hz1 : 1 ≤ z1 ∧ z1 ≤ 2147483647) : zM l yJ9_floorMod_7cf53 cJ9_floorMod_7cf53 3 (some .int) ({ frames := 1, cells := 0, slots := 0, locals := 60 } : Room) D A cs tt N ad g [.int (zI (z)), .int (zI (z1))] (rI0 N ad fun r g' => (0 ≤ r ∧ r < z1) ∧ g = g') := by
  refine z_ofF pf_floorMod (Nat.le_of_ble_eq_true rfl) ?_
  intro p e s m below meth c C hr hlk hnm
  refine z_lv (lv' := [(0, .int (zI (z))), (1, .int (zI (z1)))]) [0, 1] rfl ?_
  refine z_iload_n C 0 dJ9_floorMod_7cf53_0 rfl ?_
  refine z_iload_n C 1 dJ9_floorMod_7cf53_1 rfl ?_
  refine z_irem C dJ9_floorMod_7cf53_2 (by omega) (by omega) (by omega) ?_
  obtain ⟨md, emd, hmd⟩ : ∃ md : Int, z.tmod z1 = md ∧ ((0 ≤ z → 0 ≤ md ∧ md < z1) ∧ (z < 0 → -z1 < md ∧ md ≤ 0)) := ⟨_, rfl, tmod_f (by omega)⟩
  rw [emd]
  refine z_istore_n (lv' := [(2, .int (zI (md))), (0, .int (zI (z))), (1, .int (zI (z1)))]) C dJ9_floorMod_7cf53_3 rfl (by decide) rfl ?_
  refine z_iload_n C 1 dJ9_floorMod_7cf53_4 rfl ?_
  refine z_iload_n C 2 dJ9_floorMod_7cf53_5 rfl ?_
  obtain ⟨xx, exx, hxx⟩ := zI_of (zI (z) ^^^ zI (z1))
  have hxn := xor_neg hz (by omega) exx hxx
  refine z_ixor (z := xx) C dJ9_floorMod_7cf53_6 exx ?_
  refine z_if_ge (tgt := 18) C dJ9_floorMod_7cf53_7 (by decide) (by omega) (fun hby1 => ?_) (fun hby1 => ?_)
  · refine z_iload_n C 0 dJ9_floorMod_7cf53_18 rfl ?_
    exact z_iret C hr hlk dJ9_floorMod_7cf53_19 (by decide) (by decide) ⟨md, rfl, rfl, rfl, by omega, rfl⟩
  · refine z_iload_n C 0 dJ9_floorMod_7cf53_10 rfl ?_
    refine z_if_eq (tgt := 18) C dJ9_floorMod_7cf53_11 (by decide) (by omega) (fun hby2 => ?_) (fun hby2 => ?_)
    · refine z_iload_n C 0 dJ9_floorMod_7cf53_18 rfl ?_
      exact z_iret C hr hlk dJ9_floorMod_7cf53_19 (by decide) (by decide) ⟨md, rfl, rfl, rfl, by omega, rfl⟩
    · refine z_iload_n C 0 dJ9_floorMod_7cf53_14 rfl ?_
      refine z_iload_n C 2 dJ9_floorMod_7cf53_15 rfl ?_
      refine z_iadd C dJ9_floorMod_7cf53_16 ?_
      exact z_iret C hr hlk dJ9_floorMod_7cf53_17 (by decide) (by decide) ⟨md + z1, rfl, rfl, rfl, by omega, rfl⟩

set_option maxRecDepth 100000 in
set_option maxHeartbeats 4000000 in
theorem c_X5_airAt (l : Launch) (D : va_G) (A : Nat → Prop) (cs : Nat → ClassId) (tt : Nat) (N : Nat) (ad : Nat → Nat) (g : Nat → va_E) (b : Nat) (hNb : b + 7 ≤ N) (sl ho ua : Int) (st op ai fa mu tb : Nat → Int) (hb : isPlan cs ad g b sl ho ua st op ai fa mu tb) (hho : 0 ≤ ho ∧ ho ≤ 24) (z : Int) (hz : -2147483648 ≤ z ∧ z ≤ 2147483647) : zM l yX5_airAt cX5_airAt 2 (some .int) ({ frames := 2, cells := 0, slots := 0, locals := 120 } : Room) D A cs tt N ad g [.ref (ad b), .int (zI (z))] (rI0 N ad fun r g' => (-2147483648 ≤ r ∧ r ≤ 2147483647) ∧ g = g') := by
  have hay1 : zAt ad (b) (ad b) := rfl
  have hay2 : zAt ad (b + 1) (ad (b + 1)) := rfl
  have hay3 : zAt ad (b + 2) (ad (b + 2)) := rfl
  have hay4 : zAt ad (b + 3) (ad (b + 3)) := rfl
  have hay5 : zAt ad (b + 4) (ad (b + 4)) := rfl
  have hay6 : zAt ad (b + 5) (ad (b + 5)) := rfl
  have hay7 : zAt ad (b + 6) (ad (b + 6)) := rfl
  refine z_of (by decide) (Nat.le_of_ble_eq_true rfl) ?_
  intro p e s m below meth c C hr hlk hnm
  refine z_lv (lv' := [(0, .ref (ad b)), (1, .int (zI (z)))]) [0, 1] rfl ?_
  refine z_aload_n C 0 dX5_airAt_0 rfl ?_
  refine z_get (v := .int (zI (ho))) C (by omega) hay1 hb.1 rfl inA_X5 1 (by decide) q_92 rfl rfl dX5_airAt_1 ?_
  refine z_if_ne (tgt := 14) C dX5_airAt_4 (by decide) (by omega) (fun hby8 => ?_) (fun hby8 => ?_)
  · refine z_aload_n C 0 dX5_airAt_14 rfl ?_
    refine z_get (v := .ref (ad (b + 3))) C (by omega) hay1 hb.1 rfl inA_X5 5 (by decide) q_104 rfl rfl dX5_airAt_15 ?_
    refine z_iload_n C 1 dX5_airAt_18 rfl ?_
    refine z_aload_n C 0 dX5_airAt_19 rfl ?_
    refine z_get (v := .int (zI (ho))) C (by omega) hay1 hb.1 rfl inA_X5 1 (by decide) q_92 rfl rfl dX5_airAt_20 ?_
    refine z_cS (As := [.int (zI (z)), .int (zI (ho))]) (rest := [.ref (ad (b + 3))]) C (c_floorMod l D A cs tt N ad _ (z) (by omega) (ho) (by omega)) ms_yJ9_floorMod_7cf53 q_443 hd_yJ9_floorMod_7cf53 (by decide) (Nat.le_of_ble_eq_true rfl) (by decide) dX5_airAt_23 rfl (kI0 fun vy9 gvy9 hvy9 => ?_)
    obtain ⟨hvy9, rfl⟩ := hvy9
    refine z_iald C (by omega) hay4 hb.2.2.2.1 ((vy9).toNat) (by omega) (by omega) (by decide) dX5_airAt_26 ?_
    obtain ⟨xy10, exy11, hxy12⟩ := zI_of (zI (ai ((vy9).toNat)))
    rw [exy11]
    exact z_iret C hr hlk dX5_airAt_27 (by decide) (by decide) ⟨xy10, rfl, rfl, rfl, by omega, rfl⟩
  · refine z_aload_n C 0 dX5_airAt_7 rfl ?_
    refine z_get (v := .int (zI (ua))) C (by omega) hay1 hb.1 rfl inA_X5 2 (by decide) q_95 rfl rfl dX5_airAt_8 ?_
    refine z_goto (tgt := 27) C dX5_airAt_11 (by decide) ?_
    obtain ⟨xy13, exy14, hxy15⟩ := zI_of (zI (ua))
    rw [exy14]
    exact z_iret C hr hlk dX5_airAt_27 (by decide) (by decide) ⟨xy13, rfl, rfl, rfl, by omega, rfl⟩

set_option maxRecDepth 100000 in
set_option maxHeartbeats 4000000 in
theorem c_X5_fallAt (l : Launch) (D : va_G) (A : Nat → Prop) (cs : Nat → ClassId) (tt : Nat) (N : Nat) (ad : Nat → Nat) (g : Nat → va_E) (b : Nat) (hNb : b + 7 ≤ N) (sl ho ua : Int) (st op ai fa mu tb : Nat → Int) (hb : isPlan cs ad g b sl ho ua st op ai fa mu tb) (hho : 0 ≤ ho ∧ ho ≤ 24) (z : Int) (hz : -2147483648 ≤ z ∧ z ≤ 2147483647) : zM l yX5_fallAt cX5_fallAt 2 (some .int) ({ frames := 2, cells := 0, slots := 0, locals := 120 } : Room) D A cs tt N ad g [.ref (ad b), .int (zI (z))] (rI0 N ad fun r g' => (-2147483648 ≤ r ∧ r ≤ 2147483647) ∧ g = g') := by
  have hay1 : zAt ad (b) (ad b) := rfl
  have hay2 : zAt ad (b + 1) (ad (b + 1)) := rfl
  have hay3 : zAt ad (b + 2) (ad (b + 2)) := rfl
  have hay4 : zAt ad (b + 3) (ad (b + 3)) := rfl
  have hay5 : zAt ad (b + 4) (ad (b + 4)) := rfl
  have hay6 : zAt ad (b + 5) (ad (b + 5)) := rfl
  have hay7 : zAt ad (b + 6) (ad (b + 6)) := rfl
  refine z_of (by decide) (Nat.le_of_ble_eq_true rfl) ?_
  intro p e s m below meth c C hr hlk hnm
  refine z_lv (lv' := [(0, .ref (ad b)), (1, .int (zI (z)))]) [0, 1] rfl ?_
  refine z_aload_n C 0 dX5_fallAt_0 rfl ?_
  refine z_get (v := .int (zI (ho))) C (by omega) hay1 hb.1 rfl inA_X5 1 (by decide) q_92 rfl rfl dX5_fallAt_1 ?_
  refine z_if_ne (tgt := 11) C dX5_fallAt_4 (by decide) (by omega) (fun hby8 => ?_) (fun hby8 => ?_)
  · refine z_aload_n C 0 dX5_fallAt_11 rfl ?_
    refine z_get (v := .ref (ad (b + 4))) C (by omega) hay1 hb.1 rfl inA_X5 6 (by decide) q_107 rfl rfl dX5_fallAt_12 ?_
    refine z_iload_n C 1 dX5_fallAt_15 rfl ?_
    refine z_aload_n C 0 dX5_fallAt_16 rfl ?_
    refine z_get (v := .int (zI (ho))) C (by omega) hay1 hb.1 rfl inA_X5 1 (by decide) q_92 rfl rfl dX5_fallAt_17 ?_
    refine z_cS (As := [.int (zI (z)), .int (zI (ho))]) (rest := [.ref (ad (b + 4))]) C (c_floorMod l D A cs tt N ad _ (z) (by omega) (ho) (by omega)) ms_yJ9_floorMod_7cf53 q_443 hd_yJ9_floorMod_7cf53 (by decide) (Nat.le_of_ble_eq_true rfl) (by decide) dX5_fallAt_20 rfl (kI0 fun vy9 gvy9 hvy9 => ?_)
    obtain ⟨hvy9, rfl⟩ := hvy9
    refine z_iald C (by omega) hay5 hb.2.2.2.2.1 ((vy9).toNat) (by omega) (by omega) (by decide) dX5_fallAt_23 ?_
    obtain ⟨xy10, exy11, hxy12⟩ := zI_of (zI (fa ((vy9).toNat)))
    rw [exy11]
    exact z_iret C hr hlk dX5_fallAt_24 (by decide) (by decide) ⟨xy10, rfl, rfl, rfl, by omega, rfl⟩
  · refine z_iconst (z := 0) C dX5_fallAt_7 rfl ?_
    refine z_goto (tgt := 24) C dX5_fallAt_8 (by decide) ?_
    exact z_iret C hr hlk dX5_fallAt_24 (by decide) (by decide) ⟨0, rfl, rfl, rfl, by omega, rfl⟩

set_option maxRecDepth 100000 in
set_option maxHeartbeats 4000000 in
theorem c_X5_muchAt (l : Launch) (D : va_G) (A : Nat → Prop) (cs : Nat → ClassId) (tt : Nat) (N : Nat) (ad : Nat → Nat) (g : Nat → va_E) (b : Nat) (hNb : b + 7 ≤ N) (sl ho ua : Int) (st op ai fa mu tb : Nat → Int) (hb : isPlan cs ad g b sl ho ua st op ai fa mu tb) (hho : 0 ≤ ho ∧ ho ≤ 24) (z : Int) (hz : -2147483648 ≤ z ∧ z ≤ 2147483647) : zM l yX5_muchAt cX5_muchAt 2 (some .int) ({ frames := 2, cells := 0, slots := 0, locals := 120 } : Room) D A cs tt N ad g [.ref (ad b), .int (zI (z))] (rI0 N ad fun r g' => (-2147483648 ≤ r ∧ r ≤ 2147483647) ∧ g = g') := by
  have hay1 : zAt ad (b) (ad b) := rfl
  have hay2 : zAt ad (b + 1) (ad (b + 1)) := rfl
  have hay3 : zAt ad (b + 2) (ad (b + 2)) := rfl
  have hay4 : zAt ad (b + 3) (ad (b + 3)) := rfl
  have hay5 : zAt ad (b + 4) (ad (b + 4)) := rfl
  have hay6 : zAt ad (b + 5) (ad (b + 5)) := rfl
  have hay7 : zAt ad (b + 6) (ad (b + 6)) := rfl
  refine z_of (by decide) (Nat.le_of_ble_eq_true rfl) ?_
  intro p e s m below meth c C hr hlk hnm
  refine z_lv (lv' := [(0, .ref (ad b)), (1, .int (zI (z)))]) [0, 1] rfl ?_
  refine z_aload_n C 0 dX5_muchAt_0 rfl ?_
  refine z_get (v := .int (zI (ho))) C (by omega) hay1 hb.1 rfl inA_X5 1 (by decide) q_92 rfl rfl dX5_muchAt_1 ?_
  refine z_if_ne (tgt := 11) C dX5_muchAt_4 (by decide) (by omega) (fun hby8 => ?_) (fun hby8 => ?_)
  · refine z_aload_n C 0 dX5_muchAt_11 rfl ?_
    refine z_get (v := .ref (ad (b + 5))) C (by omega) hay1 hb.1 rfl inA_X5 7 (by decide) q_110 rfl rfl dX5_muchAt_12 ?_
    refine z_iload_n C 1 dX5_muchAt_15 rfl ?_
    refine z_aload_n C 0 dX5_muchAt_16 rfl ?_
    refine z_get (v := .int (zI (ho))) C (by omega) hay1 hb.1 rfl inA_X5 1 (by decide) q_92 rfl rfl dX5_muchAt_17 ?_
    refine z_cS (As := [.int (zI (z)), .int (zI (ho))]) (rest := [.ref (ad (b + 5))]) C (c_floorMod l D A cs tt N ad _ (z) (by omega) (ho) (by omega)) ms_yJ9_floorMod_7cf53 q_443 hd_yJ9_floorMod_7cf53 (by decide) (Nat.le_of_ble_eq_true rfl) (by decide) dX5_muchAt_20 rfl (kI0 fun vy9 gvy9 hvy9 => ?_)
    obtain ⟨hvy9, rfl⟩ := hvy9
    refine z_iald C (by omega) hay6 hb.2.2.2.2.2.1 ((vy9).toNat) (by omega) (by omega) (by decide) dX5_muchAt_23 ?_
    obtain ⟨xy10, exy11, hxy12⟩ := zI_of (zI (mu ((vy9).toNat)))
    rw [exy11]
    exact z_iret C hr hlk dX5_muchAt_24 (by decide) (by decide) ⟨xy10, rfl, rfl, rfl, by omega, rfl⟩
  · refine z_iconst (z := 0) C dX5_muchAt_7 rfl ?_
    refine z_goto (tgt := 24) C dX5_muchAt_8 (by decide) ?_
    exact z_iret C hr hlk dX5_muchAt_24 (by decide) (by decide) ⟨0, rfl, rfl, rfl, by omega, rfl⟩

set_option maxRecDepth 100000 in
set_option maxHeartbeats 4000000 in
theorem c_X5_allSlopes (l : Launch) (D : va_G) (A : Nat → Prop) (cs : Nat → ClassId) (tt : Nat) (N : Nat) (ad : Nat → Nat) (g : Nat → va_E) (b : Nat) (hNb : b + 7 ≤ N) (sl ho ua : Int) (st op ai fa mu tb : Nat → Int) (hb : isPlan cs ad g b sl ho ua st op ai fa mu tb) : zM l yX5_allSlopes cX5_allSlopes 1 (some .int) ({ frames := 1, cells := 0, slots := 0, locals := 60 } : Room) D A cs tt N ad g [.ref (ad b)] (rI0 N ad fun r g' => (-2147483648 ≤ r ∧ r ≤ 2147483647) ∧ g = g') := by
  have hay1 : zAt ad (b) (ad b) := rfl
  have hay2 : zAt ad (b + 1) (ad (b + 1)) := rfl
  have hay3 : zAt ad (b + 2) (ad (b + 2)) := rfl
  have hay4 : zAt ad (b + 3) (ad (b + 3)) := rfl
  have hay5 : zAt ad (b + 4) (ad (b + 4)) := rfl
  have hay6 : zAt ad (b + 5) (ad (b + 5)) := rfl
  have hay7 : zAt ad (b + 6) (ad (b + 6)) := rfl
  refine z_of (by decide) (Nat.le_of_ble_eq_true rfl) ?_
  intro p e s m below meth c C hr hlk hnm
  refine z_lv (lv' := [(0, .ref (ad b))]) [0] rfl ?_
  refine z_iconst (z := 1) C dX5_allSlopes_0 rfl ?_
  refine z_aload_n C 0 dX5_allSlopes_1 rfl ?_
  refine z_get (v := .int (zI (sl))) C (by omega) hay1 hb.1 rfl inA_X5 0 (by decide) q_88 rfl rfl dX5_allSlopes_2 ?_
  obtain ⟨xy8, exy9, hxy10⟩ := zI_of (zI (1) <<< (zI (sl) &&& 31))
  refine z_ishl (z := xy8) C dX5_allSlopes_5 exy9 ?_
  refine z_iconst (z := 1) C dX5_allSlopes_6 rfl ?_
  refine z_isub C dX5_allSlopes_7 ?_
  obtain ⟨xy11, exy12, hxy13⟩ := zI_of (zI (xy8 - 1))
  rw [exy12]
  exact z_iret C hr hlk dX5_allSlopes_8 (by decide) (by decide) ⟨xy11, rfl, rfl, rfl, by omega, rfl⟩

set_option maxRecDepth 100000 in
set_option maxHeartbeats 4000000 in
theorem c_X8_layers (l : Launch) (D : va_G) (A : Nat → Prop) (cs : Nat → ClassId) (tt : Nat) (N : Nat) (ad : Nat → Nat) (g : Nat → va_E) (a : Nat) (hN : a + 10 ≤ N) (hw : okWorld cs ad g a) : zM l yX8_layers cX8_layers 3 (some .int) ({ frames := 1, cells := 0, slots := 0, locals := 60 } : Room) D A cs tt N ad g [.ref (ad a)] (rI0 N ad fun r g' => (-2147483648 ≤ r ∧ r ≤ 2147483647) ∧ g = g') := by
  obtain ⟨ut, uz, uo, ur, uz4, ut5, u1, ⟨uu, u2, u3⟩, u4⟩ := id hw
  have hay1 : zAt ad (a) (ad a) := rfl
  have hay2 : zAt ad (a + 1) (ad (a + 1)) := rfl
  refine z_of (by decide) (Nat.le_of_ble_eq_true rfl) ?_
  intro p e s m below meth c C hr hlk hnm
  refine z_lv (lv' := [(0, .ref (ad a))]) [0] rfl ?_
  have lp : ∀ (n9 : Nat) (al : Int) (i : Int) (g1 : Nat → va_E), (4 - i).toNat = n9 → (g1 = g) → (-2147483648 ≤ al ∧ al ≤ 2147483647) → (0 ≤ i ∧ i ≤ 4) → zV p l e ({ frames := 1, cells := 0, slots := 0, locals := 60 } : Room) s m ([.ref (ad a)] : List Value).toArray below meth c (MQ below (zPost D A (rI0 N ad fun r g' => (-2147483648 ≤ r ∧ r ≤ 2147483647) ∧ g = g')) ([.ref (ad a)] : List Value).toArray s ({ frames := 1, cells := 0, slots := 0, locals := 60 } : Room).cells ({ frames := 1, cells := 0, slots := 0, locals := 60 } : Room).slots A) D A 3 (N) ad g1 (0) (0) 4 [(2, .int (zI (i))), (1, .int (zI (al))), (0, .ref (ad a))] [] := by
    intro n9
    induction n9 using Nat.strongRecOn with
    | ind n9 ih =>
      intro al i g1 hm9 hg1 hv0 hv1
      subst hg1
      obtain ⟨ut, uz, uo, ur, uz4, ut5, u1, ⟨uu, u2, u3⟩, u4⟩ := id hw
      have hay3 : zAt ad (a) (ad a) := rfl
      have hay4 : zAt ad (a + 1) (ad (a + 1)) := rfl
      refine z_iload_n C 0 dX8_layers_4 rfl ?_
      refine z_aload_n C 2 dX8_layers_5 rfl ?_
      refine z_get (v := .ref (ad (a + 1))) C (lt_A0 hN rfl) hay3 u1 rfl inA_X8 6 (by decide) q_188 rfl rfl dX8_layers_6 ?_
      refine z_alen (z := 4) C (lt_A (c := 1) hN rfl) hay4 u2 3 rfl rfl dX8_layers_9 ?_
      refine z_icmp_ge (tgt := 31) C dX8_layers_10 (by decide) (by omega) (by omega) (fun hby5 => ?_) (fun hby5 => ?_)
      · refine z_iload_n C 1 dX8_layers_31 rfl ?_
        exact z_iret C hr hlk dX8_layers_32 (by decide) (by decide) ⟨al, rfl, rfl, rfl, by omega, rfl⟩
      · refine z_iload_n C 1 dX8_layers_13 rfl ?_
        refine z_aload_n C 2 dX8_layers_14 rfl ?_
        refine z_get (v := .ref (ad (a + 1))) C (lt_A0 hN rfl) hay3 u1 rfl inA_X8 6 (by decide) q_188 rfl rfl dX8_layers_15 ?_
        refine z_iload_n C 0 dX8_layers_18 rfl ?_
        refine z_aald C (lt_A (c := 1) hN rfl) hay4 u2 3 rfl ((i).toNat) (by omega) (by omega) (by decide) (u3 (i).toNat (by omega)) dX8_layers_19 ?_
        have hay6 : zAt ad (a + 2 + 2 * (i).toNat) (ad (a + 2 + 2 * (i).toNat)) := rfl
        have hay7 : zAt ad (a + 2 + 2 * (i).toNat + 1) (ad (a + 2 + 2 * (i).toNat + 1)) := rfl
        have hpy8 := u4 (i).toNat (by omega)
        have hqy9 := uz4 (i).toNat (by omega)
        refine z_get (v := .int (zI (uz (i).toNat))) C (by omega) hay6 hpy8.1 rfl inA_X3 0 (by decide) q_156 rfl rfl dX8_layers_20 ?_
        refine z_iadd C dX8_layers_23 ?_
        refine z_istore_n (lv' := [(1, .int (zI (al + (uz (i).toNat)))), (2, .int (zI (i))), (0, .ref (ad a))]) C dX8_layers_24 rfl (by decide) rfl ?_
        refine z_iinc (z := i + 1) (lv' := [(2, .int (zI (i + 1))), (1, .int (zI (al + (uz (i).toNat)))), (0, .ref (ad a))]) (j := 1) C dX8_layers_25 rfl rfl (by decide) rfl ?_
        refine z_goto (tgt := 4) C dX8_layers_28 (by decide) ?_
        obtain ⟨xy10, exy11, hxy12⟩ := zI_of (zI (al + (uz (i).toNat)))
        rw [exy11]
        refine z_lv (lv' := [(2, .int (zI (i + 1))), (1, .int (zI (xy10))), (0, .ref (ad a))]) [0, 1, 2] rfl ?_
        exact ih _ (by omega) (xy10) (i + 1) _ rfl rfl (by omega) (by omega)
  refine z_iconst (z := 0) C dX8_layers_0 rfl ?_
  refine z_istore_n (lv' := [(1, .int (zI (0))), (0, .ref (ad a))]) C dX8_layers_1 rfl (by decide) rfl ?_
  refine z_iconst (z := 0) C dX8_layers_2 rfl ?_
  refine z_istore_n (lv' := [(2, .int (zI (0))), (1, .int (zI (0))), (0, .ref (ad a))]) C dX8_layers_3 rfl (by decide) rfl ?_
  refine z_lv (lv' := [(2, .int (zI (0))), (1, .int (zI (0))), (0, .ref (ad a))]) [0, 1, 2] rfl ?_
  exact lp _ (0) (0) _ rfl rfl (by omega) (by omega)

set_option maxRecDepth 100000 in
set_option maxHeartbeats 4000000 in
theorem c_X8_runoff (l : Launch) (D : va_G) (A : Nat → Prop) (cs : Nat → ClassId) (tt : Nat) (N : Nat) (ad : Nat → Nat) (g : Nat → va_E) (a : Nat) (hN : a + 10 ≤ N) (hw : okWorld cs ad g a) : zM l yX8_runoff cX8_runoff 3 (some .int) ({ frames := 1, cells := 0, slots := 0, locals := 60 } : Room) D A cs tt N ad g [.ref (ad a)] (rI0 N ad fun r g' => (-2147483648 ≤ r ∧ r ≤ 2147483647) ∧ g = g') := by
  obtain ⟨ut, uz, uo, ur, uz4, ut5, u1, ⟨uu, u2, u3⟩, u4⟩ := id hw
  have hay1 : zAt ad (a) (ad a) := rfl
  have hay2 : zAt ad (a + 1) (ad (a + 1)) := rfl
  refine z_of (by decide) (Nat.le_of_ble_eq_true rfl) ?_
  intro p e s m below meth c C hr hlk hnm
  refine z_lv (lv' := [(0, .ref (ad a))]) [0] rfl ?_
  have lp : ∀ (n9 : Nat) (al : Int) (i : Int) (g1 : Nat → va_E), (4 - i).toNat = n9 → (g1 = g) → (-2147483648 ≤ al ∧ al ≤ 2147483647) → (0 ≤ i ∧ i ≤ 4) → zV p l e ({ frames := 1, cells := 0, slots := 0, locals := 60 } : Room) s m ([.ref (ad a)] : List Value).toArray below meth c (MQ below (zPost D A (rI0 N ad fun r g' => (-2147483648 ≤ r ∧ r ≤ 2147483647) ∧ g = g')) ([.ref (ad a)] : List Value).toArray s ({ frames := 1, cells := 0, slots := 0, locals := 60 } : Room).cells ({ frames := 1, cells := 0, slots := 0, locals := 60 } : Room).slots A) D A 3 (N) ad g1 (0) (0) 4 [(2, .int (zI (i))), (1, .int (zI (al))), (0, .ref (ad a))] [] := by
    intro n9
    induction n9 using Nat.strongRecOn with
    | ind n9 ih =>
      intro al i g1 hm9 hg1 hv0 hv1
      subst hg1
      obtain ⟨ut, uz, uo, ur, uz4, ut5, u1, ⟨uu, u2, u3⟩, u4⟩ := id hw
      have hay3 : zAt ad (a) (ad a) := rfl
      have hay4 : zAt ad (a + 1) (ad (a + 1)) := rfl
      refine z_iload_n C 0 dX8_runoff_4 rfl ?_
      refine z_aload_n C 2 dX8_runoff_5 rfl ?_
      refine z_get (v := .ref (ad (a + 1))) C (lt_A0 hN rfl) hay3 u1 rfl inA_X8 6 (by decide) q_188 rfl rfl dX8_runoff_6 ?_
      refine z_alen (z := 4) C (lt_A (c := 1) hN rfl) hay4 u2 3 rfl rfl dX8_runoff_9 ?_
      refine z_icmp_ge (tgt := 31) C dX8_runoff_10 (by decide) (by omega) (by omega) (fun hby5 => ?_) (fun hby5 => ?_)
      · refine z_iload_n C 1 dX8_runoff_31 rfl ?_
        exact z_iret C hr hlk dX8_runoff_32 (by decide) (by decide) ⟨al, rfl, rfl, rfl, by omega, rfl⟩
      · refine z_iload_n C 1 dX8_runoff_13 rfl ?_
        refine z_aload_n C 2 dX8_runoff_14 rfl ?_
        refine z_get (v := .ref (ad (a + 1))) C (lt_A0 hN rfl) hay3 u1 rfl inA_X8 6 (by decide) q_188 rfl rfl dX8_runoff_15 ?_
        refine z_iload_n C 0 dX8_runoff_18 rfl ?_
        refine z_aald C (lt_A (c := 1) hN rfl) hay4 u2 3 rfl ((i).toNat) (by omega) (by omega) (by decide) (u3 (i).toNat (by omega)) dX8_runoff_19 ?_
        have hay6 : zAt ad (a + 2 + 2 * (i).toNat) (ad (a + 2 + 2 * (i).toNat)) := rfl
        have hay7 : zAt ad (a + 2 + 2 * (i).toNat + 1) (ad (a + 2 + 2 * (i).toNat + 1)) := rfl
        have hpy8 := u4 (i).toNat (by omega)
        have hqy9 := uz4 (i).toNat (by omega)
        refine z_get (v := .int (zI (uo (i).toNat))) C (by omega) hay6 hpy8.1 rfl inA_X3 1 (by decide) q_160 rfl rfl dX8_runoff_20 ?_
        refine z_iadd C dX8_runoff_23 ?_
        refine z_istore_n (lv' := [(1, .int (zI (al + (uo (i).toNat)))), (2, .int (zI (i))), (0, .ref (ad a))]) C dX8_runoff_24 rfl (by decide) rfl ?_
        refine z_iinc (z := i + 1) (lv' := [(2, .int (zI (i + 1))), (1, .int (zI (al + (uo (i).toNat)))), (0, .ref (ad a))]) (j := 1) C dX8_runoff_25 rfl rfl (by decide) rfl ?_
        refine z_goto (tgt := 4) C dX8_runoff_28 (by decide) ?_
        obtain ⟨xy10, exy11, hxy12⟩ := zI_of (zI (al + (uo (i).toNat)))
        rw [exy11]
        refine z_lv (lv' := [(2, .int (zI (i + 1))), (1, .int (zI (xy10))), (0, .ref (ad a))]) [0, 1, 2] rfl ?_
        exact ih _ (by omega) (xy10) (i + 1) _ rfl rfl (by omega) (by omega)
  refine z_iconst (z := 0) C dX8_runoff_0 rfl ?_
  refine z_istore_n (lv' := [(1, .int (zI (0))), (0, .ref (ad a))]) C dX8_runoff_1 rfl (by decide) rfl ?_
  refine z_iconst (z := 0) C dX8_runoff_2 rfl ?_
  refine z_istore_n (lv' := [(2, .int (zI (0))), (1, .int (zI (0))), (0, .ref (ad a))]) C dX8_runoff_3 rfl (by decide) rfl ?_
  refine z_lv (lv' := [(2, .int (zI (0))), (1, .int (zI (0))), (0, .ref (ad a))]) [0, 1, 2] rfl ?_
  exact lp _ (0) (0) _ rfl rfl (by omega) (by omega)

set_option maxRecDepth 100000 in
set_option maxHeartbeats 4000000 in
theorem c_X8_sum (l : Launch) (D : va_G) (A : Nat → Prop) (cs : Nat → ClassId) (tt : Nat) (N : Nat) (ad : Nat → Nat) (g : Nat → va_E) (a : Nat) (hN : a + 10 ≤ N) (hw : okWorld cs ad g a) (z : Int) (hzr : 0 ≤ z ∧ z ≤ 72) : zM l yX8_sum cX8_sum 4 (some .int) ({ frames := 2, cells := 0, slots := 0, locals := 120 } : Room) D A cs tt N ad g [.ref (ad a), .int (zI (z))] (rI0 N ad fun r g' => (-2147483648 ≤ r ∧ r ≤ 2147483647) ∧ g = g') := by
  obtain ⟨ut, uz, uo, ur, uz4, ut5, u1, ⟨uu, u2, u3⟩, u4⟩ := id hw
  have hay1 : zAt ad (a) (ad a) := rfl
  have hay2 : zAt ad (a + 1) (ad (a + 1)) := rfl
  refine z_of (by decide) (Nat.le_of_ble_eq_true rfl) ?_
  intro p e s m below meth c C hr hlk hnm
  refine z_lv (lv' := [(0, .ref (ad a)), (1, .int (zI (z)))]) [0, 1] rfl ?_
  have lp : ∀ (n9 : Nat) (al : Int) (i : Int) (g1 : Nat → va_E), (4 - i).toNat = n9 → (g1 = g) → (-2147483648 ≤ al ∧ al ≤ 2147483647) → (0 ≤ i ∧ i ≤ 4) → zV p l e ({ frames := 2, cells := 0, slots := 0, locals := 120 } : Room) s m ([.ref (ad a), .int (zI (z))] : List Value).toArray below meth c (MQ below (zPost D A (rI0 N ad fun r g' => (-2147483648 ≤ r ∧ r ≤ 2147483647) ∧ g = g')) ([.ref (ad a), .int (zI (z))] : List Value).toArray s ({ frames := 2, cells := 0, slots := 0, locals := 120 } : Room).cells ({ frames := 2, cells := 0, slots := 0, locals := 120 } : Room).slots A) D A 4 (N) ad g1 (0) (0) 4 [(3, .int (zI (i))), (2, .int (zI (al))), (0, .ref (ad a)), (1, .int (zI (z)))] [] := by
    intro n9
    induction n9 using Nat.strongRecOn with
    | ind n9 ih =>
      intro al i g1 hm9 hg1 hv0 hv1
      subst hg1
      obtain ⟨ut, uz, uo, ur, uz4, ut5, u1, ⟨uu, u2, u3⟩, u4⟩ := id hw
      have hay3 : zAt ad (a) (ad a) := rfl
      have hay4 : zAt ad (a + 1) (ad (a + 1)) := rfl
      refine z_iload_n C 0 dX8_sum_4 rfl ?_
      refine z_aload_n C 2 dX8_sum_5 rfl ?_
      refine z_get (v := .ref (ad (a + 1))) C (lt_A0 hN rfl) hay3 u1 rfl inA_X8 6 (by decide) q_188 rfl rfl dX8_sum_6 ?_
      refine z_alen (z := 4) C (lt_A (c := 1) hN rfl) hay4 u2 3 rfl rfl dX8_sum_9 ?_
      refine z_icmp_ge (tgt := 32) C dX8_sum_10 (by decide) (by omega) (by omega) (fun hby5 => ?_) (fun hby5 => ?_)
      · refine z_iload_n C 1 dX8_sum_32 rfl ?_
        exact z_iret C hr hlk dX8_sum_33 (by decide) (by decide) ⟨al, rfl, rfl, rfl, by omega, rfl⟩
      · refine z_iload_n C 1 dX8_sum_13 rfl ?_
        refine z_aload_n C 2 dX8_sum_14 rfl ?_
        refine z_get (v := .ref (ad (a + 1))) C (lt_A0 hN rfl) hay3 u1 rfl inA_X8 6 (by decide) q_188 rfl rfl dX8_sum_15 ?_
        refine z_iload_n C 0 dX8_sum_18 rfl ?_
        refine z_aald C (lt_A (c := 1) hN rfl) hay4 u2 3 rfl ((i).toNat) (by omega) (by omega) (by decide) (u3 (i).toNat (by omega)) dX8_sum_19 ?_
        have hay6 : zAt ad (a + 2 + 2 * (i).toNat) (ad (a + 2 + 2 * (i).toNat)) := rfl
        have hay7 : zAt ad (a + 2 + 2 * (i).toNat + 1) (ad (a + 2 + 2 * (i).toNat + 1)) := rfl
        have hpy8 := u4 (i).toNat (by omega)
        have hqy9 := uz4 (i).toNat (by omega)
        refine z_iload_n C 3 dX8_sum_20 rfl ?_
        refine z_cV (As := [.int (zI (z))]) (rest := [.int (zI (al))]) (ci := 5) C (c_X3_sum l D A cs tt N ad _ (a + 2 + 2 * (i).toNat) (by omega) _ _ _ (by omega) ⟨hpy8.1, hpy8.2⟩  (z) (by omega)) (by omega) hay6 hpy8.1 rfl rfl mv_yX3_sum q_890 hd_yX3_sum (by decide) (Nat.le_of_ble_eq_true rfl) (by decide) dX8_sum_21 rfl (kI0 fun vy10 gvy10 hvy10 => ?_)
        obtain ⟨hvy10, rfl⟩ := hvy10
        refine z_iadd C dX8_sum_24 ?_
        refine z_istore_n (lv' := [(2, .int (zI (al + vy10))), (3, .int (zI (i))), (0, .ref (ad a)), (1, .int (zI (z)))]) C dX8_sum_25 rfl (by decide) rfl ?_
        refine z_iinc (z := i + 1) (lv' := [(3, .int (zI (i + 1))), (2, .int (zI (al + vy10))), (0, .ref (ad a)), (1, .int (zI (z)))]) (j := 1) C dX8_sum_26 rfl rfl (by decide) rfl ?_
        refine z_goto (tgt := 4) C dX8_sum_29 (by decide) ?_
        obtain ⟨xy11, exy12, hxy13⟩ := zI_of (zI (al + vy10))
        rw [exy12]
        refine z_lv (lv' := [(3, .int (zI (i + 1))), (2, .int (zI (xy11))), (0, .ref (ad a)), (1, .int (zI (z)))]) [0, 1, 2, 3] rfl ?_
        exact ih _ (by omega) (xy11) (i + 1) _ rfl rfl (by omega) (by omega)
  refine z_iconst (z := 0) C dX8_sum_0 rfl ?_
  refine z_istore_n (lv' := [(2, .int (zI (0))), (0, .ref (ad a)), (1, .int (zI (z)))]) C dX8_sum_1 rfl (by decide) rfl ?_
  refine z_iconst (z := 0) C dX8_sum_2 rfl ?_
  refine z_istore_n (lv' := [(3, .int (zI (0))), (2, .int (zI (0))), (0, .ref (ad a)), (1, .int (zI (z)))]) C dX8_sum_3 rfl (by decide) rfl ?_
  refine z_lv (lv' := [(3, .int (zI (0))), (2, .int (zI (0))), (0, .ref (ad a)), (1, .int (zI (z)))]) [0, 1, 2, 3] rfl ?_
  exact lp _ (0) (0) _ rfl rfl (by omega) (by omega)

set_option maxRecDepth 100000 in
set_option maxHeartbeats 4000000 in
theorem c_X8_has (l : Launch) (D : va_G) (A : Nat → Prop) (cs : Nat → ClassId) (tt : Nat) (N : Nat) (ad : Nat → Nat) (g : Nat → va_E) (a : Nat) (hN : a + 10 ≤ N) (hw : okWorld cs ad g a) (z : Int) (hz : -2147483648 ≤ z ∧ z ≤ 2147483647) : zM l yX8_has cX8_has 3 (some .boolean) ({ frames := 2, cells := 0, slots := 0, locals := 120 } : Room) D A cs tt N ad g [.ref (ad a), .int (zI (z))] (rI0 N ad fun r g' => (0 ≤ r ∧ r ≤ 1) ∧ g = g') := by
  obtain ⟨ut, uz, uo, ur, uz4, ut5, u1, ⟨uu, u2, u3⟩, u4⟩ := id hw
  have hay1 : zAt ad (a) (ad a) := rfl
  have hay2 : zAt ad (a + 1) (ad (a + 1)) := rfl
  refine z_of (by decide) (Nat.le_of_ble_eq_true rfl) ?_
  intro p e s m below meth c C hr hlk hnm
  refine z_lv (lv' := [(0, .ref (ad a)), (1, .int (zI (z)))]) [0, 1] rfl ?_
  have lp : ∀ (n9 : Nat) (i : Int) (g1 : Nat → va_E), (4 - i).toNat = n9 → (g1 = g) → (0 ≤ i ∧ i ≤ 4) → zV p l e ({ frames := 2, cells := 0, slots := 0, locals := 120 } : Room) s m ([.ref (ad a), .int (zI (z))] : List Value).toArray below meth c (MQ below (zPost D A (rI0 N ad fun r g' => (0 ≤ r ∧ r ≤ 1) ∧ g = g')) ([.ref (ad a), .int (zI (z))] : List Value).toArray s ({ frames := 2, cells := 0, slots := 0, locals := 120 } : Room).cells ({ frames := 2, cells := 0, slots := 0, locals := 120 } : Room).slots A) D A 3 (N) ad g1 (0) (0) 2 [(2, .int (zI (i))), (0, .ref (ad a)), (1, .int (zI (z)))] [] := by
    intro n9
    induction n9 using Nat.strongRecOn with
    | ind n9 ih =>
      intro i g1 hm9 hg1 hv0
      subst hg1
      obtain ⟨ut, uz, uo, ur, uz4, ut5, u1, ⟨uu, u2, u3⟩, u4⟩ := id hw
      have hay3 : zAt ad (a) (ad a) := rfl
      have hay4 : zAt ad (a + 1) (ad (a + 1)) := rfl
      refine z_iload_n C 0 dX8_has_2 rfl ?_
      refine z_aload_n C 1 dX8_has_3 rfl ?_
      refine z_get (v := .ref (ad (a + 1))) C (lt_A0 hN rfl) hay3 u1 rfl inA_X8 6 (by decide) q_188 rfl rfl dX8_has_4 ?_
      refine z_alen (z := 4) C (lt_A (c := 1) hN rfl) hay4 u2 3 rfl rfl dX8_has_7 ?_
      refine z_icmp_ge (tgt := 32) C dX8_has_8 (by decide) (by omega) (by omega) (fun hby5 => ?_) (fun hby5 => ?_)
      · refine z_iconst (z := 0) C dX8_has_32 rfl ?_
        exact z_zret C hr hlk dX8_has_33 (by decide) (by decide) (by decide) ⟨0, rfl, rfl, rfl, by omega, rfl⟩
      · refine z_aload_n C 1 dX8_has_11 rfl ?_
        refine z_get (v := .ref (ad (a + 1))) C (lt_A0 hN rfl) hay3 u1 rfl inA_X8 6 (by decide) q_188 rfl rfl dX8_has_12 ?_
        refine z_iload_n C 0 dX8_has_15 rfl ?_
        refine z_aald C (lt_A (c := 1) hN rfl) hay4 u2 3 rfl ((i).toNat) (by omega) (by omega) (by decide) (u3 (i).toNat (by omega)) dX8_has_16 ?_
        have hay6 : zAt ad (a + 2 + 2 * (i).toNat) (ad (a + 2 + 2 * (i).toNat)) := rfl
        have hay7 : zAt ad (a + 2 + 2 * (i).toNat + 1) (ad (a + 2 + 2 * (i).toNat + 1)) := rfl
        have hpy8 := u4 (i).toNat (by omega)
        have hqy9 := uz4 (i).toNat (by omega)
        refine z_iload_n C 2 dX8_has_17 rfl ?_
        refine z_cV (As := [.int (zI (z))]) (rest := []) (ci := 5) C (c_X3_has l D A cs tt N ad _ (a + 2 + 2 * (i).toNat) (by omega) _ _ _ (by omega) ⟨hpy8.1, hpy8.2⟩  (z) (by omega)) (by omega) hay6 hpy8.1 rfl rfl mv_yX3_has q_1252 hd_yX3_has (by decide) (Nat.le_of_ble_eq_true rfl) (by decide) dX8_has_18 rfl (kI0 fun vy10 gvy10 hvy10 => ?_)
        obtain ⟨hvy10, rfl⟩ := hvy10
        refine z_if_eq (tgt := 26) C dX8_has_21 (by decide) (by omega) (fun hby11 => ?_) (fun hby11 => ?_)
        · refine z_iinc (z := i + 1) (lv' := [(2, .int (zI (i + 1))), (0, .ref (ad a)), (1, .int (zI (z)))]) (j := 0) C dX8_has_26 rfl rfl (by decide) rfl ?_
          refine z_goto (tgt := 2) C dX8_has_29 (by decide) ?_
          refine z_lv (lv' := [(2, .int (zI (i + 1))), (0, .ref (ad a)), (1, .int (zI (z)))]) [0, 1, 2] rfl ?_
          exact ih _ (by omega) (i + 1) _ rfl rfl (by omega)
        · refine z_iconst (z := 1) C dX8_has_24 rfl ?_
          exact z_zret C hr hlk dX8_has_25 (by decide) (by decide) (by decide) ⟨1, rfl, rfl, rfl, by omega, rfl⟩
  refine z_iconst (z := 0) C dX8_has_0 rfl ?_
  refine z_istore_n (lv' := [(2, .int (zI (0))), (0, .ref (ad a)), (1, .int (zI (z)))]) C dX8_has_1 rfl (by decide) rfl ?_
  refine z_lv (lv' := [(2, .int (zI (0))), (0, .ref (ad a)), (1, .int (zI (z)))]) [0, 1, 2] rfl ?_
  exact lp _ (0) _ rfl rfl (by omega)

