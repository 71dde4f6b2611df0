/-- the builder: cn letters, room for cp at least -/
def bldC (cs : Nat → ClassId) (ad : Nat → Nat) (g : Nat → va_E) (N : Nat) (cn cp : Int) : Prop := ∃ (v cap : Nat) (ml : Int) (b : Nat → Int), (v = 920 ∨ 952 ≤ v) ∧ v < N ∧ cap ≤ 1000 ∧ cp ≤ (cap : Int) ∧ (0 ≤ cn ∧ cn ≤ (cap : Int)) ∧ (0 ≤ ml ∧ ml ≤ 1) ∧ (∀ j, -128 ≤ b j ∧ b j ≤ 127) ∧ g 919 = oC 1 [.ref (ad v), .int (zI 0), .int (zI ml), .int (zI cn)] ∧ g v = bA cs cap b
/-- what stays when the builder writes -/
def GR (N : Nat) (ad : Nat → Nat) (g : Nat → va_E) (N' : Nat) (ad' : Nat → Nat) (g' : Nat → va_E) : Prop := N ≤ N' ∧ (∀ j, j < N → ad' j = ad j) ∧ ∀ j, j < 952 → j ≠ 919 → j ≠ 920 → g' j = g j
theorem GR.refl {N : Nat} {ad : Nat → Nat} {g : Nat → va_E} : GR N ad g N ad g := ⟨Nat.le_refl _, fun _ _ => rfl, fun _ _ _ _ => rfl⟩
theorem GR.trans {N N1 N2 : Nat} {ad ad1 ad2 : Nat → Nat} {g g1 g2 : Nat → va_E} (h : GR N ad g N1 ad1 g1) (k : GR N1 ad1 g1 N2 ad2 g2) : GR N ad g N2 ad2 g2 := ⟨Nat.le_trans h.1 k.1, fun j hj => (k.2.1 j (Nat.lt_of_lt_of_le hj h.1)).trans (h.2.1 j hj), fun j a b c => (k.2.2 j a b c).trans (h.2.2 j a b c)⟩
theorem fits_b {x : Int} (h : -128 ≤ x ∧ x ≤ 127) : fits .byte (.int (zI x)) = true := by
  have e1 : zI (-128) ≤ zI x := (zI_le (by omega) (by omega)).mpr h.1
  have e2 : zI x ≤ zI 127 := (zI_le (by omega) (by omega)).mpr h.2
  have k1 : zI (-128) = (-128 : Int32) := by decide
  have k2 : zI 127 = (127 : Int32) := by decide
  rw [k1] at e1
  rw [k2] at e2
  unfold fits
  simp only [Bool.and_eq_true, decide_eq_true_eq]
  exact ⟨e1, e2⟩

section ZBC
variable {p : Program} {l : Launch} {e : Env} {R : Room} {s : State} {m : MethodId} {args : Array Value} {below : List Frame} {meth : Method} {c : Code} {Q : State → Prop} {D : va_G} {A : Nat → Prop} {cs : Nat → ClassId} {tt : Nat} {cc : ByteArray} {nL : Nat} {own : String} {N : Nat} {ad : Nat → Nat} {g : Nat → va_E} {k n pc : Nat} {lv lv' : List (Nat × Value)} {rest st : List Value} {Qr : zR} {mc ms : Nat}
theorem z_copyB (C : zC p s m args c cc nL own D A cs tt) {index i j a b : Nat} (hlk : Cond.methodLink own index arraycopyName ∈ AW) (hnat : Cond.native arraycopyName ∈ AW) (hstat : Cond.static arraycopyName ∈ AW) (hini : Cond.initialized "java/lang/System" ∈ AW) (hi : i < N) (hj : j < N) (ha : ad i = a) (hb2 : ad j = b) {n0 n1 : Nat} {r r2 : Nat → Int} (hgi : g i = bA cs n0 r) (hgj : g j = bA cs n1 r2) (sp dp nn : Nat) {zs zd zn : Int} (hzs : zs = (sp : Int)) (hzd : zd = (dp : Int)) (hzn : zn = (nn : Int)) (h4 : sp + nn ≤ n0) (h5 : dp + nn ≤ n1) (hs : n0 ≤ 2147483647) (hd : n1 ≤ 2147483647) (hfit : ∀ q, -128 ≤ r q ∧ r q ≤ 127) (hframes : 1 ≤ R.frames) (hlocals : (rest.map fun v => v.category).sum + (nativeFrameWords "java/lang/System" "arraycopy" 5 + 11) ≤ R.locals) (hdg : decode cc pc = .ok (.invokestatic index, 3))
    (kk : ∀ g' : Nat → va_E, g' = va_up g j (bA cs n1 (cZ r r2 sp dp nn)) → zV p l e R s m args below meth c Q D A nL N ad g' k n (pc + 3) (lv) (rest)) : zV p l e R s m args below meth c Q D A nL N ad g k n (pc) (lv) (.int (zI zn) :: .int (zI zd) :: .ref b :: .int (zI zs) :: .ref a :: rest) := fun H locs ls hP hD hS hl => by
  subst hzs; subst hzd; subst hzn; subst ha; subst hb2
  have e1 : (zI (sp : Int)).toNatClampNeg = sp := zI_clN (by omega)
  have e2 : (zI (dp : Int)).toNatClampNeg = dp := zI_clN (by omega)
  have e3 : (zI (nn : Int)).toNatClampNeg = nn := zI_clN (by omega)
  have hneg : ∀ q : Nat, q ≤ 2147483647 → ¬ zI (q : Int) < 0 := fun q hq => by rw [← zI_0, zI_lt (by omega) (by omega)]; omega
  exact va_copyi C.1 C.2.1 (by rw [C.2.2.1]; exact hl.1.symm) C.2.2.2.1 (C.2.2.2.2.1 _ hlk) (C.2.2.2.2.1 _ hnat) (C.2.2.2.2.1 _ hstat) (C.2.2.2.2.1 _ hini) C.2.2.2.2.2.1 hP hD hS i j 0 0 (f := fun q => zI (r q)) (g := fun q => zI (r2 q)) (ty := .byte) ((wl_at hi).trans (by rw [hgi])) ((wl_at hj).trans (by rw [hgj])) rfl rfl rfl (hneg sp (by omega)) (hneg dp (by omega)) (hneg nn (by omega)) (by rw [e1, e3]; exact h4) (by rw [e2, e3]; exact h5) (fun q hq => fits_b (hfit _)) hframes hlocals hdg (fun H1 locs1 hP1 hD1 hS1 => by
    rw [e1, e2, e3] at hP1 hD1
    have e4 : va_cpy (fun q => zI (r q)) (fun q => zI (r2 q)) sp dp nn = fun q => zI (cZ r r2 sp dp nn q) := by
      funext q
      unfold va_cpy cZ
      split <;> rfl
    rw [e4, wl_set] at hP1 hD1
    exact kk _ rfl H1 locs1 ls hP1 hD1 hS1 hl)
theorem cZ_b {r r2 : Nat → Int} {sp dp nn : Nat} (h : ∀ q, -128 ≤ r q ∧ r q ≤ 127) (h2 : ∀ q, -128 ≤ r2 q ∧ r2 q ≤ 127) : ∀ q, -128 ≤ cZ r r2 sp dp nn q ∧ cZ r r2 sp dp nn q ≤ 127 := fun q => by
  unfold cZ
  split
  · exact h _
  · exact h2 _
theorem SKL_by : ∀ q ∈ SKL, ∀ x ∈ q.2.2.2.2, 0 ≤ x.toInt ∧ x.toInt ≤ 127 := by decide
theorem SKL_g {q : String × Nat × String × Nat × List Int32} (hq : q ∈ SKL) (j : Nat) : 0 ≤ (q.2.2.2.2.getD j 0).toInt ∧ (q.2.2.2.2.getD j 0).toInt ≤ 127 := by
  by_cases h : j < q.2.2.2.2.length
  · have e : q.2.2.2.2.getD j 0 = q.2.2.2.2[j] := by simp [List.getD, h]
    rw [e]
    exact SKL_by q hq _ (List.getElem_mem h)
  · have e : q.2.2.2.2.getD j 0 = 0 := by simp [List.getD, List.getElem?_eq_none (Nat.le_of_not_lt h)]
    rw [e]
    decide
theorem z_copyS (C : zC p s m args c cc nL own D A cs tt) {q : String × Nat × String × Nat × List Int32} (hq : q ∈ SKL) {index j b : Nat} (hlk : Cond.methodLink own index arraycopyName ∈ AW) (hnat : Cond.native arraycopyName ∈ AW) (hstat : Cond.static arraycopyName ∈ AW) (hini : Cond.initialized "java/lang/System" ∈ AW) (hj : j < N) (hb2 : ad j = b) {n1 : Nat} {r2 : Nat → Int} (hgj : g j = bA cs n1 r2) (dp : Nat) {zd zn : Int} (hzd : zd = (dp : Int)) (hzn : zn = (q.2.2.2.2.length : Int)) (h5 : dp + q.2.2.2.2.length ≤ n1) (hd : n1 ≤ 2147483647) (hframes : 1 ≤ R.frames) (hlocals : (rest.map fun v => v.category).sum + (nativeFrameWords "java/lang/System" "arraycopy" 5 + 11) ≤ R.locals) (hdg : decode cc pc = .ok (.invokestatic index, 3))
    (kk : ∀ g' : Nat → va_E, g' = va_up g j (bA cs n1 (cZ (fun k => (q.2.2.2.2.getD k 0).toInt) r2 0 dp q.2.2.2.2.length)) → zV p l e R s m args below meth c Q D A nL N ad g' k n (pc + 3) (lv) (rest)) : zV p l e R s m args below meth c Q D A nL N ad g k n (pc) (lv) (.int (zI zn) :: .int (zI zd) :: .ref b :: .int (zI 0) :: .ref (cs (200 + q.2.2.2.1)) :: rest) := fun H locs ls hP hD hS hl => by
  subst hzd; subst hzn; subst hb2
  have e2 : (zI (dp : Int)).toNatClampNeg = dp := zI_clN (by omega)
  have e3 : (zI (q.2.2.2.2.length : Int)).toNatClampNeg = q.2.2.2.2.length := zI_clN (by omega)
  have e1 : (zI 0).toNatClampNeg = 0 := rfl
  have hneg : ∀ k : Nat, k ≤ 2147483647 → ¬ zI (k : Int) < 0 := fun k hk => by rw [← zI_0, zI_lt (by omega) (by omega)]; omega
  exact vk_copyt C.1 C.2.1 (by rw [C.2.2.1]; exact hl.1.symm) C.2.2.2.1 (C.2.2.2.2.1 _ hlk) (C.2.2.2.2.1 _ hnat) (C.2.2.2.2.1 _ hstat) (C.2.2.2.2.1 _ hini) C.2.2.2.2.2.1 hP hD hS (C.S.1 q hq).2.2.2.2 j 0 (g := fun k => zI (r2 k)) ((wl_at hj).trans (by rw [hgj])) rfl (by decide) (hneg dp (by omega)) (hneg _ (by omega)) (by rw [e1, e3]; omega) (by rw [e2, e3]; exact h5) (fun k hk => by
    have h9 := SKL_g hq ((zI 0).toNatClampNeg + k)
    have h8 := fits_b (x := (q.2.2.2.2.getD ((zI 0).toNatClampNeg + k) 0).toInt) (by omega)
    rw [show zI ((q.2.2.2.2.getD ((zI 0).toNatClampNeg + k) 0).toInt) = q.2.2.2.2.getD ((zI 0).toNatClampNeg + k) 0 from Int32.ofInt_toInt _] at h8
    exact h8) hframes hlocals hdg (fun H1 locs1 hP1 hD1 hS1 => by
    rw [e1, e2, e3] at hP1 hD1
    have e4 : va_cpy (fun k => q.2.2.2.2.getD k 0) (fun k => zI (r2 k)) 0 dp q.2.2.2.2.length = fun k => zI (cZ (fun k => (q.2.2.2.2.getD k 0).toInt) r2 0 dp q.2.2.2.2.length k) := by
      funext k
      unfold va_cpy cZ
      split
      · exact (Int32.ofInt_toInt _).symm
      · rfl
    rw [e4, wl_set] at hP1 hD1
    exact kk _ rfl H1 locs1 ls hP1 hD1 hS1 hl)
end ZBC

theorem shl0 (x : Int) : zI x <<< (zI 0 &&& 31) = zI x := by simp [show zI 0 = (0 : Int32) from rfl]
set_option maxRecDepth 100000 in
set_option maxHeartbeats 4000000 in
theorem c_newLength (l : Launch) (D : va_G) (A : Nat → Prop) (cs : Nat → ClassId) (tt : Nat) (N : Nat) (ad : Nat → Nat) (g : Nat → va_E) (z : Int) (hz : 0 ≤ z ∧ z ≤ 1000) (z1 : Int) (hz1 : 0 ≤ z1 ∧ z1 ≤ 1000) (z2 : Int) (hz2 : 1 ≤ z2 ∧ z2 ≤ 1002) : zM l yJ8_newLength_cabcc cJ8_newLength_cabcc 4 (some .int) ({ frames := 2, cells := 0, slots := 0, locals := 120 } : Room) D A cs tt N ad g [.int (zI (z)), .int (zI (z1)), .int (zI (z2))] (rI0 N ad fun r g' => ((r = z + z1 ∧ z2 ≤ z1) ∨ (r = z + z2 ∧ z1 ≤ z2)) ∧ g = g') := by
  refine z_of (by decide) (Nat.le_of_ble_eq_true rfl) ?_
  intro p e s m below meth c C hr hlk hnm
  refine z_lv (lv' := [(0, .int (zI (z))), (1, .int (zI (z1))), (2, .int (zI (z2)))]) [0, 1, 2] rfl ?_
  refine z_iload_n C 0 dJ8_newLength_cabcc_0 rfl ?_
  refine z_iload_n C 1 dJ8_newLength_cabcc_1 rfl ?_
  refine z_iload_n C 2 dJ8_newLength_cabcc_2 rfl ?_
  refine z_mmax C q_996 q_470 q_20 q_471 (by omega) (by omega) (by decide) (Nat.le_of_ble_eq_true rfl) (by decide) (by decide) dJ8_newLength_cabcc_3 ?_
  obtain ⟨xy1, exy2, hxy3⟩ := mm_max (z1) (z2)
  rw [exy2]
  refine z_iadd C dJ8_newLength_cabcc_6 ?_
  refine z_istore_n (lv' := [(3, .int (zI (z + xy1))), (0, .int (zI (z))), (1, .int (zI (z1))), (2, .int (zI (z2)))]) C dJ8_newLength_cabcc_7 rfl (by decide) rfl ?_
  refine z_iconst (z := 0) C dJ8_newLength_cabcc_8 rfl ?_
  refine z_iload_n C 0 dJ8_newLength_cabcc_9 rfl ?_
  refine z_icmp_ge (tgt := 21) C dJ8_newLength_cabcc_10 (by decide) (by omega) (by omega) (fun h => absurd h (by omega)) (fun _ => ?_)
  refine z_iload_n C 0 dJ8_newLength_cabcc_13 rfl ?_
  refine z_ldc (z := 2147483639) C dJ8_newLength_cabcc_14 q_997 (by decide) ?_
  refine z_icmp_gt (tgt := 21) C dJ8_newLength_cabcc_16 (by decide) (by omega) (by omega) (fun h => absurd h (by omega)) (fun _ => ?_)
  refine z_iload_n C 0 dJ8_newLength_cabcc_19 rfl ?_
  exact z_iret C hr hlk dJ8_newLength_cabcc_20 (by decide) (by decide) ⟨z + xy1, rfl, rfl, rfl, by omega, rfl⟩

set_option maxRecDepth 100000 in
set_option maxHeartbeats 4000000 in
theorem c_newCap (l : Launch) (D : va_G) (A : Nat → Prop) (cs : Nat → ClassId) (tt : Nat) (N : Nat) (ad : Nat → Nat) (g : Nat → va_E) (hN : 952 ≤ N) (b9 : Nat) (hb9 : zAt ad 919 b9) (v cap : Nat) (ml cn : Int) (b : Nat → Int) (hv : v < N) (h9 : g 919 = oC 1 [.ref (ad v), .int (zI 0), .int (zI ml), .int (zI cn)]) (hgv : g v = bA cs cap b) (z : Int) (hz : (cap : Int) < z ∧ z ≤ 81) : zM l yJ5_newCapacity_0f7a4 cJ5_newCapacity_0f7a4 6 (some .int) ({ frames := 3, cells := 0, slots := 0, locals := 180 } : Room) D A cs tt N ad g [.ref b9, .int (zI (z))] (rI0 N ad fun r g' => (z ≤ r ∧ r ≤ 164) ∧ g = g') := by
  have hay1 : zAt ad (v) (ad v) := rfl
  refine z_of (by decide) (Nat.le_of_ble_eq_true rfl) ?_
  intro p e s m below meth c C hr hlk hnm
  refine z_lv (lv' := [(0, .ref b9), (1, .int (zI (z)))]) [0, 1] rfl ?_
  refine z_aload_n C 0 dJ5_newCapacity_0f7a4_0 rfl ?_
  refine z_get (v := .ref (ad v)) C (lt_K hN (rfl : Nat.blt (919) 952 = true)) hb9 h9 rfl inA_J4 0 (by decide) q_335 rfl rfl dJ5_newCapacity_0f7a4_1 ?_
  refine z_alen (z := (cap : Int)) C (by omega) hay1 hgv 0 rfl rfl dJ5_newCapacity_0f7a4_4 ?_
  refine z_istore_n (lv' := [(2, .int (zI ((cap : Int)))), (0, .ref b9), (1, .int (zI (z)))]) C dJ5_newCapacity_0f7a4_5 rfl (by decide) rfl ?_
  refine z_iload_n C 2 dJ5_newCapacity_0f7a4_6 rfl ?_
  refine z_aload_n C 1 dJ5_newCapacity_0f7a4_7 rfl ?_
  refine z_get (v := .int (zI (0))) C (lt_K hN (rfl : Nat.blt (919) 952 = true)) hb9 h9 rfl inA_J4 1 (by decide) q_336 rfl rfl dJ5_newCapacity_0f7a4_8 ?_
  refine z_ishl (z := z) C dJ5_newCapacity_0f7a4_11 (shl0 _) ?_
  refine z_istore_n (lv' := [(3, .int (zI (z))), (2, .int (zI ((cap : Int)))), (0, .ref b9), (1, .int (zI (z)))]) C dJ5_newCapacity_0f7a4_12 rfl (by decide) rfl ?_
  refine z_iload_n C 0 dJ5_newCapacity_0f7a4_13 rfl ?_
  refine z_iload_n C 1 dJ5_newCapacity_0f7a4_14 rfl ?_
  refine z_isub C dJ5_newCapacity_0f7a4_15 ?_
  refine z_istore (lv' := [(4, .int (zI (z - ((cap : Int))))), (3, .int (zI (z))), (2, .int (zI ((cap : Int)))), (0, .ref b9), (1, .int (zI (z)))]) C dJ5_newCapacity_0f7a4_16 (by decide) rfl ?_
  refine z_iload_n C 2 dJ5_newCapacity_0f7a4_18 rfl ?_
  refine z_iload C 0 dJ5_newCapacity_0f7a4_19 rfl ?_
  refine z_iload_n C 2 dJ5_newCapacity_0f7a4_21 rfl ?_
  refine z_iconst (z := 2) C dJ5_newCapacity_0f7a4_22 rfl ?_
  refine z_aload_n C 3 dJ5_newCapacity_0f7a4_23 rfl ?_
  refine z_get (v := .int (zI (0))) C (lt_K hN (rfl : Nat.blt (919) 952 = true)) hb9 h9 rfl inA_J4 1 (by decide) q_336 rfl rfl dJ5_newCapacity_0f7a4_24 ?_
  refine z_ishl (z := 2) C dJ5_newCapacity_0f7a4_27 (shl0 _) ?_
  refine z_iadd C dJ5_newCapacity_0f7a4_28 ?_
  refine z_cS (As := [.int (zI ((cap : Int))), .int (zI (z - ((cap : Int)))), .int (zI (((cap : Int)) + 2))]) (rest := []) C (c_newLength l D A cs tt N ad _ ((cap : Int)) (by omega) (z - ((cap : Int))) (by omega) (((cap : Int)) + 2) (by omega)) ms_yJ8_newLength_cabcc q_993 hd_yJ8_newLength_cabcc (by decide) (Nat.le_of_ble_eq_true rfl) (by decide) dJ5_newCapacity_0f7a4_29 rfl (kI0 fun vy2 gvy2 hvy2 => ?_)
  obtain ⟨hvy2, rfl⟩ := hvy2
  refine z_istore (lv' := [(5, .int (zI (vy2))), (4, .int (zI (z - ((cap : Int))))), (3, .int (zI (z))), (2, .int (zI ((cap : Int)))), (0, .ref b9), (1, .int (zI (z)))]) C dJ5_newCapacity_0f7a4_32 (by decide) rfl ?_
  refine z_iload C 0 dJ5_newCapacity_0f7a4_34 rfl ?_
  refine z_ldc (z := 2147483647) C dJ5_newCapacity_0f7a4_36 q_1001 (by decide) ?_
  refine z_icmp_ne (tgt := 51) C dJ5_newCapacity_0f7a4_38 (by decide) (by omega) (by omega) (fun _ => ?_) (fun h => absurd h (by omega))
  refine z_iload C 0 dJ5_newCapacity_0f7a4_51 rfl ?_
  refine z_aload_n C 4 dJ5_newCapacity_0f7a4_53 rfl ?_
  refine z_get (v := .int (zI (0))) C (lt_K hN (rfl : Nat.blt (919) 952 = true)) hb9 h9 rfl inA_J4 1 (by decide) q_336 rfl rfl dJ5_newCapacity_0f7a4_54 ?_
  refine z_ishr (z := vy2) C dJ5_newCapacity_0f7a4_57 (shr0 _) ?_
  exact z_iret C hr hlk dJ5_newCapacity_0f7a4_58 (by decide) (by decide) ⟨vy2, rfl, rfl, rfl, by omega, rfl⟩

set_option maxRecDepth 100000 in
set_option maxHeartbeats 4000000 in
theorem c_copyOf (l : Launch) (D : va_G) (A : Nat → Prop) (cs : Nat → ClassId) (tt : Nat) (N : Nat) (ad : Nat → Nat) (g : Nat → va_E) (v cap : Nat) (b : Nat → Int) (hv : v < N) (hcap : cap ≤ 1000) (hby : ∀ j, -128 ≤ b j ∧ b j ≤ 127) (hgv : g v = bA cs cap b) (z : Int) (hz : (cap : Int) < z ∧ z ≤ 164) : zM l yJ7_copyOf_9075b cJ7_copyOf_9075b 3 (some (.array .byte)) ({ frames := 2, cells := 1, slots := 164, locals := 120 } : Room) D A cs tt N ad g [.ref (ad v), .int (zI (z))] (rR fun a N' ad' g' => N' = N + 1 ∧ a = ad' N ∧ (∀ j, j < N → ad' j = ad j) ∧ (∀ j, j < N → g' j = g j) ∧ ∃ b' : Nat → Int, (∀ j, -128 ≤ b' j ∧ b' j ≤ 127) ∧ g' N = bA cs z.toNat b') := by
  have hay1 : zAt ad (v) (ad v) := rfl
  refine z_of (by decide) (Nat.le_of_ble_eq_true rfl) ?_
  intro p e s m below meth c C hr hlk hnm
  refine z_lv (lv' := [(0, .ref (ad v)), (1, .int (zI (z)))]) [0, 1] rfl ?_
  refine z_iload_n C 1 dJ7_copyOf_9075b_0 rfl ?_
  refine z_aload_n C 0 dJ7_copyOf_9075b_1 rfl ?_
  refine z_alen (z := (cap : Int)) C (by omega) hay1 hgv 0 rfl rfl dJ7_copyOf_9075b_2 ?_
  refine z_icmp_ne (tgt := 14) C dJ7_copyOf_9075b_3 (by decide) (by omega) (by omega) (fun _ => ?_) (fun h => absurd h (by omega))
  refine z_iload_n C 1 dJ7_copyOf_9075b_14 rfl ?_
  refine z_newB C ((z).toNat) (by omega) q_72 ⟨by show (z).toNat * 1 ≤ _; omega, by omega⟩ (by decide) (by show 0 + (z).toNat ≤ 164; omega) dJ7_copyOf_9075b_15 (fun qy2 ady3 gy4 eay5 egy6 => ?_)
  refine z_widen (k2 := 1) (n2 := 164) (by decide) (by omega) ?_
  have hay7 : zAt ady3 (N) qy2 := up_s eay5
  have hgy8 := up_s egy6
  refine z_astore_n (lv' := [(2, .ref qy2), (0, .ref (ad v)), (1, .int (zI (z)))]) C dJ7_copyOf_9075b_17 rfl (by decide) rfl ?_
  refine z_aload_n C 1 dJ7_copyOf_9075b_18 rfl ?_
  refine z_iconst (z := 0) C dJ7_copyOf_9075b_19 rfl ?_
  refine z_aload_n C 0 dJ7_copyOf_9075b_20 rfl ?_
  refine z_iconst (z := 0) C dJ7_copyOf_9075b_21 rfl ?_
  refine z_aload_n C 1 dJ7_copyOf_9075b_22 rfl ?_
  have hay9 : zAt ady3 (v) (ad v) := up_n eay5 hay1 (by omega)
  have hgy10 := up_n egy6 hgv (by omega)
  refine z_alen (z := (cap : Int)) C (by omega) hay9 hgy10 0 rfl rfl dJ7_copyOf_9075b_23 ?_
  refine z_iload_n C 2 dJ7_copyOf_9075b_24 rfl ?_
  refine z_mmin C q_1010 q_473 q_20 q_474 (by omega) (by omega) (by decide) (Nat.le_of_ble_eq_true rfl) (by decide) (by decide) dJ7_copyOf_9075b_25 ?_
  obtain ⟨xy11, exy12, hxy13⟩ := mm_min ((cap : Int)) (z)
  rw [exy12]
  refine z_copyB C q_1011 q_430 q_429 q_21 (by omega) (lt_o (i := N) (c := 0) (d := 1) rfl) hay9 hay7 hgy10 hgy8 0 0 cap rfl rfl (by omega) (by omega) (by omega) (by omega) (by omega) hby (by decide) (Nat.le_of_ble_eq_true rfl) dJ7_copyOf_9075b_28 (fun gy14 egy15 => ?_)
  have hgy16 := up_s egy15
  refine z_aload_n C 0 dJ7_copyOf_9075b_31 rfl ?_
  exact z_aret C hr (Or.inr ⟨_, rfl⟩) hlk dJ7_copyOf_9075b_32 (by decide) (by decide) ⟨_, rfl, rfl, hay7.symm, fun j j1 => by rw [eay5, va_up_ne _ _ (by omega)], fun j j1 => by rw [egy15, va_up_ne _ _ (by omega)]; rw [egy6, va_up_ne _ _ (by omega)], _, cZ_b hby (fun _ => by decide), hgy16⟩

set_option maxRecDepth 100000 in
set_option maxHeartbeats 4000000 in
theorem c_ensure (l : Launch) (D : va_G) (A : Nat → Prop) (cs : Nat → ClassId) (tt : Nat) (N : Nat) (ad : Nat → Nat) (g : Nat → va_E) (hN : 952 ≤ N) (cn cp : Int) (hB : bldC cs ad g N cn cp) (b9 : Nat) (hb9 : zAt ad 919 b9) (z : Int) (hz : 0 ≤ z ∧ z ≤ 81) : zM l yJ5_ensureCapacityInternal_d00df cJ5_ensureCapacityInternal_d00df 3 none ({ frames := 4, cells := 1, slots := 164, locals := 240 } : Room) D A cs tt N ad g [.ref b9, .int (zI (z))] (rV fun N' ad' g' => GR N ad g N' ad' g' ∧ bldC cs ad' g' N' (cn) (z)) := by
  obtain ⟨v_y1, cap_y1, ml_y1, b_y1, hv_y1, hvN_y1, hcap_y1, hcp_y1, hcn_y1, hml_y1, hby_y1, h9_y1, hgv_y1⟩ := id hB
  have hay2 : zAt ad (v_y1) (ad v_y1) := rfl
  refine z_of (by decide) (Nat.le_of_ble_eq_true rfl) ?_
  intro p e s m below meth c C hr hlk hnm
  refine z_lv (lv' := [(0, .ref b9), (1, .int (zI (z)))]) [0, 1] rfl ?_
  refine z_aload_n C 0 dJ5_ensureCapacityInternal_d00df_0 rfl ?_
  refine z_get (v := .ref (ad v_y1)) C (lt_K hN (rfl : Nat.blt (919) 952 = true)) hb9 h9_y1 rfl inA_J4 0 (by decide) q_335 rfl rfl dJ5_ensureCapacityInternal_d00df_1 ?_
  refine z_alen (z := (cap_y1 : Int)) C (by omega) hay2 hgv_y1 0 rfl rfl dJ5_ensureCapacityInternal_d00df_4 ?_
  refine z_aload_n C 0 dJ5_ensureCapacityInternal_d00df_5 rfl ?_
  refine z_get (v := .int (zI (0))) C (lt_K hN (rfl : Nat.blt (919) 952 = true)) hb9 h9_y1 rfl inA_J4 1 (by decide) q_336 rfl rfl dJ5_ensureCapacityInternal_d00df_6 ?_
  refine z_ishr (z := (cap_y1 : Int)) C dJ5_ensureCapacityInternal_d00df_9 (shr0 _) ?_
  refine z_istore_n (lv' := [(2, .int (zI ((cap_y1 : Int)))), (0, .ref b9), (1, .int (zI (z)))]) C dJ5_ensureCapacityInternal_d00df_10 rfl (by decide) rfl ?_
  refine z_iload_n C 2 dJ5_ensureCapacityInternal_d00df_11 rfl ?_
  refine z_iload_n C 0 dJ5_ensureCapacityInternal_d00df_12 rfl ?_
  refine z_isub C dJ5_ensureCapacityInternal_d00df_13 ?_
  refine z_if_le (tgt := 38) C dJ5_ensureCapacityInternal_d00df_14 (by decide) (by omega) (fun hby3 => ?_) (fun hby3 => ?_)
  · refine z_widen (k2 := 1) (n2 := 164) (by decide) (by decide) ?_
    have hBy4 : bldC cs ad g (N) (cn) (z) := ⟨v_y1, cap_y1, ml_y1, b_y1, by omega, by omega, by omega, by omega, by omega, by omega, hby_y1, h9_y1, hgv_y1⟩
    have hGRy5 : GR N ad g (N) ad g := ⟨by omega, fun j j1 => by rfl, fun j j1 j2 j3 => by rfl⟩
    exact z_vret C hr hlk dJ5_ensureCapacityInternal_d00df_38 (by decide) (by decide) ⟨rfl, hGRy5, hBy4⟩
  · refine z_aload_n C 1 dJ5_ensureCapacityInternal_d00df_17 rfl ?_
    refine z_aload_n C 1 dJ5_ensureCapacityInternal_d00df_18 rfl ?_
    refine z_get (v := .ref (ad v_y1)) C (lt_K hN (rfl : Nat.blt (919) 952 = true)) hb9 h9_y1 rfl inA_J4 0 (by decide) q_335 rfl rfl dJ5_ensureCapacityInternal_d00df_19 ?_
    refine z_aload_n C 1 dJ5_ensureCapacityInternal_d00df_22 rfl ?_
    refine z_iload_n C 2 dJ5_ensureCapacityInternal_d00df_23 rfl ?_
    refine z_cVP (As := [.int (zI (z))]) (rest := [.ref (ad v_y1), .ref b9]) (ci := 1) C (c_newCap l D A cs tt N ad _ (by omega) _ hb9 (v_y1) _ _ _ _ (by omega) h9_y1 hgv_y1 (z) (by omega)) (lt_K hN (rfl : Nat.blt (919) 952 = true)) hb9 h9_y1 rfl q_989 q_2124 n_990 q_991 q_11 q_992 hd_yJ5_newCapacity_0f7a4 (by decide) (Nat.le_of_ble_eq_true rfl) (by decide) dJ5_ensureCapacityInternal_d00df_24 rfl (kI0 fun vy6 gvy6 hvy6 => ?_)
    obtain ⟨hvy6, rfl⟩ := hvy6
    refine z_aload_n C 1 dJ5_ensureCapacityInternal_d00df_27 rfl ?_
    refine z_get (v := .int (zI (0))) C (lt_K hN (rfl : Nat.blt (919) 952 = true)) hb9 h9_y1 rfl inA_J4 1 (by decide) q_336 rfl rfl dJ5_ensureCapacityInternal_d00df_28 ?_
    refine z_ishl (z := vy6) C dJ5_ensureCapacityInternal_d00df_31 (shl0 _) ?_
    refine z_cS (As := [.ref (ad v_y1), .int (zI (vy6))]) (rest := [.ref b9]) C (c_copyOf l D A cs tt N ad _ v_y1 _ _ (by omega) (by omega) hby_y1 hgv_y1 (vy6) (by omega)) ms_yJ7_copyOf_9075b q_1002 hd_yJ7_copyOf_9075b (by decide) (Nat.le_of_ble_eq_true rfl) (by decide) dJ5_ensureCapacityInternal_d00df_32 rfl (kR fun avy7 Nvy7 advy7 gvy7 hvy7 => ?_)
    obtain ⟨hNvy7, havy7, hAvy7, hGvy7, bvy7, hbvy7, hcvy7⟩ := hvy7
    have hatvy7 : zAt advy7 (N) avy7 := havy7.symm
    have hay8 : zAt advy7 (919) (b9) := (hAvy7 (919) (lt_K hN (rfl : Nat.blt (919) 952 = true))).trans hb9
    have hgy9 := (hGvy7 (919) (lt_K hN (rfl : Nat.blt (919) 952 = true))).trans h9_y1
    refine z_put (fs' := [.ref avy7, .int (zI (0)), .int (zI (ml_y1)), .int (zI (cn))]) C (by omega) hay8 hgy9 tyJ4 tyJ4_ok nmJ4 rfl inA_J4 0 (by decide) q_335 rfl rfl rfl rfl (Nat.le_of_ble_eq_true rfl) rfl dJ5_ensureCapacityInternal_d00df_35 (fun gy10 egy11 => ?_)
    have hgy12 := up_s egy11
    have hgy13 := up_n egy11 hcvy7 (by omega)
    have hBy14 : bldC cs advy7 gy10 (Nvy7) (cn) (z) := ⟨N, (vy6).toNat, ml_y1, bvy7, by omega, by omega, by omega, by omega, by omega, by omega, hbvy7, (by rw [show advy7 (N) = avy7 from hatvy7]; exact hgy12), hgy13⟩
    have hGRy15 : GR N ad g (Nvy7) advy7 gy10 := ⟨by omega, fun j j1 => by rw [hAvy7 _ (by omega)], fun j j1 j2 j3 => by rw [egy11, va_up_ne _ _ (by omega)]; rw [hGvy7 _ (by omega)]⟩
    exact z_vret C hr hlk dJ5_ensureCapacityInternal_d00df_38 (by decide) (by decide) ⟨rfl, hGRy15, hBy14⟩

set_option maxRecDepth 100000 in
set_option maxHeartbeats 4000000 in
theorem c_bLatin1 (l : Launch) (D : va_G) (A : Nat → Prop) (cs : Nat → ClassId) (tt : Nat) (N : Nat) (ad : Nat → Nat) (g : Nat → va_E) (hN : 952 ≤ N) (cn cp : Int) (hB : bldC cs ad g N cn cp) (b9 : Nat) (hb9 : zAt ad 919 b9) : zM l yJ5_isLatin1_aae02 cJ5_isLatin1_aae02 1 (some .boolean) ({ frames := 1, cells := 0, slots := 0, locals := 60 } : Room) D A cs tt N ad g [.ref b9] (rI0 N ad fun r g' => r = 1 ∧ g = g') := by
  obtain ⟨v_y1, cap_y1, ml_y1, b_y1, hv_y1, hvN_y1, hcap_y1, hcp_y1, hcn_y1, hml_y1, hby_y1, h9_y1, hgv_y1⟩ := id hB
  have hay2 : zAt ad (v_y1) (ad v_y1) := rfl
  refine z_of (by decide) (Nat.le_of_ble_eq_true rfl) ?_
  intro p e s m below meth c C hr hlk hnm
  refine z_lv (lv' := [(0, .ref b9)]) [0] rfl ?_
  refine z_getZ C q_326 dJ5_isLatin1_aae02_0 ?_
  refine z_if_eq (tgt := 17) C dJ5_isLatin1_aae02_3 (by decide) (by omega) (fun h => absurd h (by omega)) (fun _ => ?_)
  refine z_aload_n C 0 dJ5_isLatin1_aae02_6 rfl ?_
  refine z_get (v := .int (zI (0))) C (lt_K hN (rfl : Nat.blt (919) 952 = true)) hb9 h9_y1 rfl inA_J4 1 (by decide) q_336 rfl rfl dJ5_isLatin1_aae02_7 ?_
  refine z_if_ne (tgt := 17) C dJ5_isLatin1_aae02_10 (by decide) (by omega) (fun h => absurd h (by omega)) (fun _ => ?_)
  refine z_iconst (z := 1) C dJ5_isLatin1_aae02_13 rfl ?_
  refine z_goto (tgt := 18) C dJ5_isLatin1_aae02_14 (by decide) ?_
  exact z_zret C hr hlk dJ5_isLatin1_aae02_18 (by decide) (by decide) (by decide) ⟨1, rfl, rfl, rfl, rfl, rfl⟩

set_option maxRecDepth 100000 in
set_option maxHeartbeats 4000000 in
theorem c_setLen (l : Launch) (D : va_G) (A : Nat → Prop) (cs : Nat → ClassId) (tt : Nat) (N : Nat) (ad : Nat → Nat) (g : Nat → va_E) (hN : 952 ≤ N) (cn cp : Int) (hB : bldC cs ad g N cn cp) (b9 : Nat) (hb9 : zAt ad 919 b9) : zM l yJ5_setLength_d00df cJ5_setLength_d00df 2 none ({ frames := 5, cells := 1, slots := 164, locals := 300 } : Room) D A cs tt N ad g [.ref b9, .int (zI (0))] (rV fun N' ad' g' => GR N ad g N' ad' g' ∧ bldC cs ad' g' N' (0) (0)) := by
  obtain ⟨v_y1, cap_y1, ml_y1, b_y1, hv_y1, hvN_y1, hcap_y1, hcp_y1, hcn_y1, hml_y1, hby_y1, h9_y1, hgv_y1⟩ := id hB
  have hay2 : zAt ad (v_y1) (ad v_y1) := rfl
  refine z_of (by decide) (Nat.le_of_ble_eq_true rfl) ?_
  intro p e s m below meth c C hr hlk hnm
  refine z_lv (lv' := [(0, .ref b9), (1, .int (zI (0)))]) [0, 1] rfl ?_
  refine z_iload_n C 1 dJ5_setLength_d00df_0 rfl ?_
  refine z_if_ge (tgt := 13) C dJ5_setLength_d00df_1 (by decide) (by omega) (fun _ => ?_) (fun h => absurd h (by omega))
  refine z_aload_n C 0 dJ5_setLength_d00df_13 rfl ?_
  refine z_iload_n C 1 dJ5_setLength_d00df_14 rfl ?_
  have hBy3 : bldC cs ad g (N) (cn) ((cap_y1 : Int)) := ⟨v_y1, cap_y1, ml_y1, b_y1, by omega, by omega, by omega, by omega, by omega, by omega, hby_y1, h9_y1, hgv_y1⟩
  refine z_cVP (As := [.int (zI (0))]) (rest := []) (ci := 1) C (c_ensure l D A cs tt N ad _ (by omega) _ _ hBy3 _ hb9 (0) (by omega)) (lt_K hN (rfl : Nat.blt (919) 952 = true)) hb9 h9_y1 rfl q_985 q_2123 n_986 q_987 q_11 q_988 hd_yJ5_ensureCapacityInternal_d00df (by decide) (Nat.le_of_ble_eq_true rfl) (by decide) dJ5_setLength_d00df_15 rfl (kV fun Nvy4 advy4 gvy4 hvy4 => ?_)
  obtain ⟨⟨hNvy4, hAvy4, hGvy4⟩, hBvy4⟩ := hvy4
  obtain ⟨v_y5, cap_y5, ml_y5, b_y5, hv_y5, hvN_y5, hcap_y5, hcp_y5, hcn_y5, hml_y5, hby_y5, h9_y5, hgv_y5⟩ := id hBvy4
  have hay6 : zAt advy4 (v_y5) (advy4 v_y5) := rfl
  refine z_aload_n C 0 dJ5_setLength_d00df_18 rfl ?_
  have hay7 : zAt advy4 (919) (b9) := (hAvy4 (919) (lt_K hN (rfl : Nat.blt (919) 952 = true))).trans hb9
  refine z_get (v := .int (zI (cn))) C (by omega) hay7 h9_y5 rfl inA_J4 3 (by decide) q_339 rfl rfl dJ5_setLength_d00df_19 ?_
  refine z_iload_n C 1 dJ5_setLength_d00df_22 rfl ?_
  refine z_icmp_ge (tgt := 63) C dJ5_setLength_d00df_23 (by decide) (by omega) (by omega) (fun _ => ?_) (fun h => absurd h (by omega))
  refine z_aload_n C 0 dJ5_setLength_d00df_63 rfl ?_
  refine z_get (v := .int (zI (cn))) C (by omega) hay7 h9_y5 rfl inA_J4 3 (by decide) q_339 rfl rfl dJ5_setLength_d00df_64 ?_
  refine z_iload_n C 1 dJ5_setLength_d00df_67 rfl ?_
  refine z_icmp_le (tgt := 76) C dJ5_setLength_d00df_68 (by decide) (by omega) (by omega) (fun hby8 => ?_) (fun hby8 => ?_)
  · refine z_aload_n C 0 dJ5_setLength_d00df_76 rfl ?_
    refine z_iload_n C 1 dJ5_setLength_d00df_77 rfl ?_
    refine z_put (fs' := [.ref (advy4 v_y5), .int (zI (0)), .int (zI (ml_y5)), .int (zI (0))]) C (by omega) hay7 h9_y5 tyJ4 tyJ4_ok nmJ4 rfl inA_J4 3 (by decide) q_339 rfl rfl rfl rfl (Nat.le_of_ble_eq_true rfl) rfl dJ5_setLength_d00df_78 (fun gy9 egy10 => ?_)
    have hgy11 := up_s egy10
    have hgy12 := up_n egy10 hgv_y5 (by omega)
    have hBy13 : bldC cs advy4 gy9 (Nvy4) (0) (0) := ⟨v_y5, cap_y5, ml_y5, b_y5, by omega, by omega, by omega, by omega, by omega, by omega, hby_y5, hgy11, hgy12⟩
    have hGRy14 : GR N ad g (Nvy4) advy4 gy9 := ⟨by omega, fun j j1 => by rw [hAvy4 _ (by omega)], fun j j1 j2 j3 => by rw [egy10, va_up_ne _ _ (by omega)]; rw [hGvy4 _ (by omega) (by omega) (by omega)]⟩
    exact z_vret C hr hlk dJ5_setLength_d00df_81 (by decide) (by decide) ⟨rfl, hGRy14, hBy13⟩
  · refine z_aload_n C 0 dJ5_setLength_d00df_71 rfl ?_
    refine z_iconst (z := 1) C dJ5_setLength_d00df_72 rfl ?_
    refine z_put (fs' := [.ref (advy4 v_y5), .int (zI (0)), .int (zI (1)), .int (zI (cn))]) C (by omega) hay7 h9_y5 tyJ4 tyJ4_ok nmJ4 rfl inA_J4 2 (by decide) q_337 rfl rfl (by decide) rfl (Nat.le_of_ble_eq_true rfl) rfl dJ5_setLength_d00df_73 (fun gy15 egy16 => ?_)
    have hgy17 := up_s egy16
    refine z_aload_n C 0 dJ5_setLength_d00df_76 rfl ?_
    refine z_iload_n C 1 dJ5_setLength_d00df_77 rfl ?_
    refine z_put (fs' := [.ref (advy4 v_y5), .int (zI (0)), .int (zI (1)), .int (zI (0))]) C (by omega) hay7 hgy17 tyJ4 tyJ4_ok nmJ4 rfl inA_J4 3 (by decide) q_339 rfl rfl rfl rfl (Nat.le_of_ble_eq_true rfl) rfl dJ5_setLength_d00df_78 (fun gy18 egy19 => ?_)
    have hgy20 := up_s egy19
    have hgy21 := up_n egy16 hgv_y5 (by omega)
    have hgy22 := up_n egy19 hgy21 (by omega)
    have hBy23 : bldC cs advy4 gy18 (Nvy4) (0) (0) := ⟨v_y5, cap_y5, 1, b_y5, by omega, by omega, by omega, by omega, by omega, by omega, hby_y5, hgy20, hgy22⟩
    have hGRy24 : GR N ad g (Nvy4) advy4 gy18 := ⟨by omega, fun j j1 => by rw [hAvy4 _ (by omega)], fun j j1 j2 j3 => by rw [egy19, va_up_ne _ _ (by omega)]; rw [egy16, va_up_ne _ _ (by omega)]; rw [hGvy4 _ (by omega) (by omega) (by omega)]⟩
    exact z_vret C hr hlk dJ5_setLength_d00df_81 (by decide) (by decide) ⟨rfl, hGRy24, hBy23⟩

set_option maxRecDepth 100000 in
set_option maxHeartbeats 4000000 in
theorem c_canEnc (l : Launch) (D : va_G) (A : Nat → Prop) (cs : Nat → ClassId) (tt : Nat) (N : Nat) (ad : Nat → Nat) (g : Nat → va_E) (z : Int) (hz : 0 ≤ z ∧ z ≤ 127) : zM l yJ1_canEncode_fc78d cJ1_canEncode_fc78d 1 (some .boolean) ({ frames := 1, cells := 0, slots := 0, locals := 60 } : Room) D A cs tt N ad g [.int (zI (z))] (rI0 N ad fun r g' => r = 1 ∧ g = g') := by
  refine z_of (by decide) (Nat.le_of_ble_eq_true rfl) ?_
  intro p e s m below meth c C hr hlk hnm
  refine z_lv (lv' := [(0, .int (zI (z)))]) [0] rfl ?_
  refine z_iload_n C 0 dJ1_canEncode_fc78d_0 rfl ?_
  refine z_sipush (z := 255) C dJ1_canEncode_fc78d_1 (by decide) ?_
  refine z_icmp_gt (tgt := 11) C dJ1_canEncode_fc78d_4 (by decide) (by omega) (by omega) (fun h => absurd h (by omega)) (fun _ => ?_)
  refine z_iconst (z := 1) C dJ1_canEncode_fc78d_7 rfl ?_
  refine z_goto (tgt := 12) C dJ1_canEncode_fc78d_8 (by decide) ?_
  exact z_zret C hr hlk dJ1_canEncode_fc78d_12 (by decide) (by decide) (by decide) ⟨1, rfl, rfl, rfl, rfl, rfl⟩

set_option maxRecDepth 100000 in
set_option maxHeartbeats 4000000 in
theorem c_appC (l : Launch) (D : va_G) (A : Nat → Prop) (cs : Nat → ClassId) (tt : Nat) (N : Nat) (ad : Nat → Nat) (g : Nat → va_E) (hN : 952 ≤ N) (cn cp : Int) (hB : bldC cs ad g N cn cp) (b9 : Nat) (hb9 : zAt ad 919 b9) (z : Int) (hz : 0 ≤ z ∧ z ≤ 127) (hc : cn + 1 ≤ 81) : zM l yJ5_append_3fe6f cJ5_append_3fe6f 2 (some (.object "java/lang/AbstractStringBuilder")) ({ frames := 5, cells := 1, slots := 164, locals := 300 } : Room) D A cs tt N ad g [.ref b9, .int (zI (z))] (rR fun a N' ad' g' => a = b9 ∧ GR N ad g N' ad' g' ∧ ∃ cn' : Int, (cn + 1 ≤ cn' ∧ cn' ≤ cn + 1) ∧ bldC cs ad' g' N' cn' 0) := by
  obtain ⟨v_y1, cap_y1, ml_y1, b_y1, hv_y1, hvN_y1, hcap_y1, hcp_y1, hcn_y1, hml_y1, hby_y1, h9_y1, hgv_y1⟩ := id hB
  have hay2 : zAt ad (v_y1) (ad v_y1) := rfl
  refine z_of (by decide) (Nat.le_of_ble_eq_true rfl) ?_
  intro p e s m below meth c C hr hlk hnm
  refine z_lv (lv' := [(0, .ref b9), (1, .int (zI (z)))]) [0, 1] rfl ?_
  refine z_aload_n C 0 dJ5_append_3fe6f_0 rfl ?_
  refine z_aload_n C 0 dJ5_append_3fe6f_1 rfl ?_
  refine z_get (v := .int (zI (cn))) C (lt_K hN (rfl : Nat.blt (919) 952 = true)) hb9 h9_y1 rfl inA_J4 3 (by decide) q_339 rfl rfl dJ5_append_3fe6f_2 ?_
  refine z_iconst (z := 1) C dJ5_append_3fe6f_5 rfl ?_
  refine z_iadd C dJ5_append_3fe6f_6 ?_
  have hBy3 : bldC cs ad g (N) (cn) ((cap_y1 : Int)) := ⟨v_y1, cap_y1, ml_y1, b_y1, by omega, by omega, by omega, by omega, by omega, by omega, hby_y1, h9_y1, hgv_y1⟩
  refine z_cVP (As := [.int (zI (cn + 1))]) (rest := []) (ci := 1) C (c_ensure l D A cs tt N ad _ (by omega) _ _ hBy3 _ hb9 (cn + 1) (by omega)) (lt_K hN (rfl : Nat.blt (919) 952 = true)) hb9 h9_y1 rfl q_985 q_2123 n_986 q_987 q_11 q_988 hd_yJ5_ensureCapacityInternal_d00df (by decide) (Nat.le_of_ble_eq_true rfl) (by decide) dJ5_append_3fe6f_7 rfl (kV fun Nvy4 advy4 gvy4 hvy4 => ?_)
  obtain ⟨⟨hNvy4, hAvy4, hGvy4⟩, hBvy4⟩ := hvy4
  obtain ⟨v_y5, cap_y5, ml_y5, b_y5, hv_y5, hvN_y5, hcap_y5, hcp_y5, hcn_y5, hml_y5, hby_y5, h9_y5, hgv_y5⟩ := id hBvy4
  have hay6 : zAt advy4 (v_y5) (advy4 v_y5) := rfl
  refine z_aload_n C 0 dJ5_append_3fe6f_10 rfl ?_
  have hBy7 : bldC cs advy4 gvy4 (Nvy4) (cn) ((cap_y5 : Int)) := ⟨v_y5, cap_y5, ml_y5, b_y5, by omega, by omega, by omega, by omega, by omega, by omega, hby_y5, h9_y5, hgv_y5⟩
  have hay8 : zAt advy4 (919) (b9) := (hAvy4 (919) (lt_K hN (rfl : Nat.blt (919) 952 = true))).trans hb9
  refine z_cVU (As := []) (rest := []) (ci := 1) C (c_bLatin1 l D A cs tt Nvy4 advy4 _ (by omega) _ _ hBy7 _ hay8) (by omega) hay8 h9_y5 rfl q_1012 q_1014 q_1015 q_1013 q_11 q_1016 hd_yJ5_isLatin1_aae02 (by decide) (Nat.le_of_ble_eq_true rfl) (by decide) dJ5_append_3fe6f_11 rfl (kI0 fun vy9 gvy9 hvy9 => ?_)
  obtain ⟨rfl, rfl⟩ := hvy9
  refine z_if_eq (tgt := 45) C dJ5_append_3fe6f_14 (by decide) (by omega) (fun h => absurd h (by omega)) (fun _ => ?_)
  refine z_iload_n C 1 dJ5_append_3fe6f_17 rfl ?_
  refine z_cS (As := [.int (zI (z))]) (rest := []) C (c_canEnc l D A cs tt Nvy4 advy4 _ (z) (by omega)) ms_yJ1_canEncode_fc78d q_1189 hd_yJ1_canEncode_fc78d (by decide) (Nat.le_of_ble_eq_true rfl) (by decide) dJ5_append_3fe6f_18 rfl (kI0 fun vy10 gvy10 hvy10 => ?_)
  obtain ⟨rfl, rfl⟩ := hvy10
  refine z_if_eq (tgt := 45) C dJ5_append_3fe6f_21 (by decide) (by omega) (fun h => absurd h (by omega)) (fun _ => ?_)
  refine z_aload_n C 0 dJ5_append_3fe6f_24 rfl ?_
  refine z_get (v := .ref (advy4 v_y5)) C (by omega) hay8 h9_y5 rfl inA_J4 0 (by decide) q_335 rfl rfl dJ5_append_3fe6f_25 ?_
  refine z_aload_n C 0 dJ5_append_3fe6f_28 rfl ?_
  refine z_dup C dJ5_append_3fe6f_29 rfl ?_
  refine z_get (v := .int (zI (cn))) C (by omega) hay8 h9_y5 rfl inA_J4 3 (by decide) q_339 rfl rfl dJ5_append_3fe6f_30 ?_
  refine z_dup_x1 C dJ5_append_3fe6f_33 rfl rfl ?_
  refine z_iconst (z := 1) C dJ5_append_3fe6f_34 rfl ?_
  refine z_iadd C dJ5_append_3fe6f_35 ?_
  refine z_put (fs' := [.ref (advy4 v_y5), .int (zI (0)), .int (zI (ml_y5)), .int (zI (cn + 1))]) C (by omega) hay8 h9_y5 tyJ4 tyJ4_ok nmJ4 rfl inA_J4 3 (by decide) q_339 rfl rfl rfl rfl (Nat.le_of_ble_eq_true rfl) rfl dJ5_append_3fe6f_36 (fun gy11 egy12 => ?_)
  have hgy13 := up_s egy12
  refine z_iload_n C 1 dJ5_append_3fe6f_39 rfl ?_
  obtain ⟨xy14, exy15, hxy16⟩ := b8_of (zI (z))
  refine z_i2b (z := xy14) C dJ5_append_3fe6f_40 exy15 ?_
  have hgy17 := up_n egy12 hgv_y5 (by omega)
  refine z_bast C (by omega) hay6 hgy17 ((cn).toNat) (by omega) (by omega) (by omega) (by omega) dJ5_append_3fe6f_41 (fun gy18 egy19 => ?_)
  have hgy20 := up_s egy19
  refine z_goto (tgt := 75) C dJ5_append_3fe6f_42 (by decide) ?_
  refine z_aload_n C 0 dJ5_append_3fe6f_75 rfl ?_
  have hbz : ∀ j, -128 ≤ (uZ (b_y5) ((cn).toNat) (xy14)) j ∧ (uZ (b_y5) ((cn).toNat) (xy14)) j ≤ 127 := fun j => by unfold uZ; split; omega; exact hby_y5 j
  have hgy21 := up_n egy19 hgy13 (by omega)
  have hBy22 : bldC cs advy4 gy18 (Nvy4) (cn + 1) (0) := ⟨v_y5, cap_y5, ml_y5, uZ (b_y5) ((cn).toNat) (xy14), by omega, by omega, by omega, by omega, by omega, by omega, hbz, hgy21, hgy20⟩
  have hGRy23 : GR N ad g (Nvy4) advy4 gy18 := ⟨by omega, fun j j1 => by rw [hAvy4 _ (by omega)], fun j j1 j2 j3 => by rw [egy19, va_up_ne _ _ (by omega)]; rw [egy12, va_up_ne _ _ (by omega)]; rw [hGvy4 _ (by omega) (by omega) (by omega)]⟩
  exact z_aret C hr (Or.inl ⟨_, rfl⟩) hlk dJ5_append_3fe6f_76 (by decide) (by decide) ⟨_, rfl, rfl, hGRy23, _, by omega, hBy22⟩

set_option maxRecDepth 100000 in
set_option maxHeartbeats 4000000 in
theorem c_appI (l : Launch) (D : va_G) (A : Nat → Prop) (cs : Nat → ClassId) (tt : Nat) (N : Nat) (ad : Nat → Nat) (g : Nat → va_E) (hN : 952 ≤ N) (cn cp : Int) (hB : bldC cs ad g N cn cp) (b9 : Nat) (hb9 : zAt ad 919 b9) (z : Int) (hz : -2147483648 ≤ z ∧ z ≤ 2147483647) (hc : cn + 11 ≤ 81) : zM l yJ5_append_c97b9 cJ5_append_c97b9 4 (some (.object "java/lang/AbstractStringBuilder")) ({ frames := 5, cells := 1, slots := 164, locals := 300 } : Room) D A cs tt N ad g [.ref b9, .int (zI (z))] (rR fun a N' ad' g' => a = b9 ∧ GR N ad g N' ad' g' ∧ ∃ cn' : Int, (cn + 1 ≤ cn' ∧ cn' ≤ cn + 11) ∧ bldC cs ad' g' N' cn' 0) := by
  obtain ⟨v_y1, cap_y1, ml_y1, b_y1, hv_y1, hvN_y1, hcap_y1, hcp_y1, hcn_y1, hml_y1, hby_y1, h9_y1, hgv_y1⟩ := id hB
  have hay2 : zAt ad (v_y1) (ad v_y1) := rfl
  refine z_of (by decide) (Nat.le_of_ble_eq_true rfl) ?_
  intro p e s m below meth c C hr hlk hnm
  refine z_lv (lv' := [(0, .ref b9), (1, .int (zI (z)))]) [0, 1] rfl ?_
  refine z_aload_n C 0 dJ5_append_c97b9_0 rfl ?_
  refine z_get (v := .int (zI (cn))) C (lt_K hN (rfl : Nat.blt (919) 952 = true)) hb9 h9_y1 rfl inA_J4 3 (by decide) q_339 rfl rfl dJ5_append_c97b9_1 ?_
  refine z_istore_n (lv' := [(2, .int (zI (cn))), (0, .ref b9), (1, .int (zI (z)))]) C dJ5_append_c97b9_4 rfl (by decide) rfl ?_
  refine z_iload_n C 0 dJ5_append_c97b9_5 rfl ?_
  refine z_iload_n C 2 dJ5_append_c97b9_6 rfl ?_
  refine z_cS (As := [.int (zI (z))]) (rest := [.int (zI (cn))]) C (c_strSize l D A cs tt N ad _ (z) (by omega)) ms_yJ6_stringSize_0f7a4 q_1098 hd_yJ6_stringSize_0f7a4 (by decide) (Nat.le_of_ble_eq_true rfl) (by decide) dJ5_append_c97b9_7 rfl (kI0 fun vy3 gvy3 hvy3 => ?_)
  obtain ⟨hrvy3, hgvy3, rfl⟩ := hvy3
  refine z_iadd C dJ5_append_c97b9_10 ?_
  refine z_istore_n (lv' := [(3, .int (zI (cn + vy3))), (2, .int (zI (cn))), (0, .ref b9), (1, .int (zI (z)))]) C dJ5_append_c97b9_11 rfl (by decide) rfl ?_
  refine z_aload_n C 2 dJ5_append_c97b9_12 rfl ?_
  refine z_iload_n C 0 dJ5_append_c97b9_13 rfl ?_
  have hBy4 : bldC cs ad g (N) (cn) ((cap_y1 : Int)) := ⟨v_y1, cap_y1, ml_y1, b_y1, by omega, by omega, by omega, by omega, by omega, by omega, hby_y1, h9_y1, hgv_y1⟩
  refine z_cVP (As := [.int (zI (cn + vy3))]) (rest := []) (ci := 1) C (c_ensure l D A cs tt N ad _ (by omega) _ _ hBy4 _ hb9 (cn + vy3) (by omega)) (lt_K hN (rfl : Nat.blt (919) 952 = true)) hb9 h9_y1 rfl q_985 q_2123 n_986 q_987 q_11 q_988 hd_yJ5_ensureCapacityInternal_d00df (by decide) (Nat.le_of_ble_eq_true rfl) (by decide) dJ5_append_c97b9_14 rfl (kV fun Nvy5 advy5 gvy5 hvy5 => ?_)
  obtain ⟨⟨hNvy5, hAvy5, hGvy5⟩, hBvy5⟩ := hvy5
  obtain ⟨v_y6, cap_y6, ml_y6, b_y6, hv_y6, hvN_y6, hcap_y6, hcp_y6, hcn_y6, hml_y6, hby_y6, h9_y6, hgv_y6⟩ := id hBvy5
  have hay7 : zAt advy5 (v_y6) (advy5 v_y6) := rfl
  refine z_aload_n C 2 dJ5_append_c97b9_17 rfl ?_
  have hBy8 : bldC cs advy5 gvy5 (Nvy5) (cn) ((cap_y6 : Int)) := ⟨v_y6, cap_y6, ml_y6, b_y6, by omega, by omega, by omega, by omega, by omega, by omega, hby_y6, h9_y6, hgv_y6⟩
  have hay9 : zAt advy5 (919) (b9) := (hAvy5 (919) (lt_K hN (rfl : Nat.blt (919) 952 = true))).trans hb9
  refine z_cVU (As := []) (rest := []) (ci := 1) C (c_bLatin1 l D A cs tt Nvy5 advy5 _ (by omega) _ _ hBy8 _ hay9) (by omega) hay9 h9_y6 rfl q_1012 q_1014 q_1015 q_1013 q_11 q_1016 hd_yJ5_isLatin1_aae02 (by decide) (Nat.le_of_ble_eq_true rfl) (by decide) dJ5_append_c97b9_18 rfl (kI0 fun vy10 gvy10 hvy10 => ?_)
  obtain ⟨rfl, rfl⟩ := hvy10
  refine z_if_eq (tgt := 37) C dJ5_append_c97b9_21 (by decide) (by omega) (fun h => absurd h (by omega)) (fun _ => ?_)
  refine z_iload_n C 3 dJ5_append_c97b9_24 rfl ?_
  refine z_iload_n C 0 dJ5_append_c97b9_25 rfl ?_
  refine z_aload_n C 2 dJ5_append_c97b9_26 rfl ?_
  refine z_get (v := .ref (advy5 v_y6)) C (by omega) hay9 h9_y6 rfl inA_J4 0 (by decide) q_335 rfl rfl dJ5_append_c97b9_27 ?_
  have hdgy11 : ((0 ≤ z ∧ ((1 ≤ (cn + vy3) ∧ -10 < -(z)) ∨ (2 ≤ (cn + vy3) ∧ -100 < -(z)) ∨ (3 ≤ (cn + vy3) ∧ -1000 < -(z)) ∨ (4 ≤ (cn + vy3) ∧ -10000 < -(z)) ∨ (5 ≤ (cn + vy3) ∧ -100000 < -(z)) ∨ (6 ≤ (cn + vy3) ∧ -1000000 < -(z)) ∨ (7 ≤ (cn + vy3) ∧ -10000000 < -(z)) ∨ (8 ≤ (cn + vy3) ∧ -100000000 < -(z)) ∨ (9 ≤ (cn + vy3) ∧ -1000000000 < -(z)) ∨ (10 ≤ (cn + vy3) ∧ -10000000000 < -(z)))) ∨ (z < 0 ∧ ((1 ≤ (cn + vy3) - 1 ∧ -10 < z) ∨ (2 ≤ (cn + vy3) - 1 ∧ -100 < z) ∨ (3 ≤ (cn + vy3) - 1 ∧ -1000 < z) ∨ (4 ≤ (cn + vy3) - 1 ∧ -10000 < z) ∨ (5 ≤ (cn + vy3) - 1 ∧ -100000 < z) ∨ (6 ≤ (cn + vy3) - 1 ∧ -1000000 < z) ∨ (7 ≤ (cn + vy3) - 1 ∧ -10000000 < z) ∨ (8 ≤ (cn + vy3) - 1 ∧ -100000000 < z) ∨ (9 ≤ (cn + vy3) - 1 ∧ -1000000000 < z) ∨ (10 ≤ (cn + vy3) - 1 ∧ -10000000000 < z)))) := by omega
  refine z_cS (As := [.int (zI (z)), .int (zI (cn + vy3)), .ref (advy5 v_y6)]) (rest := []) C (c_getChars l D A cs tt Nvy5 advy5 _ v_y6 _ (by omega) (by omega) _ hby_y6 hgv_y6 (z) (by omega) (cn + vy3) (by omega) hdgy11) ms_yJ6_getChars_ba4f3 q_1101 hd_yJ6_getChars_ba4f3 (by decide) (Nat.le_of_ble_eq_true rfl) (by decide) dJ5_append_c97b9_30 rfl (kI0 fun vy12 gvy12 hvy12 => ?_)
  obtain ⟨hrvy12, ⟨bvy12, hbbvy12, hcvy12⟩, hfvy12⟩ := hvy12
  refine z_pop C dJ5_append_c97b9_33 rfl ?_
  refine z_goto (tgt := 48) C dJ5_append_c97b9_34 (by decide) ?_
  refine z_aload_n C 2 dJ5_append_c97b9_48 rfl ?_
  refine z_iload_n C 0 dJ5_append_c97b9_49 rfl ?_
  have hgy13 := (hfvy12 (919) (by omega)).trans h9_y6
  refine z_put (fs' := [.ref (advy5 v_y6), .int (zI (0)), .int (zI (ml_y6)), .int (zI (cn + vy3))]) C (by omega) hay9 hgy13 tyJ4 tyJ4_ok nmJ4 rfl inA_J4 3 (by decide) q_339 rfl rfl rfl rfl (Nat.le_of_ble_eq_true rfl) rfl dJ5_append_c97b9_50 (fun gy14 egy15 => ?_)
  have hgy16 := up_s egy15
  refine z_aload_n C 2 dJ5_append_c97b9_53 rfl ?_
  have hgy17 := up_n egy15 hcvy12 (by omega)
  have hBy18 : bldC cs advy5 gy14 (Nvy5) (cn + vy3) (0) := ⟨v_y6, cap_y6, ml_y6, bvy12, by omega, by omega, by omega, by omega, by omega, by omega, hbbvy12, hgy16, hgy17⟩
  have hGRy19 : GR N ad g (Nvy5) advy5 gy14 := ⟨by omega, fun j j1 => by rw [hAvy5 _ (by omega)], fun j j1 j2 j3 => by rw [egy15, va_up_ne _ _ (by omega)]; rw [hfvy12 _ (by omega)]; rw [hGvy5 _ (by omega) (by omega) (by omega)]⟩
  exact z_aret C hr (Or.inl ⟨_, rfl⟩) hlk dJ5_append_c97b9_54 (by decide) (by decide) ⟨_, rfl, rfl, hGRy19, _, by omega, hBy18⟩

set_option maxRecDepth 100000 in
set_option maxHeartbeats 4000000 in
theorem c_infl (l : Launch) (D : va_G) (A : Nat → Prop) (cs : Nat → ClassId) (tt : Nat) (N : Nat) (ad : Nat → Nat) (g : Nat → va_E) (hN : 952 ≤ N) (cn cp : Int) (hB : bldC cs ad g N cn cp) (b9 : Nat) (hb9 : zAt ad 919 b9) (q : String × Nat × String × Nat × List Int32) (hq : q ∈ SKL) : zM l yJ5_inflateIfNeededFor_a7421 cJ5_inflateIfNeededFor_a7421 2 none ({ frames := 2, cells := 0, slots := 0, locals := 120 } : Room) D A cs tt N ad g [.ref b9, .ref (cs (100 + q.2.2.2.1))] (rV0 N ad fun g' => g = g') := by
  obtain ⟨v_y1, cap_y1, ml_y1, b_y1, hv_y1, hvN_y1, hcap_y1, hcp_y1, hcn_y1, hml_y1, hby_y1, h9_y1, hgv_y1⟩ := id hB
  have hay2 : zAt ad (v_y1) (ad v_y1) := rfl
  refine z_of (by decide) (Nat.le_of_ble_eq_true rfl) ?_
  intro p e s m below meth c C hr hlk hnm
  refine z_lv (lv' := [(0, .ref b9), (1, .ref (cs (100 + q.2.2.2.1)))]) [0, 1] rfl ?_
  refine z_getZ C q_326 dJ5_inflateIfNeededFor_a7421_0 ?_
  refine z_if_eq (tgt := 21) C dJ5_inflateIfNeededFor_a7421_3 (by decide) (by omega) (fun h => absurd h (by omega)) (fun _ => ?_)
  refine z_aload_n C 0 dJ5_inflateIfNeededFor_a7421_6 rfl ?_
  refine z_get (v := .int (zI (0))) C (lt_K hN (rfl : Nat.blt (919) 952 = true)) hb9 h9_y1 rfl inA_J4 1 (by decide) q_336 rfl rfl dJ5_inflateIfNeededFor_a7421_7 ?_
  refine z_aload_n C 1 dJ5_inflateIfNeededFor_a7421_10 rfl ?_
  refine z_cVs (As := []) (rest := [.int (zI (0))]) C hq (c_coder l D A cs tt N ad _ q hq) rfl mv_yJ0_coder_7d493 q_1065 hd_yJ0_coder_7d493 (by decide) (Nat.le_of_ble_eq_true rfl) (by decide) dJ5_inflateIfNeededFor_a7421_11 rfl (kI0 fun vy3 gvy3 hvy3 => ?_)
  obtain ⟨rfl, rfl⟩ := hvy3
  refine z_icmp_eq (tgt := 21) C dJ5_inflateIfNeededFor_a7421_14 (by decide) (by omega) (by omega) (fun _ => ?_) (fun h => absurd h (by omega))
  exact z_vret C hr hlk dJ5_inflateIfNeededFor_a7421_21 (by decide) (by decide) ⟨rfl, rfl, rfl, rfl⟩

set_option maxRecDepth 100000 in
set_option maxHeartbeats 4000000 in
theorem c_getBytes (l : Launch) (D : va_G) (A : Nat → Prop) (cs : Nat → ClassId) (tt : Nat) (N : Nat) (ad : Nat → Nat) (g : Nat → va_E) (q : String × Nat × String × Nat × List Int32) (hq : q ∈ SKL) (v cap : Nat) (b : Nat → Int) (hv : v < N) (hcap : cap ≤ 1000) (hby : ∀ j, -128 ≤ b j ∧ b j ≤ 127) (hgv : g v = bA cs cap b) (z : Int) (hz : 0 ≤ z ∧ z + (q.2.2.2.2.length : Int) ≤ (cap : Int)) : zM l yJ0_getBytes_840e7 cJ0_getBytes_840e7 4 none ({ frames := 2, cells := 0, slots := 0, locals := 120 } : Room) D A cs tt N ad g [.ref (cs (100 + q.2.2.2.1)), .ref (ad v), .int (zI (z)), .int (zI (0))] (rV0 N ad fun g' => (∃ b' : Nat → Int, (∀ j, -128 ≤ b' j ∧ b' j ≤ 127) ∧ g' v = bA cs cap b') ∧ ∀ j, j ≠ v → g' j = g j) := by
  have hay1 : zAt ad (v) (ad v) := rfl
  have hqL := SKL_len q hq
  refine z_of (by decide) (Nat.le_of_ble_eq_true rfl) ?_
  intro p e s m below meth c C hr hlk hnm
  refine z_lv (lv' := [(0, .ref (cs (100 + q.2.2.2.1))), (1, .ref (ad v)), (2, .int (zI (z))), (3, .int (zI (0)))]) [0, 1, 2, 3] rfl ?_
  refine z_aload_n C 0 dJ0_getBytes_840e7_0 rfl ?_
  refine z_cVs (As := []) (rest := []) C hq (c_coder l D A cs tt N ad _ q hq) rfl mv_yJ0_coder_7d493 q_762 hd_yJ0_coder_7d493 (by decide) (Nat.le_of_ble_eq_true rfl) (by decide) dJ0_getBytes_840e7_1 rfl (kI0 fun vy2 gvy2 hvy2 => ?_)
  obtain ⟨rfl, rfl⟩ := hvy2
  refine z_iload_n C 3 dJ0_getBytes_840e7_4 rfl ?_
  refine z_icmp_ne (tgt := 28) C dJ0_getBytes_840e7_5 (by decide) (by omega) (by omega) (fun h => absurd h (by omega)) (fun _ => ?_)
  refine z_aload_n C 0 dJ0_getBytes_840e7_8 rfl ?_
  refine z_sval C hq q_1166 dJ0_getBytes_840e7_9 ?_
  refine z_iconst (z := 0) C dJ0_getBytes_840e7_12 rfl ?_
  refine z_aload_n C 1 dJ0_getBytes_840e7_13 rfl ?_
  refine z_iload_n C 2 dJ0_getBytes_840e7_14 rfl ?_
  refine z_iload_n C 3 dJ0_getBytes_840e7_15 rfl ?_
  refine z_ishl (z := z) C dJ0_getBytes_840e7_16 (shl0 _) ?_
  refine z_aload_n C 0 dJ0_getBytes_840e7_17 rfl ?_
  refine z_sval C hq q_1166 dJ0_getBytes_840e7_18 ?_
  refine z_salen C hq dJ0_getBytes_840e7_21 ?_
  refine z_copyS C hq q_1089 q_430 q_429 q_21 (by omega) hay1 hgv (z).toNat (by omega) rfl (by omega) (by omega) (by decide) (Nat.le_of_ble_eq_true rfl) dJ0_getBytes_840e7_22 (fun gy3 egy4 => ?_)
  have hgy5 := up_s egy4
  refine z_goto (tgt := 43) C dJ0_getBytes_840e7_25 (by decide) ?_
  exact z_vret C hr hlk dJ0_getBytes_840e7_43 (by decide) (by decide) ⟨rfl, rfl, rfl, ⟨_, cZ_b (fun k => by have h9 := SKL_g hq k; omega) hby, hgy5⟩, fun j j1 => by rw [egy4, va_up_ne _ _ (by omega)]⟩

set_option maxRecDepth 100000 in
set_option maxHeartbeats 4000000 in
theorem c_putStr (l : Launch) (D : va_G) (A : Nat → Prop) (cs : Nat → ClassId) (tt : Nat) (N : Nat) (ad : Nat → Nat) (g : Nat → va_E) (hN : 952 ≤ N) (cn cp : Int) (hB : bldC cs ad g N cn cp) (b9 : Nat) (hb9 : zAt ad 919 b9) (q : String × Nat × String × Nat × List Int32) (hq : q ∈ SKL) (z : Int) (hz : 0 ≤ z ∧ z + (q.2.2.2.2.length : Int) ≤ cp) : zM l yJ5_putStringAt_47b60 cJ5_putStringAt_47b60 3 none ({ frames := 4, cells := 0, slots := 0, locals := 240 } : Room) D A cs tt N ad g [.ref b9, .int (zI (z)), .ref (cs (100 + q.2.2.2.1))] (rV0 N ad fun g' => bldC cs ad g' N cn cp ∧ ∀ j, j < 952 → j ≠ 919 → j ≠ 920 → g' j = g j) := by
  obtain ⟨v_y1, cap_y1, ml_y1, b_y1, hv_y1, hvN_y1, hcap_y1, hcp_y1, hcn_y1, hml_y1, hby_y1, h9_y1, hgv_y1⟩ := id hB
  have hay2 : zAt ad (v_y1) (ad v_y1) := rfl
  have hqL := SKL_len q hq
  refine z_of (by decide) (Nat.le_of_ble_eq_true rfl) ?_
  intro p e s m below meth c C hr hlk hnm
  refine z_lv (lv' := [(0, .ref b9), (1, .int (zI (z))), (2, .ref (cs (100 + q.2.2.2.1)))]) [0, 1, 2] rfl ?_
  refine z_aload_n C 0 dJ5_putStringAt_47b60_0 rfl ?_
  refine z_aload_n C 2 dJ5_putStringAt_47b60_1 rfl ?_
  have hBy3 : bldC cs ad g (N) (cn) ((cap_y1 : Int)) := ⟨v_y1, cap_y1, ml_y1, b_y1, by omega, by omega, by omega, by omega, by omega, by omega, hby_y1, h9_y1, hgv_y1⟩
  refine z_cVP (As := [.ref (cs (100 + q.2.2.2.1))]) (rest := []) (ci := 1) C (c_infl l D A cs tt N ad _ (by omega) _ _ hBy3 _ hb9 q hq) (lt_K hN (rfl : Nat.blt (919) 952 = true)) hb9 h9_y1 rfl q_1061 q_2128 n_1062 q_1063 q_11 q_1064 hd_yJ5_inflateIfNeededFor_a7421 (by decide) (Nat.le_of_ble_eq_true rfl) (by decide) dJ5_putStringAt_47b60_2 rfl (kV0 fun gvy4 hvy4 => ?_)
  obtain rfl := hvy4
  refine z_aload_n C 2 dJ5_putStringAt_47b60_5 rfl ?_
  refine z_aload_n C 0 dJ5_putStringAt_47b60_6 rfl ?_
  refine z_get (v := .ref (ad v_y1)) C (lt_K hN (rfl : Nat.blt (919) 952 = true)) hb9 h9_y1 rfl inA_J4 0 (by decide) q_335 rfl rfl dJ5_putStringAt_47b60_7 ?_
  refine z_iload_n C 1 dJ5_putStringAt_47b60_10 rfl ?_
  refine z_aload_n C 0 dJ5_putStringAt_47b60_11 rfl ?_
  refine z_get (v := .int (zI (0))) C (lt_K hN (rfl : Nat.blt (919) 952 = true)) hb9 h9_y1 rfl inA_J4 1 (by decide) q_336 rfl rfl dJ5_putStringAt_47b60_12 ?_
  refine z_cVs (As := [.ref (ad v_y1), .int (zI (z)), .int (zI (0))]) (rest := []) C hq (c_getBytes l D A cs tt N ad _ q hq v_y1 _ _ (by omega) (by omega) hby_y1 hgv_y1 (z) (by omega)) rfl mv_yJ0_getBytes_840e7 q_1085 hd_yJ0_getBytes_840e7 (by decide) (Nat.le_of_ble_eq_true rfl) (by decide) dJ5_putStringAt_47b60_15 rfl (kV0 fun gvy5 hvy5 => ?_)
  obtain ⟨⟨bvy5, hbbvy5, hcvy5⟩, hfvy5⟩ := hvy5
  have hgy6 := (hfvy5 (919) (by omega)).trans h9_y1
  have hBy7 : bldC cs ad gvy5 (N) (cn) (cp) := ⟨v_y1, cap_y1, ml_y1, bvy5, by omega, by omega, by omega, by omega, by omega, by omega, hbbvy5, hgy6, hcvy5⟩
  exact z_vret C hr hlk dJ5_putStringAt_47b60_18 (by decide) (by decide) ⟨rfl, rfl, rfl, hBy7, fun j j1 j2 j3 => by rw [hfvy5 _ (by omega)]⟩

set_option maxRecDepth 100000 in
set_option maxHeartbeats 4000000 in
theorem c_appS (l : Launch) (D : va_G) (A : Nat → Prop) (cs : Nat → ClassId) (tt : Nat) (N : Nat) (ad : Nat → Nat) (g : Nat → va_E) (hN : 952 ≤ N) (cn cp : Int) (hB : bldC cs ad g N cn cp) (b9 : Nat) (hb9 : zAt ad 919 b9) (q : String × Nat × String × Nat × List Int32) (hq : q ∈ SKL) (hc : cn + (q.2.2.2.2.length : Int) ≤ 81) : zM l yJ5_append_cf1ce cJ5_append_cf1ce 3 (some (.object "java/lang/AbstractStringBuilder")) ({ frames := 6, cells := 1, slots := 164, locals := 360 } : Room) D A cs tt N ad g [.ref b9, .ref (cs (100 + q.2.2.2.1))] (rR fun a N' ad' g' => a = b9 ∧ GR N ad g N' ad' g' ∧ ∃ cn' : Int, (cn + (q.2.2.2.2.length : Int) ≤ cn' ∧ cn' ≤ cn + (q.2.2.2.2.length : Int)) ∧ bldC cs ad' g' N' cn' 0) := by
  obtain ⟨v_y1, cap_y1, ml_y1, b_y1, hv_y1, hvN_y1, hcap_y1, hcp_y1, hcn_y1, hml_y1, hby_y1, h9_y1, hgv_y1⟩ := id hB
  have hay2 : zAt ad (v_y1) (ad v_y1) := rfl
  have hqL := SKL_len q hq
  refine z_of (by decide) (Nat.le_of_ble_eq_true rfl) ?_
  intro p e s m below meth c C hr hlk hnm
  refine z_lv (lv' := [(0, .ref b9), (1, .ref (cs (100 + q.2.2.2.1)))]) [0, 1] rfl ?_
  refine z_aload_n C 1 dJ5_append_cf1ce_0 rfl ?_
  refine z_ifnn (tgt := 9) C dJ5_append_cf1ce_1 (by decide) ?_
  refine z_aload_n C 1 dJ5_append_cf1ce_9 rfl ?_
  refine z_cVs (As := []) (rest := []) C hq (c_slen l D A cs tt N ad _ q hq) rfl mv_yJ0_length_8abf5 q_1056 hd_yJ0_length_8abf5 (by decide) (Nat.le_of_ble_eq_true rfl) (by decide) dJ5_append_cf1ce_10 rfl (kI0 fun vy3 gvy3 hvy3 => ?_)
  obtain ⟨rfl, rfl⟩ := hvy3
  refine z_istore_n (lv' := [(2, .int (zI ((q.2.2.2.2.length : Int)))), (0, .ref b9), (1, .ref (cs (100 + q.2.2.2.1)))]) C dJ5_append_cf1ce_13 rfl (by decide) rfl ?_
  refine z_aload_n C 1 dJ5_append_cf1ce_14 rfl ?_
  refine z_aload_n C 1 dJ5_append_cf1ce_15 rfl ?_
  refine z_get (v := .int (zI (cn))) C (lt_K hN (rfl : Nat.blt (919) 952 = true)) hb9 h9_y1 rfl inA_J4 3 (by decide) q_339 rfl rfl dJ5_append_cf1ce_16 ?_
  refine z_iload_n C 0 dJ5_append_cf1ce_19 rfl ?_
  refine z_iadd C dJ5_append_cf1ce_20 ?_
  have hBy4 : bldC cs ad g (N) (cn) ((cap_y1 : Int)) := ⟨v_y1, cap_y1, ml_y1, b_y1, by omega, by omega, by omega, by omega, by omega, by omega, hby_y1, h9_y1, hgv_y1⟩
  refine z_cVP (As := [.int (zI (cn + ((q.2.2.2.2.length : Int))))]) (rest := []) (ci := 1) C (c_ensure l D A cs tt N ad _ (by omega) _ _ hBy4 _ hb9 (cn + ((q.2.2.2.2.length : Int))) (by omega)) (lt_K hN (rfl : Nat.blt (919) 952 = true)) hb9 h9_y1 rfl q_985 q_2123 n_986 q_987 q_11 q_988 hd_yJ5_ensureCapacityInternal_d00df (by decide) (Nat.le_of_ble_eq_true rfl) (by decide) dJ5_append_cf1ce_21 rfl (kV fun Nvy5 advy5 gvy5 hvy5 => ?_)
  obtain ⟨⟨hNvy5, hAvy5, hGvy5⟩, hBvy5⟩ := hvy5
  obtain ⟨v_y6, cap_y6, ml_y6, b_y6, hv_y6, hvN_y6, hcap_y6, hcp_y6, hcn_y6, hml_y6, hby_y6, h9_y6, hgv_y6⟩ := id hBvy5
  have hay7 : zAt advy5 (v_y6) (advy5 v_y6) := rfl
  refine z_aload_n C 1 dJ5_append_cf1ce_24 rfl ?_
  refine z_aload_n C 1 dJ5_append_cf1ce_25 rfl ?_
  have hay8 : zAt advy5 (919) (b9) := (hAvy5 (919) (lt_K hN (rfl : Nat.blt (919) 952 = true))).trans hb9
  refine z_get (v := .int (zI (cn))) C (by omega) hay8 h9_y6 rfl inA_J4 3 (by decide) q_339 rfl rfl dJ5_append_cf1ce_26 ?_
  refine z_aload_n C 2 dJ5_append_cf1ce_29 rfl ?_
  have hBy9 : bldC cs advy5 gvy5 (Nvy5) (cn) ((cap_y6 : Int)) := ⟨v_y6, cap_y6, ml_y6, b_y6, by omega, by omega, by omega, by omega, by omega, by omega, hby_y6, h9_y6, hgv_y6⟩
  refine z_cVP (As := [.int (zI (cn)), .ref (cs (100 + q.2.2.2.1))]) (rest := []) (ci := 1) C (c_putStr l D A cs tt Nvy5 advy5 _ (by omega) _ _ hBy9 _ hay8 q hq (cn) (by omega)) (by omega) hay8 h9_y6 rfl q_1057 q_2127 n_1058 q_1059 q_11 q_1060 hd_yJ5_putStringAt_47b60 (by decide) (Nat.le_of_ble_eq_true rfl) (by decide) dJ5_append_cf1ce_30 rfl (kV0 fun gvy10 hvy10 => ?_)
  obtain ⟨hBvy10, hGvy10⟩ := hvy10
  obtain ⟨v_y11, cap_y11, ml_y11, b_y11, hv_y11, hvN_y11, hcap_y11, hcp_y11, hcn_y11, hml_y11, hby_y11, h9_y11, hgv_y11⟩ := id hBvy10
  have hay12 : zAt advy5 (v_y11) (advy5 v_y11) := rfl
  refine z_aload_n C 1 dJ5_append_cf1ce_33 rfl ?_
  refine z_dup C dJ5_append_cf1ce_34 rfl ?_
  refine z_get (v := .int (zI (cn))) C (by omega) hay8 h9_y11 rfl inA_J4 3 (by decide) q_339 rfl rfl dJ5_append_cf1ce_35 ?_
  refine z_iload_n C 0 dJ5_append_cf1ce_38 rfl ?_
  refine z_iadd C dJ5_append_cf1ce_39 ?_
  refine z_put (fs' := [.ref (advy5 v_y11), .int (zI (0)), .int (zI (ml_y11)), .int (zI (cn + ((q.2.2.2.2.length : Int))))]) C (by omega) hay8 h9_y11 tyJ4 tyJ4_ok nmJ4 rfl inA_J4 3 (by decide) q_339 rfl rfl rfl rfl (Nat.le_of_ble_eq_true rfl) rfl dJ5_append_cf1ce_40 (fun gy13 egy14 => ?_)
  have hgy15 := up_s egy14
  refine z_aload_n C 1 dJ5_append_cf1ce_43 rfl ?_
  have hgy16 := up_n egy14 hgv_y11 (by omega)
  have hBy17 : bldC cs advy5 gy13 (Nvy5) (cn + ((q.2.2.2.2.length : Int))) (0) := ⟨v_y11, cap_y11, ml_y11, b_y11, by omega, by omega, by omega, by omega, by omega, by omega, hby_y11, hgy15, hgy16⟩
  have hGRy18 : GR N ad g (Nvy5) advy5 gy13 := ⟨by omega, fun j j1 => by rw [hAvy5 _ (by omega)], fun j j1 j2 j3 => by rw [egy14, va_up_ne _ _ (by omega)]; rw [hGvy10 _ (by omega) (by omega) (by omega)]; rw [hGvy5 _ (by omega) (by omega) (by omega)]⟩
  exact z_aret C hr (Or.inl ⟨_, rfl⟩) hlk dJ5_append_cf1ce_44 (by decide) (by decide) ⟨_, rfl, rfl, hGRy18, _, by omega, hBy17⟩

set_option maxRecDepth 100000 in
set_option maxHeartbeats 4000000 in
theorem c_sbI (l : Launch) (D : va_G) (A : Nat → Prop) (cs : Nat → ClassId) (tt : Nat) (N : Nat) (ad : Nat → Nat) (g : Nat → va_E) (hN : 952 ≤ N) (cn cp : Int) (hB : bldC cs ad g N cn cp) (b9 : Nat) (hb9 : zAt ad 919 b9) (z : Int) (hz : -2147483648 ≤ z ∧ z ≤ 2147483647) (hc : cn + 11 ≤ 81) : zM l yJ4_append_bf812 cJ4_append_bf812 2 (some (.object "java/lang/StringBuilder")) ({ frames := 6, cells := 1, slots := 164, locals := 360 } : Room) D A cs tt N ad g [.ref b9, .int (zI (z))] (rR fun a N' ad' g' => a = b9 ∧ GR N ad g N' ad' g' ∧ ∃ cn' : Int, (cn + 1 ≤ cn' ∧ cn' ≤ cn + 11) ∧ bldC cs ad' g' N' cn' 0) := by
  obtain ⟨v_y1, cap_y1, ml_y1, b_y1, hv_y1, hvN_y1, hcap_y1, hcp_y1, hcn_y1, hml_y1, hby_y1, h9_y1, hgv_y1⟩ := id hB
  have hay2 : zAt ad (v_y1) (ad v_y1) := rfl
  refine z_of (by decide) (Nat.le_of_ble_eq_true rfl) ?_
  intro p e s m below meth c C hr hlk hnm
  refine z_lv (lv' := [(0, .ref b9), (1, .int (zI (z)))]) [0, 1] rfl ?_
  refine z_aload_n C 0 dJ4_append_bf812_0 rfl ?_
  refine z_iload_n C 1 dJ4_append_bf812_1 rfl ?_
  have hBy3 : bldC cs ad g (N) (cn) ((cap_y1 : Int)) := ⟨v_y1, cap_y1, ml_y1, b_y1, by omega, by omega, by omega, by omega, by omega, by omega, hby_y1, h9_y1, hgv_y1⟩
  refine z_cSU (As := [.int (zI (z))]) (rest := []) (ci := 1) C (c_appI l D A cs tt N ad _ (by omega) _ _ hBy3 _ hb9 (z) (by omega) (by omega)) (lt_K hN (rfl : Nat.blt (919) 952 = true)) hb9 h9_y1 rfl q_1095 q_2130 q_348 q_1096 q_11 q_1097 (by decide) hd_yJ5_append_c97b9 (by decide) (Nat.le_of_ble_eq_true rfl) (by decide) dJ4_append_bf812_2 rfl (kR fun avy4 Nvy4 advy4 gvy4 hvy4 => ?_)
  obtain ⟨hxvy4, ⟨hNvy4, hAvy4, hGvy4⟩, cnvy4, hkvy4, hBvy4⟩ := hvy4
  rw [hxvy4]
  obtain ⟨v_y5, cap_y5, ml_y5, b_y5, hv_y5, hvN_y5, hcap_y5, hcp_y5, hcn_y5, hml_y5, hby_y5, h9_y5, hgv_y5⟩ := id hBvy4
  have hay6 : zAt advy4 (v_y5) (advy4 v_y5) := rfl
  refine z_pop C dJ4_append_bf812_5 rfl ?_
  refine z_aload_n C 0 dJ4_append_bf812_6 rfl ?_
  have hBy7 : bldC cs advy4 gvy4 (Nvy4) (cnvy4) (0) := ⟨v_y5, cap_y5, ml_y5, b_y5, by omega, by omega, by omega, by omega, by omega, by omega, hby_y5, h9_y5, hgv_y5⟩
  have hGRy8 : GR N ad g (Nvy4) advy4 gvy4 := ⟨by omega, fun j j1 => by rw [hAvy4 _ (by omega)], fun j j1 j2 j3 => by rw [hGvy4 _ (by omega) (by omega) (by omega)]⟩
  exact z_aret C hr (Or.inl ⟨_, rfl⟩) hlk dJ4_append_bf812_7 (by decide) (by decide) ⟨_, rfl, rfl, hGRy8, _, by omega, hBy7⟩

set_option maxRecDepth 100000 in
set_option maxHeartbeats 4000000 in
theorem c_sbC (l : Launch) (D : va_G) (A : Nat → Prop) (cs : Nat → ClassId) (tt : Nat) (N : Nat) (ad : Nat → Nat) (g : Nat → va_E) (hN : 952 ≤ N) (cn cp : Int) (hB : bldC cs ad g N cn cp) (b9 : Nat) (hb9 : zAt ad 919 b9) (z : Int) (hz : 0 ≤ z ∧ z ≤ 127) (hc : cn + 1 ≤ 81) : zM l yJ4_append_cf468 cJ4_append_cf468 2 (some (.object "java/lang/StringBuilder")) ({ frames := 6, cells := 1, slots := 164, locals := 360 } : Room) D A cs tt N ad g [.ref b9, .int (zI (z))] (rR fun a N' ad' g' => a = b9 ∧ GR N ad g N' ad' g' ∧ ∃ cn' : Int, (cn + 1 ≤ cn' ∧ cn' ≤ cn + 1) ∧ bldC cs ad' g' N' cn' 0) := by
  obtain ⟨v_y1, cap_y1, ml_y1, b_y1, hv_y1, hvN_y1, hcap_y1, hcp_y1, hcn_y1, hml_y1, hby_y1, h9_y1, hgv_y1⟩ := id hB
  have hay2 : zAt ad (v_y1) (ad v_y1) := rfl
  refine z_of (by decide) (Nat.le_of_ble_eq_true rfl) ?_
  intro p e s m below meth c C hr hlk hnm
  refine z_lv (lv' := [(0, .ref b9), (1, .int (zI (z)))]) [0, 1] rfl ?_
  refine z_aload_n C 0 dJ4_append_cf468_0 rfl ?_
  refine z_iload_n C 1 dJ4_append_cf468_1 rfl ?_
  have hBy3 : bldC cs ad g (N) (cn) ((cap_y1 : Int)) := ⟨v_y1, cap_y1, ml_y1, b_y1, by omega, by omega, by omega, by omega, by omega, by omega, hby_y1, h9_y1, hgv_y1⟩
  refine z_cSU (As := [.int (zI (z))]) (rest := []) (ci := 1) C (c_appC l D A cs tt N ad _ (by omega) _ _ hBy3 _ hb9 (z) (by omega) (by omega)) (lt_K hN (rfl : Nat.blt (919) 952 = true)) hb9 h9_y1 rfl q_1186 q_2131 q_348 q_1187 q_11 q_1188 (by decide) hd_yJ5_append_3fe6f (by decide) (Nat.le_of_ble_eq_true rfl) (by decide) dJ4_append_cf468_2 rfl (kR fun avy4 Nvy4 advy4 gvy4 hvy4 => ?_)
  obtain ⟨hxvy4, ⟨hNvy4, hAvy4, hGvy4⟩, cnvy4, hkvy4, hBvy4⟩ := hvy4
  rw [hxvy4]
  obtain ⟨v_y5, cap_y5, ml_y5, b_y5, hv_y5, hvN_y5, hcap_y5, hcp_y5, hcn_y5, hml_y5, hby_y5, h9_y5, hgv_y5⟩ := id hBvy4
  have hay6 : zAt advy4 (v_y5) (advy4 v_y5) := rfl
  refine z_pop C dJ4_append_cf468_5 rfl ?_
  refine z_aload_n C 0 dJ4_append_cf468_6 rfl ?_
  have hBy7 : bldC cs advy4 gvy4 (Nvy4) (cnvy4) (0) := ⟨v_y5, cap_y5, ml_y5, b_y5, by omega, by omega, by omega, by omega, by omega, by omega, hby_y5, h9_y5, hgv_y5⟩
  have hGRy8 : GR N ad g (Nvy4) advy4 gvy4 := ⟨by omega, fun j j1 => by rw [hAvy4 _ (by omega)], fun j j1 j2 j3 => by rw [hGvy4 _ (by omega) (by omega) (by omega)]⟩
  exact z_aret C hr (Or.inl ⟨_, rfl⟩) hlk dJ4_append_cf468_7 (by decide) (by decide) ⟨_, rfl, rfl, hGRy8, _, by omega, hBy7⟩

set_option maxRecDepth 100000 in
set_option maxHeartbeats 4000000 in
theorem c_sbS (l : Launch) (D : va_G) (A : Nat → Prop) (cs : Nat → ClassId) (tt : Nat) (N : Nat) (ad : Nat → Nat) (g : Nat → va_E) (hN : 952 ≤ N) (cn cp : Int) (hB : bldC cs ad g N cn cp) (b9 : Nat) (hb9 : zAt ad 919 b9) (q : String × Nat × String × Nat × List Int32) (hq : q ∈ SKL) (hc : cn + (q.2.2.2.2.length : Int) ≤ 81) : zM l yJ4_append_15ec4 cJ4_append_15ec4 2 (some (.object "java/lang/StringBuilder")) ({ frames := 7, cells := 1, slots := 164, locals := 420 } : Room) D A cs tt N ad g [.ref b9, .ref (cs (100 + q.2.2.2.1))] (rR fun a N' ad' g' => a = b9 ∧ GR N ad g N' ad' g' ∧ ∃ cn' : Int, (cn + (q.2.2.2.2.length : Int) ≤ cn' ∧ cn' ≤ cn + (q.2.2.2.2.length : Int)) ∧ bldC cs ad' g' N' cn' 0) := by
  obtain ⟨v_y1, cap_y1, ml_y1, b_y1, hv_y1, hvN_y1, hcap_y1, hcp_y1, hcn_y1, hml_y1, hby_y1, h9_y1, hgv_y1⟩ := id hB
  have hay2 : zAt ad (v_y1) (ad v_y1) := rfl
  have hqL := SKL_len q hq
  refine z_of (by decide) (Nat.le_of_ble_eq_true rfl) ?_
  intro p e s m below meth c C hr hlk hnm
  refine z_lv (lv' := [(0, .ref b9), (1, .ref (cs (100 + q.2.2.2.1)))]) [0, 1] rfl ?_
  refine z_aload_n C 0 dJ4_append_15ec4_0 rfl ?_
  refine z_aload_n C 1 dJ4_append_15ec4_1 rfl ?_
  have hBy3 : bldC cs ad g (N) (cn) ((cap_y1 : Int)) := ⟨v_y1, cap_y1, ml_y1, b_y1, by omega, by omega, by omega, by omega, by omega, by omega, hby_y1, h9_y1, hgv_y1⟩
  refine z_cSU (As := [.ref (cs (100 + q.2.2.2.1))]) (rest := []) (ci := 1) C (c_appS l D A cs tt N ad _ (by omega) _ _ hBy3 _ hb9 q hq (by omega)) (lt_K hN (rfl : Nat.blt (919) 952 = true)) hb9 h9_y1 rfl q_1034 q_2125 q_348 q_1035 q_11 q_1036 (by decide) hd_yJ5_append_cf1ce (by decide) (Nat.le_of_ble_eq_true rfl) (by decide) dJ4_append_15ec4_2 rfl (kR fun avy4 Nvy4 advy4 gvy4 hvy4 => ?_)
  obtain ⟨hxvy4, ⟨hNvy4, hAvy4, hGvy4⟩, cnvy4, hkvy4, hBvy4⟩ := hvy4
  rw [hxvy4]
  obtain ⟨v_y5, cap_y5, ml_y5, b_y5, hv_y5, hvN_y5, hcap_y5, hcp_y5, hcn_y5, hml_y5, hby_y5, h9_y5, hgv_y5⟩ := id hBvy4
  have hay6 : zAt advy4 (v_y5) (advy4 v_y5) := rfl
  refine z_pop C dJ4_append_15ec4_5 rfl ?_
  refine z_aload_n C 0 dJ4_append_15ec4_6 rfl ?_
  have hBy7 : bldC cs advy4 gvy4 (Nvy4) (cnvy4) (0) := ⟨v_y5, cap_y5, ml_y5, b_y5, by omega, by omega, by omega, by omega, by omega, by omega, hby_y5, h9_y5, hgv_y5⟩
  have hGRy8 : GR N ad g (Nvy4) advy4 gvy4 := ⟨by omega, fun j j1 => by rw [hAvy4 _ (by omega)], fun j j1 j2 j3 => by rw [hGvy4 _ (by omega) (by omega) (by omega)]⟩
  exact z_aret C hr (Or.inl ⟨_, rfl⟩) hlk dJ4_append_15ec4_7 (by decide) (by decide) ⟨_, rfl, rfl, hGRy8, _, by omega, hBy7⟩

