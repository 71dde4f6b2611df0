section ZL
variable {p : Program} {l : Launch} {e : Env} {R : Room} {s : State} {m : MethodId} {args : Array Value} {below : List Frame} {meth : Method} {c : Code} {Q : State → Prop} {D : va_G} {A : Nat → Prop} {cs : Nat → ClassId} {tt : Nat} {cc : ByteArray} {nL : Nat} {own : String} {N : Nat} {ad : Nat → Nat} {g : Nat → va_E} {k n pc : Nat} {lv lv' : List (Nat × Value)} {rest : List Value}
theorem z_ldcw (C : zC p s m args c cc nL own D A cs tt) {i : Nat} {x : Int32} {z : Int} (hdg : decode cc pc = .ok (.ldc_w i, 3)) (hw : Cond.constant own i x ∈ AW) (hz : x = zI z) (kk : zV p l e R s m args below meth c Q D A nL N ad g k n (pc + 3) (lv) (.int (zI z) :: rest)) : zV p l e R s m args below meth c Q D A nL N ad g k n (pc) (lv) (rest) := fun H locs ls hP hD hS hl => lv_ldcw C.1 C.2.1 C.2.2.2.1 (C.2.2.2.2.1 _ hw) hdg (by rw [hz]; exact kk H locs ls hP hD hS hl)
theorem z_lookup (C : zC p s m args c cc nL own D A cs tt) {a dflt off : Int} {ps : Array (Int × Int)} {len tgt : Nat} (hdg : decode cc pc = .ok (.lookupswitch dflt ps, len)) (hp : (ps.toList.zip (ps.toList.drop 1)).all (fun (a, next) => a.1 < next.1) = true) (ha : -2147483648 ≤ a ∧ a ≤ 2147483647) (ho : Op.lookupswitch.offset ps.toList dflt a = off) (ht : (pc : Int) + off = (tgt : Int)) (kk : zV p l e R s m args below meth c Q D A nL N ad g k n (tgt) (lv) (rest)) : zV p l e R s m args below meth c Q D A nL N ad g k n (pc) (lv) (.int (zI a) :: rest) := fun H locs ls hP hD hS hl => lv_lookup C.1 C.2.1 hdg hp (by rw [zI_to ha]; exact ho) ht (kk H locs ls hP hD hS hl)
end ZL
theorem zI_and (x : Int32) {m : Int32} (k : Nat) (hm : m.toBitVec.toNat = 2 ^ k - 1) : ∃ z : Int, x &&& m = zI z ∧ 0 ≤ z ∧ z < ((2 ^ k : Nat) : Int) := by
  obtain ⟨j, hj, e⟩ := pk_andE x k hm
  exact ⟨(j : Int), by rw [e]; exact zI_nat j, by omega, by omega⟩

set_option maxRecDepth 100000 in
set_option maxHeartbeats 4000000 in
theorem c_X0_clear0 (l : Launch) (D : va_G) (A : Nat → Prop) (cs : Nat → ClassId) (tt : Nat) (N : Nat) (ad : Nat → Nat) (g : Nat → va_E) (b : Nat) (hN : b + 7 ≤ N) (hb : isGss cs ad g b 0 (-1) (fun _ => 0) (fun _ _ => 0)) : zM l yX0_clear cX0_clear 2 none ({ frames := 1, cells := 0, slots := 0, locals := 60 } : Room) D A cs tt N ad g [.ref (ad b)] (rV0 N ad fun g' => g' b = oC 2 [.int (zI 0), .int (zI (-1)), .ref (ad (b + 1)), .ref (ad (b + 2))] ∧ ∀ j, j ≠ b → j ≠ b + 1 → g' j = g j) := by
  obtain ⟨k1, k2, k3⟩ := id hb
  have hay1 : zAt ad (b) (ad b) := rfl
  have hay2 : zAt ad (b + 1) (ad (b + 1)) := rfl
  refine z_of (by decide) (Nat.le_of_ble_eq_true rfl) ?_
  intro p e s m below meth c C hr hlk hnm
  refine z_lv (lv' := [(0, .ref (ad b))]) [0] rfl ?_
  refine z_aload_n C 0 dX0_clear_0 rfl ?_
  refine z_iconst (z := 0) C dX0_clear_1 rfl ?_
  refine z_put (fs' := [.int (zI (0)), .int (zI (-1)), .ref (ad (b + 1)), .ref (ad (b + 2))]) C (by omega) hay1 k1 tyX0 tyX0_ok nmX0 rfl inA_X0 0 (by decide) q_291 rfl rfl rfl rfl (Nat.le_of_ble_eq_true rfl) rfl dX0_clear_2 (fun gy3 egy4 => ?_)
  have hgy5 := up_s egy4
  refine z_aload_n C 0 dX0_clear_5 rfl ?_
  refine z_iconst (z := -1) C dX0_clear_6 rfl ?_
  refine z_put (fs' := [.int (zI (0)), .int (zI (-1)), .ref (ad (b + 1)), .ref (ad (b + 2))]) C (by omega) hay1 hgy5 tyX0 tyX0_ok nmX0 rfl inA_X0 1 (by decide) q_293 rfl rfl rfl rfl (Nat.le_of_ble_eq_true rfl) rfl dX0_clear_7 (fun gy6 egy7 => ?_)
  have hgy8 := up_s egy7
  refine z_iconst (z := 0) C dX0_clear_10 rfl ?_
  refine z_istore_n (lv' := [(1, .int (zI (0))), (0, .ref (ad b))]) C dX0_clear_11 rfl (by decide) rfl ?_
  refine z_iload_n C 0 dX0_clear_12 rfl ?_
  refine z_aload_n C 1 dX0_clear_13 rfl ?_
  refine z_get (v := .ref (ad (b + 1))) C (by omega) hay1 hgy8 rfl inA_X0 2 (by decide) q_295 rfl rfl dX0_clear_14 ?_
  have hgy9 := up_n egy4 k2 (ne_o (i := b) (c := 1) (d := 0) rfl)
  have hgy10 := up_n egy7 hgy9 (ne_o (i := b) (c := 1) (d := 0) rfl)
  refine z_alen (z := 4) C (by omega) hay2 hgy10 1 rfl rfl dX0_clear_17 ?_
  refine z_icmp_ge (tgt := 34) C dX0_clear_18 (by decide) (by omega) (by omega) (fun h => absurd h (by omega)) (fun _ => ?_)
  refine z_aload_n C 1 dX0_clear_21 rfl ?_
  refine z_get (v := .ref (ad (b + 1))) C (by omega) hay1 hgy8 rfl inA_X0 2 (by decide) q_295 rfl rfl dX0_clear_22 ?_
  refine z_iload_n C 0 dX0_clear_25 rfl ?_
  refine z_iconst (z := 0) C dX0_clear_26 rfl ?_
  refine z_iast C (by omega) hay2 hgy10 (0) (by omega) (by omega) (by decide) dX0_clear_27 (fun gy11 egy12 => ?_)
  have hgy13 := up_s egy12
  refine z_iinc (z := 1) (lv' := [(1, .int (zI (1))), (0, .ref (ad b))]) (j := 0) C dX0_clear_28 rfl (congrArg zI (by omega)) (by decide) rfl ?_
  refine z_goto (tgt := 12) C dX0_clear_31 (by decide) ?_
  refine z_iload_n C 0 dX0_clear_12 rfl ?_
  refine z_aload_n C 1 dX0_clear_13 rfl ?_
  have hgy14 := up_n egy12 hgy8 (ne_o (i := b) (c := 0) (d := 1) rfl)
  refine z_get (v := .ref (ad (b + 1))) C (by omega) hay1 hgy14 rfl inA_X0 2 (by decide) q_295 rfl rfl dX0_clear_14 ?_
  refine z_alen (z := 4) C (by omega) hay2 hgy13 1 rfl rfl dX0_clear_17 ?_
  refine z_icmp_ge (tgt := 34) C dX0_clear_18 (by decide) (by omega) (by omega) (fun h => absurd h (by omega)) (fun _ => ?_)
  refine z_aload_n C 1 dX0_clear_21 rfl ?_
  refine z_get (v := .ref (ad (b + 1))) C (by omega) hay1 hgy14 rfl inA_X0 2 (by decide) q_295 rfl rfl dX0_clear_22 ?_
  refine z_iload_n C 0 dX0_clear_25 rfl ?_
  refine z_iconst (z := 0) C dX0_clear_26 rfl ?_
  refine z_iast C (by omega) hay2 hgy13 (1) (by omega) (by omega) (by decide) dX0_clear_27 (fun gy15 egy16 => ?_)
  have hgy17 := up_s egy16
  refine z_iinc (z := 2) (lv' := [(1, .int (zI (2))), (0, .ref (ad b))]) (j := 0) C dX0_clear_28 rfl (congrArg zI (by omega)) (by decide) rfl ?_
  refine z_goto (tgt := 12) C dX0_clear_31 (by decide) ?_
  refine z_iload_n C 0 dX0_clear_12 rfl ?_
  refine z_aload_n C 1 dX0_clear_13 rfl ?_
  have hgy18 := up_n egy16 hgy14 (ne_o (i := b) (c := 0) (d := 1) rfl)
  refine z_get (v := .ref (ad (b + 1))) C (by omega) hay1 hgy18 rfl inA_X0 2 (by decide) q_295 rfl rfl dX0_clear_14 ?_
  refine z_alen (z := 4) C (by omega) hay2 hgy17 1 rfl rfl dX0_clear_17 ?_
  refine z_icmp_ge (tgt := 34) C dX0_clear_18 (by decide) (by omega) (by omega) (fun h => absurd h (by omega)) (fun _ => ?_)
  refine z_aload_n C 1 dX0_clear_21 rfl ?_
  refine z_get (v := .ref (ad (b + 1))) C (by omega) hay1 hgy18 rfl inA_X0 2 (by decide) q_295 rfl rfl dX0_clear_22 ?_
  refine z_iload_n C 0 dX0_clear_25 rfl ?_
  refine z_iconst (z := 0) C dX0_clear_26 rfl ?_
  refine z_iast C (by omega) hay2 hgy17 (2) (by omega) (by omega) (by decide) dX0_clear_27 (fun gy19 egy20 => ?_)
  have hgy21 := up_s egy20
  refine z_iinc (z := 3) (lv' := [(1, .int (zI (3))), (0, .ref (ad b))]) (j := 0) C dX0_clear_28 rfl (congrArg zI (by omega)) (by decide) rfl ?_
  refine z_goto (tgt := 12) C dX0_clear_31 (by decide) ?_
  refine z_iload_n C 0 dX0_clear_12 rfl ?_
  refine z_aload_n C 1 dX0_clear_13 rfl ?_
  have hgy22 := up_n egy20 hgy18 (ne_o (i := b) (c := 0) (d := 1) rfl)
  refine z_get (v := .ref (ad (b + 1))) C (by omega) hay1 hgy22 rfl inA_X0 2 (by decide) q_295 rfl rfl dX0_clear_14 ?_
  refine z_alen (z := 4) C (by omega) hay2 hgy21 1 rfl rfl dX0_clear_17 ?_
  refine z_icmp_ge (tgt := 34) C dX0_clear_18 (by decide) (by omega) (by omega) (fun h => absurd h (by omega)) (fun _ => ?_)
  refine z_aload_n C 1 dX0_clear_21 rfl ?_
  refine z_get (v := .ref (ad (b + 1))) C (by omega) hay1 hgy22 rfl inA_X0 2 (by decide) q_295 rfl rfl dX0_clear_22 ?_
  refine z_iload_n C 0 dX0_clear_25 rfl ?_
  refine z_iconst (z := 0) C dX0_clear_26 rfl ?_
  refine z_iast C (by omega) hay2 hgy21 (3) (by omega) (by omega) (by decide) dX0_clear_27 (fun gy23 egy24 => ?_)
  have hgy25 := up_s egy24
  refine z_iinc (z := 4) (lv' := [(1, .int (zI (4))), (0, .ref (ad b))]) (j := 0) C dX0_clear_28 rfl (congrArg zI (by omega)) (by decide) rfl ?_
  refine z_goto (tgt := 12) C dX0_clear_31 (by decide) ?_
  refine z_iload_n C 0 dX0_clear_12 rfl ?_
  refine z_aload_n C 1 dX0_clear_13 rfl ?_
  have hgy26 := up_n egy24 hgy22 (ne_o (i := b) (c := 0) (d := 1) rfl)
  refine z_get (v := .ref (ad (b + 1))) C (by omega) hay1 hgy26 rfl inA_X0 2 (by decide) q_295 rfl rfl dX0_clear_14 ?_
  refine z_alen (z := 4) C (by omega) hay2 hgy25 1 rfl rfl dX0_clear_17 ?_
  refine z_icmp_ge (tgt := 34) C dX0_clear_18 (by decide) (by omega) (by omega) (fun _ => ?_) (fun h => absurd h (by omega))
  exact z_vret C hr hlk dX0_clear_34 (by decide) (by decide) ⟨rfl, rfl, rfl, hgy26, fun j h1 h2 => by rw [egy24, va_up_ne _ _ (by omega)]; rw [egy20, va_up_ne _ _ (by omega)]; rw [egy16, va_up_ne _ _ (by omega)]; rw [egy12, va_up_ne _ _ (by omega)]; rw [egy7, va_up_ne _ _ (by omega)]; rw [egy4, va_up_ne _ _ (by omega)]⟩

set_option maxRecDepth 100000 in
set_option maxHeartbeats 4000000 in
theorem c_X9_guessFalls (l : Launch) (D : va_G) (A : Nat → Prop) (cs : Nat → ClassId) (tt : Nat) (N : Nat) (ad : Nat → Nat) (g : Nat → va_E) (i : Nat) (hN : i + 921 ≤ N) (hR : isRec cs ad g i) (z : Int) : zM l yX9_guessFalls cX9_guessFalls 4 none ({ frames := 3, cells := 0, slots := 0, locals := 180 } : Room) D A cs tt N ad g [.ref (ad i), .int (zI z)] (rV0 N ad fun g' => g' i = recC ad i 0 ∧ g' (i + 4) = oC 7 [.int (zI 0), .int (zI 0), .int (zI 0), .ref (ad (i + 4 + 1)), .ref (ad (i + 4 + 2)), .ref (ad (i + 4 + 3)), .ref (ad (i + 4 + 4)), .ref (ad (i + 4 + 5)), .ref (ad (i + 4 + 6))] ∧ g' (i + 910) = oC 2 [.int (zI 0), .int (zI (-1)), .ref (ad (i + 910 + 1)), .ref (ad (i + 910 + 2))] ∧ oR i g g') := by
  obtain ⟨r1, r2, r3, r4, r5, r6, r7, r8, r9, r10, r11, r12⟩ := id hR
  have hay1 : zAt ad (i) (ad i) := rfl
  have hay2 : zAt ad (i + 4) (ad (i + 4)) := rfl
  have hay3 : zAt ad (i + 910) (ad (i + 910)) := rfl
  have hay4 : zAt ad (i + 883) (ad (i + 883)) := rfl
  refine z_of (by decide) (Nat.le_of_ble_eq_true rfl) ?_
  intro p e s m below meth c C hr hlk hnm
  refine z_lv (lv' := [(0, .ref (ad i)), (1, .int (zI (z)))]) [0, 1] rfl ?_
  refine z_aload_n C 0 dX9_guessFalls_0 rfl ?_
  refine z_get (v := .ref (ad (i + 910))) C (by omega) hay1 r1 rfl inA_X9 11 (by decide) q_360 rfl rfl dX9_guessFalls_1 ?_
  refine z_cV (As := []) (rest := []) (ci := 2) C (c_X0_clear0 l D A cs tt N ad _ (i + 910) (by omega) r10) (by omega) hay3 r10.1 rfl rfl mv_yX0_clear q_1376 hd_yX0_clear (by decide) (Nat.le_of_ble_eq_true rfl) (by decide) dX9_guessFalls_4 rfl (kV0 fun ga ha => ?_)
  obtain ⟨ha1, ha2⟩ := ha
  refine z_aload_n C 0 dX9_guessFalls_7 rfl ?_
  have hgy5 := (ha2 (i) (ne_o (i := i) (c := 0) (d := 910) rfl) (ne_o (i := i) (c := 0) (d := 911) rfl)).trans r1
  refine z_get (v := .ref (ad (i + 883))) C (by omega) hay1 hgy5 rfl inA_X9 8 (by decide) q_357 rfl rfl dX9_guessFalls_8 ?_
  refine z_aload_n C 0 dX9_guessFalls_11 rfl ?_
  refine z_get (v := .ref (ad (i + 4))) C (by omega) hay1 hgy5 rfl inA_X9 4 (by decide) q_353 rfl rfl dX9_guessFalls_12 ?_
  have hpy6 := isPlan.mv (ad' := ad) (g' := ga) (fun j h1 h2 => by rfl) (fun j h1 h2 => by rw [ha2 _ (by omega) (by omega)]) r4
  have hpy7 := isPlan.mv (ad' := ad) (g' := ga) (fun j h1 h2 => by rfl) (fun j h1 h2 => by rw [ha2 _ (by omega) (by omega)]) r7
  have hgy8 := (ha2 (i + 883) (ne_o (i := i) (c := 883) (d := 910) rfl) (ne_o (i := i) (c := 883) (d := 911) rfl)).trans r7.1
  refine z_cV (As := [.ref (ad (i + 4))]) (rest := []) (ci := 7) C (c_X5_copyFrom l D A cs tt N ad _ (i + 883) (i + 4) (by omega) (by omega) _ _ _ _ _ _ _ _ _ _ _ _ _ _ _ _ _ _ hpy7 hpy6) (by omega) hay4 hgy8 rfl rfl mv_yX5_copyFrom q_862 hd_yX5_copyFrom (by decide) (Nat.le_of_ble_eq_true rfl) (by decide) dX9_guessFalls_15 rfl (kV0 fun gb hb => ?_)
  obtain ⟨hb1, hb2⟩ := hb
  refine z_iconst (z := 0) C dX9_guessFalls_18 rfl ?_
  refine z_istore_n (lv' := [(2, .int (zI (0))), (0, .ref (ad i)), (1, .int (zI (z)))]) C dX9_guessFalls_19 rfl (by decide) rfl ?_
  refine z_iload_n C 0 dX9_guessFalls_20 rfl ?_
  refine z_aload_n C 1 dX9_guessFalls_21 rfl ?_
  have hgy9 := (hb2 (i) (by omega)).trans hgy5
  refine z_get (v := .ref (ad (i + 4))) C (by omega) hay1 hgy9 rfl inA_X9 4 (by decide) q_353 rfl rfl dX9_guessFalls_22 ?_
  have hgy10 := (ha2 (i + 4) (ne_o (i := i) (c := 4) (d := 910) rfl) (ne_o (i := i) (c := 4) (d := 911) rfl)).trans r4.1
  have hgy11 := (hb2 (i + 4) (by omega)).trans hgy10
  refine z_get (v := .int (zI (0))) C (by omega) hay2 hgy11 rfl inA_X5 1 (by decide) q_93 rfl rfl dX9_guessFalls_25 ?_
  refine z_icmp_ge (tgt := 131) C dX9_guessFalls_28 (by decide) (by omega) (by omega) (fun _ => ?_) (fun h => absurd h (by omega))
  have hgy12 := (hb2 (i + 910) (by omega)).trans ha1
  exact z_vret C hr hlk dX9_guessFalls_131 (by decide) (by decide) ⟨rfl, rfl, rfl, hgy9, hgy11, hgy12, fun j h1 => by rw [hb2 _ (by omega)]; rw [ha2 _ (by omega) (by omega)]⟩

set_option maxRecDepth 100000 in
set_option maxHeartbeats 4000000 in
theorem c_X2_lastHour0 (l : Launch) (D : va_G) (A : Nat → Prop) (cs : Nat → ClassId) (tt : Nat) (N : Nat) (ad : Nat → Nat) (g : Nat → va_E) (b : Nat) (hN : b < N) (hb : g b = oC 4 [.int (zI 0), .ref (ad (b + 1)), .ref (ad (b + 2)), .ref (ad (b + 3))]) : zM l yX2_lastHour cX2_lastHour 3 (some .int) ({ frames := 1, cells := 0, slots := 0, locals := 60 } : Room) D A cs tt N ad g [.ref (ad b)] (rI0 N ad fun r g' => r = -1 ∧ g' = g) := by
  have hay1 : zAt ad (b) (ad b) := rfl
  refine z_of (by decide) (Nat.le_of_ble_eq_true rfl) ?_
  intro p e s m below meth c C hr hlk hnm
  refine z_lv (lv' := [(0, .ref (ad b))]) [0] rfl ?_
  refine z_iconst (z := -1) C dX2_lastHour_0 rfl ?_
  refine z_istore_n (lv' := [(1, .int (zI (-1))), (0, .ref (ad b))]) C dX2_lastHour_1 rfl (by decide) rfl ?_
  refine z_iconst (z := 0) C dX2_lastHour_2 rfl ?_
  refine z_istore_n (lv' := [(2, .int (zI (0))), (1, .int (zI (-1))), (0, .ref (ad b))]) C dX2_lastHour_3 rfl (by decide) rfl ?_
  refine z_iload_n C 0 dX2_lastHour_4 rfl ?_
  refine z_aload_n C 2 dX2_lastHour_5 rfl ?_
  refine z_get (v := .int (zI (0))) C (by omega) hay1 hb rfl inA_X2 0 (by decide) q_216 rfl rfl dX2_lastHour_6 ?_
  refine z_icmp_ge (tgt := 29) C dX2_lastHour_9 (by decide) (by omega) (by omega) (fun _ => ?_) (fun h => absurd h (by omega))
  refine z_iload_n C 1 dX2_lastHour_29 rfl ?_
  exact z_iret C hr hlk dX2_lastHour_30 (by decide) (by decide) ⟨-1, rfl, rfl, rfl, rfl, rfl⟩

set_option maxRecDepth 100000 in
set_option maxHeartbeats 4000000 in
theorem c_X9_isNotedSo0 (l : Launch) (D : va_G) (A : Nat → Prop) (cs : Nat → ClassId) (tt : Nat) (N : Nat) (ad : Nat → Nat) (g : Nat → va_E) (i wa pa : Nat) (hN : i + 921 ≤ N) (h1 : g i = recC ad i 0) (h2 : g (i + 11) = oC 8 [.ref (ad (i + 11 + 1)), .ref (ad (i + 11 + 11)), .int (zI 0), .ref (ad (i + 11 + 12)), .ref (ad (i + 11 + 13)), .ref (ad (i + 11 + 17))]) (z : Int) : zM l yX9_isNotedSo cX9_isNotedSo 9 (some .boolean) ({ frames := 1, cells := 0, slots := 0, locals := 60 } : Room) D A cs tt N ad g [.ref (ad i), .ref wa, .ref pa, .int (zI z), .int (zI 0), .int (zI (-1))] (rI0 N ad fun r g' => r = 1 ∧ g' = g) := by
  have hay1 : zAt ad (i) (ad i) := rfl
  have hay2 : zAt ad (i + 11) (ad (i + 11)) := rfl
  refine z_of (by decide) (Nat.le_of_ble_eq_true rfl) ?_
  intro p e s m below meth c C hr hlk hnm
  refine z_lv (lv' := [(0, .ref (ad i)), (1, .ref wa), (2, .ref pa), (3, .int (zI (z))), (4, .int (zI (0))), (5, .int (zI (-1)))]) [0, 1, 2, 3, 4, 5] rfl ?_
  refine z_aload_n C 0 dX9_isNotedSo_0 rfl ?_
  refine z_get (v := .ref (ad (i + 11))) C (by omega) hay1 h1 rfl inA_X9 5 (by decide) q_354 rfl rfl dX9_isNotedSo_1 ?_
  refine z_get (v := .ref (ad (i + 11 + 13))) C (by omega) hay2 h2 rfl inA_X6 4 (by decide) q_265 rfl rfl dX9_isNotedSo_4 ?_
  refine z_astore (lv' := [(6, .ref (ad (i + 11 + 13))), (0, .ref (ad i)), (1, .ref wa), (2, .ref pa), (3, .int (zI (z))), (4, .int (zI (0))), (5, .int (zI (-1)))]) C dX9_isNotedSo_7 (by decide) rfl ?_
  refine z_iload C 5 dX9_isNotedSo_9 rfl ?_
  refine z_istore (lv' := [(7, .int (zI (0))), (6, .ref (ad (i + 11 + 13))), (0, .ref (ad i)), (1, .ref wa), (2, .ref pa), (3, .int (zI (z))), (4, .int (zI (0))), (5, .int (zI (-1)))]) C dX9_isNotedSo_11 (by decide) rfl ?_
  refine z_iload C 0 dX9_isNotedSo_13 rfl ?_
  refine z_iload C 7 dX9_isNotedSo_15 rfl ?_
  refine z_icmp_gt (tgt := 103) C dX9_isNotedSo_17 (by decide) (by omega) (by omega) (fun _ => ?_) (fun h => absurd h (by omega))
  refine z_iconst (z := 1) C dX9_isNotedSo_103 rfl ?_
  exact z_zret C hr hlk dX9_isNotedSo_104 (by decide) (by decide) (by decide) ⟨1, rfl, rfl, rfl, rfl, rfl⟩

set_option maxRecDepth 100000 in
set_option maxHeartbeats 4000000 in
theorem c_X9_falls (l : Launch) (D : va_G) (A : Nat → Prop) (cs : Nat → ClassId) (tt : Nat) (N : Nat) (ad : Nat → Nat) (g : Nat → va_E) (i : Nat) (hN : i + 921 ≤ N) (hR : isRec cs ad g i) (hl0 : l.stackTraces = false) (z : Int) (hz : -2147483648 ≤ z ∧ z ≤ 2147483647) : zMX l yX9_falls cX9_falls 3 (some .int) ({ frames := 8, cells := 1, slots := 6, locals := 480 } : Room) D A cs tt N ad g [.ref (ad i), .int (zI z)] (rI0 N ad fun r g' => (0 ≤ z ∧ z ≤ 2) ∧ r = (if z = 2 then 1 else if z = 0 then 0 else -1) ∧ oR i g g') (fun E N' ad' g' => E = eNS ∧ N' = N ∧ ad' = ad ∧ g' = g ∧ (z < 0 ∨ 2 < z)) := by
  obtain ⟨r1, r2, r3, r4, r5, r6, r7, r8, r9, r10, r11, r12⟩ := id hR
  have hay1 : zAt ad (i) (ad i) := rfl
  have hay2 : zAt ad (i + 4) (ad (i + 4)) := rfl
  have hay3 : zAt ad (i + 11) (ad (i + 11)) := rfl
  have hay4 : zAt ad (i + 11 + 1) (ad (i + 11 + 1)) := rfl
  have hay5 : zAt ad (i + 890) (ad (i + 890)) := rfl
  have hay6 : zAt ad (i + 11 + 13) (ad (i + 11 + 13)) := rfl
  have hay7 : zAt ad (i + 910) (ad (i + 910)) := rfl
  refine z_ofX (by decide) (Nat.le_of_ble_eq_true rfl) ?_
  intro p e s m below meth c C hr hlk hxt
  refine z_lv (lv' := [(0, .ref (ad i)), (1, .int (zI (z)))]) [0, 1] rfl ?_
  refine z_iload_n C 1 dX9_falls_0 rfl ?_
  refine z_iconst (z := 2) C dX9_falls_1 rfl ?_
  refine z_cSX (As := [.int (zI (z)), .int (zI (2))]) (rest := []) C (c_X9_needWhat l D A cs tt N ad _ hl0 z 2 hz (by decide)) ms_yX9_needWhat q_1220 hd_yX9_needWhat (by decide) (Nat.le_of_ble_eq_true rfl) (by decide) dX9_falls_2 rfl (fun E N' ad' g' h => by obtain ⟨rfl, rfl, rfl, rfl, h9⟩ := h; exact z_uout C hxt hlk (by decide) (by decide) ⟨rfl, rfl, rfl, rfl, h9⟩) (kV0 fun gn hn => ?_)
  obtain ⟨hn1, rfl⟩ := hn
  refine z_iload_n C 1 dX9_falls_5 rfl ?_
  refine z_iconst (z := 2) C dX9_falls_6 rfl ?_
  refine z_icmp_ne (tgt := 65) C dX9_falls_7 (by decide) (by omega) (by omega) (fun hb1 => ?_) (fun hb1 => ?_)
  · refine z_aload_n C 0 dX9_falls_65 rfl ?_
    refine z_iconst (z := 0) C dX9_falls_66 rfl ?_
    refine z_cV (As := [.int (zI (0))]) (rest := []) (ci := 11) C (c_X9_guessFalls l D A cs tt N ad _ i hN hR 0) (by omega) hay1 r1 rfl rfl mv_yX9_guessFalls q_1372 hd_yX9_guessFalls (by decide) (Nat.le_of_ble_eq_true rfl) (by decide) dX9_falls_67 rfl (kV0 fun ga ha => ?_)
    obtain ⟨ha1, ha2, ha3, ha4⟩ := ha
    refine z_iload_n C 1 dX9_falls_70 rfl ?_
    refine z_if_ne (tgt := 84) C dX9_falls_71 (by decide) (by omega) (fun hb2 => ?_) (fun hb2 => ?_)
    · refine z_aload_n C 0 dX9_falls_84 rfl ?_
      refine z_get (v := .ref (ad (i + 910))) C (by omega) hay1 ha1 rfl inA_X9 11 (by decide) q_360 rfl rfl dX9_falls_85 ?_
      refine z_get (v := .int (zI (-1))) C (by omega) hay7 ha3 rfl inA_X0 1 (by decide) q_294 rfl rfl dX9_falls_88 ?_
      exact z_rX (z_iret C hr hlk dX9_falls_91 (by decide) (by decide) ⟨-1, rfl, rfl, rfl, hn1, by rw [if_neg hb1, if_neg hb2], ha4⟩)
    · refine z_aload_n C 0 dX9_falls_74 rfl ?_
      refine z_get (v := .ref (ad (i + 910))) C (by omega) hay1 ha1 rfl inA_X9 11 (by decide) q_360 rfl rfl dX9_falls_75 ?_
      refine z_get (v := .int (zI (0))) C (by omega) hay7 ha3 rfl inA_X0 0 (by decide) q_292 rfl rfl dX9_falls_78 ?_
      refine z_goto (tgt := 91) C dX9_falls_81 (by decide) ?_
      exact z_rX (z_iret C hr hlk dX9_falls_91 (by decide) (by decide) ⟨0, rfl, rfl, rfl, hn1, by rw [if_neg hb1, if_pos hb2], ha4⟩)
  · refine z_aload_n C 0 dX9_falls_10 rfl ?_
    refine z_get (v := .ref (ad (i + 890))) C (by omega) hay1 r1 rfl inA_X9 9 (by decide) q_358 rfl rfl dX9_falls_11 ?_
    refine z_aload_n C 0 dX9_falls_14 rfl ?_
    refine z_get (v := .ref (ad (i + 11))) C (by omega) hay1 r1 rfl inA_X9 5 (by decide) q_354 rfl rfl dX9_falls_15 ?_
    refine z_get (v := .ref (ad (i + 11 + 1))) C (by omega) hay3 r5.1 rfl inA_X6 0 (by decide) q_258 rfl rfl dX9_falls_18 ?_
    refine z_cV (As := [.ref (ad (i + 11 + 1))]) (rest := []) (ci := 10) C (c_X8_copyFrom l D A cs tt N ad _ (i + 890) (i + 11 + 1) (by omega) (by omega) _ _ _ _ _ _ _ _ r8 r5.2.1) (by omega) hay5 r8.1 rfl rfl mv_yX8_copyFrom q_1228 hd_yX8_copyFrom (by decide) (Nat.le_of_ble_eq_true rfl) (by decide) dX9_falls_21 rfl (kV0 fun gb hb => ?_)
    obtain ⟨hb3, hb4⟩ := hb
    refine z_aload_n C 0 dX9_falls_24 rfl ?_
    refine z_aload_n C 0 dX9_falls_25 rfl ?_
    have hgy8 := (hb4 (i) (by omega)).trans r1
    refine z_get (v := .ref (ad (i + 890))) C (by omega) hay1 hgy8 rfl inA_X9 9 (by decide) q_358 rfl rfl dX9_falls_26 ?_
    refine z_aload_n C 0 dX9_falls_29 rfl ?_
    refine z_get (v := .ref (ad (i + 4))) C (by omega) hay1 hgy8 rfl inA_X9 4 (by decide) q_353 rfl rfl dX9_falls_30 ?_
    refine z_aload_n C 0 dX9_falls_33 rfl ?_
    refine z_get (v := .ref (ad (i + 4))) C (by omega) hay1 hgy8 rfl inA_X9 4 (by decide) q_353 rfl rfl dX9_falls_34 ?_
    have hgy9 := (hb4 (i + 4) (by omega)).trans r4.1
    refine z_cV (As := []) (rest := [.ref (ad (i + 4)), .ref (ad (i + 890)), .ref (ad i)]) (ci := 7) C (c_X5_allSlopes0 l D A cs tt N ad _ (i + 4) (by omega) hgy9) (by omega) hay2 hgy9 rfl rfl mv_yX5_allSlopes q_431 hd_yX5_allSlopes (by decide) (Nat.le_of_ble_eq_true rfl) (by decide) dX9_falls_37 rfl (kI0 fun rs gs hs => ?_)
    obtain ⟨rfl, rfl⟩ := hs
    refine z_iconst (z := 0) C dX9_falls_40 rfl ?_
    refine z_aload_n C 0 dX9_falls_41 rfl ?_
    refine z_get (v := .ref (ad (i + 11))) C (by omega) hay1 hgy8 rfl inA_X9 5 (by decide) q_354 rfl rfl dX9_falls_42 ?_
    have hgy10 := (hb4 (i + 11) (by omega)).trans r5.1
    refine z_get (v := .ref (ad (i + 11 + 13))) C (by omega) hay3 hgy10 rfl inA_X6 4 (by decide) q_265 rfl rfl dX9_falls_45 ?_
    have hgy11 := (hb4 (i + 11 + 13) (by omega)).trans r5.2.2.2.2.1.1
    refine z_cV (As := []) (rest := [.int (zI (0)), .int (zI (0)), .ref (ad (i + 4)), .ref (ad (i + 890)), .ref (ad i)]) (ci := 4) C (c_X2_lastHour0 l D A cs tt N ad _ (i + 11 + 13) (by omega) hgy11) (by omega) hay6 hgy11 rfl rfl mv_yX2_lastHour q_1363 hd_yX2_lastHour (by decide) (Nat.le_of_ble_eq_true rfl) (by decide) dX9_falls_48 rfl (kI0 fun rh gh hh => ?_)
    obtain ⟨rfl, rfl⟩ := hh
    refine z_cV (As := [.ref (ad (i + 890)), .ref (ad (i + 4)), .int (zI (0)), .int (zI (0)), .int (zI (-1))]) (rest := []) (ci := 11) C (c_X9_isNotedSo0 l D A cs tt N ad _ i _ _ hN hgy8 hgy10 0) (by omega) hay1 hgy8 rfl rfl mv_yX9_isNotedSo q_1368 hd_yX9_isNotedSo (by decide) (Nat.le_of_ble_eq_true rfl) (by decide) dX9_falls_51 rfl (kI0 fun rt gt ht => ?_)
    obtain ⟨rfl, rfl⟩ := ht
    refine z_istore_n (lv' := [(2, .int (zI (1))), (0, .ref (ad i)), (1, .int (zI (z)))]) C dX9_falls_54 rfl (by decide) rfl ?_
    refine z_iload_n C 0 dX9_falls_55 rfl ?_
    refine z_if_eq (tgt := 63) C dX9_falls_56 (by decide) (by omega) (fun h => absurd h (by omega)) (fun _ => ?_)
    refine z_iconst (z := 1) C dX9_falls_59 rfl ?_
    refine z_goto (tgt := 64) C dX9_falls_60 (by decide) ?_
    exact z_rX (z_iret C hr hlk dX9_falls_64 (by decide) (by decide) ⟨1, rfl, rfl, rfl, hn1, by rw [if_pos hb1], fun j h1 => by rw [hb4 _ (by omega)]⟩)

set_option maxRecDepth 100000 in
set_option maxHeartbeats 4000000 in
theorem c_X9_look (l : Launch) (D : va_G) (A : Nat → Prop) (cs : Nat → ClassId) (tt : Nat) (N : Nat) (ad : Nat → Nat) (g : Nat → va_E) (i : Nat) (hN : i + 921 ≤ N) (hR : isRec cs ad g i) (hl0 : l.stackTraces = false) (z : Int) (hz : -2147483648 ≤ z ∧ z ≤ 2147483647) : zMX l yX9_look cX9_look 5 (some .int) ({ frames := 8, cells := 1, slots := 6, locals := 480 } : Room) D A cs tt N ad g [.ref (ad i), .int (zI z)] (rI0 N ad fun r g' => (0 ≤ z ∧ z ≤ 1) ∧ r = (if z = 0 then -1 else 0) ∧ oR i g g') (fun E N' ad' g' => E = eNS ∧ N' = N ∧ ad' = ad ∧ g' = g ∧ (z < 0 ∨ 1 < z)) := by
  obtain ⟨r1, r2, r3, r4, r5, r6, r7, r8, r9, r10, r11, r12⟩ := id hR
  have hay1 : zAt ad (i) (ad i) := rfl
  have hay2 : zAt ad (i + 4) (ad (i + 4)) := rfl
  refine z_ofX (by decide) (Nat.le_of_ble_eq_true rfl) ?_
  intro p e s m below meth c C hr hlk hxt
  refine z_lv (lv' := [(0, .ref (ad i)), (1, .int (zI (z)))]) [0, 1] rfl ?_
  refine z_iload_n C 1 dX9_look_0 rfl ?_
  refine z_iconst (z := 1) C dX9_look_1 rfl ?_
  refine z_cSX (As := [.int (zI (z)), .int (zI (1))]) (rest := []) C (c_X9_needWhat l D A cs tt N ad _ hl0 z 1 hz (by decide)) ms_yX9_needWhat q_1220 hd_yX9_needWhat (by decide) (Nat.le_of_ble_eq_true rfl) (by decide) dX9_look_2 rfl (fun E N' ad' g' h => by obtain ⟨rfl, rfl, rfl, rfl, h9⟩ := h; exact z_uout C hxt hlk (by decide) (by decide) ⟨rfl, rfl, rfl, rfl, h9⟩) (kV0 fun gn hn => ?_)
  obtain ⟨hn1, rfl⟩ := hn
  refine z_aload_n C 0 dX9_look_5 rfl ?_
  refine z_iconst (z := 1) C dX9_look_6 rfl ?_
  refine z_cV (As := [.int (zI (1))]) (rest := []) (ci := 11) C (c_X9_guessFalls l D A cs tt N ad _ i hN hR 1) (by omega) hay1 r1 rfl rfl mv_yX9_guessFalls q_1372 hd_yX9_guessFalls (by decide) (Nat.le_of_ble_eq_true rfl) (by decide) dX9_look_7 rfl (kV0 fun ga ha => ?_)
  obtain ⟨ha1, ha2, ha3, ha4⟩ := ha
  refine z_iconst (z := -1) C dX9_look_10 rfl ?_
  refine z_istore_n (lv' := [(2, .int (zI (-1))), (0, .ref (ad i)), (1, .int (zI (z)))]) C dX9_look_11 rfl (by decide) rfl ?_
  refine z_iconst (z := 0) C dX9_look_12 rfl ?_
  refine z_istore_n (lv' := [(3, .int (zI (0))), (2, .int (zI (-1))), (0, .ref (ad i)), (1, .int (zI (z)))]) C dX9_look_13 rfl (by decide) rfl ?_
  refine z_iconst (z := 0) C dX9_look_14 rfl ?_
  refine z_istore (lv' := [(4, .int (zI (0))), (3, .int (zI (0))), (2, .int (zI (-1))), (0, .ref (ad i)), (1, .int (zI (z)))]) C dX9_look_15 (by decide) rfl ?_
  refine z_iload C 0 dX9_look_17 rfl ?_
  refine z_aload_n C 3 dX9_look_19 rfl ?_
  refine z_get (v := .ref (ad (i + 4))) C (by omega) hay1 ha1 rfl inA_X9 4 (by decide) q_353 rfl rfl dX9_look_20 ?_
  refine z_get (v := .int (zI (0))) C (by omega) hay2 ha2 rfl inA_X5 0 (by decide) q_90 rfl rfl dX9_look_23 ?_
  refine z_icmp_ge (tgt := 63) C dX9_look_26 (by decide) (by omega) (by omega) (fun _ => ?_) (fun h => absurd h (by omega))
  refine z_iload_n C 4 dX9_look_63 rfl ?_
  refine z_if_ne (tgt := 71) C dX9_look_64 (by decide) (by omega) (fun hb2 => ?_) (fun hb2 => ?_)
  · refine z_iload_n C 1 dX9_look_71 rfl ?_
    exact z_rX (z_iret C hr hlk dX9_look_72 (by decide) (by decide) ⟨0, rfl, rfl, rfl, hn1, by rw [if_neg hb2], ha4⟩)
  · refine z_iload_n C 2 dX9_look_67 rfl ?_
    refine z_goto (tgt := 72) C dX9_look_68 (by decide) ?_
    exact z_rX (z_iret C hr hlk dX9_look_72 (by decide) (by decide) ⟨-1, rfl, rfl, rfl, hn1, by rw [if_pos hb2], ha4⟩)

set_option maxRecDepth 100000 in
set_option maxHeartbeats 4000000 in
theorem c_X9_nextSeed (l : Launch) (D : va_G) (A : Nat → Prop) (cs : Nat → ClassId) (tt : Nat) (N : Nat) (ad : Nat → Nat) (g : Nat → va_E) (z : Int) : zM l yX9_nextSeed cX9_nextSeed 1 (some .int) ({ frames := 1, cells := 0, slots := 0, locals := 60 } : Room) D A cs tt N ad g [.int (zI z)] (rI0 N ad fun r g' => (-2147483648 ≤ r ∧ r ≤ 2147483647) ∧ g = g') := by
  refine z_of (by decide) (Nat.le_of_ble_eq_true rfl) ?_
  intro p e s m below meth c C hr hlk hnm
  refine z_lv (lv' := [(0, .int (zI (z)))]) [0] rfl ?_
  refine z_iload_n C 0 dX9_nextSeed_0 rfl ?_
  refine z_ldcw (z := 1103515245) C dX9_nextSeed_1 q_1440 (by decide) ?_
  refine z_imul C dX9_nextSeed_4 ?_
  refine z_sipush (z := 12345) C dX9_nextSeed_5 (by decide) ?_
  refine z_iadd C dX9_nextSeed_8 ?_
  obtain ⟨q, hq, hr9⟩ := zI_of (zI ((z * 1103515245) + 12345))
  rw [hq]
  exact z_iret C hr hlk dX9_nextSeed_9 (by decide) (by decide) ⟨q, rfl, rfl, rfl, hr9, rfl⟩

set_option maxRecDepth 100000 in
set_option maxHeartbeats 4000000 in
theorem c_X9_drawOf6 (l : Launch) (D : va_G) (A : Nat → Prop) (cs : Nat → ClassId) (tt : Nat) (N : Nat) (ad : Nat → Nat) (g : Nat → va_E) (z : Int) : zM l yX9_drawOf cX9_drawOf 2 (some .int) ({ frames := 2, cells := 0, slots := 0, locals := 120 } : Room) D A cs tt N ad g [.int (zI z), .int (zI 6)] (rI0 N ad fun r g' => (0 ≤ r ∧ r ≤ 5) ∧ g = g') := by
  refine z_of (by decide) (Nat.le_of_ble_eq_true rfl) ?_
  intro p e s m below meth c C hr hlk hnm
  refine z_lv (lv' := [(0, .int (zI (z))), (1, .int (zI (6)))]) [0, 1] rfl ?_
  refine z_iload_n C 0 dX9_drawOf_0 rfl ?_
  refine z_bipush (z := 16) C dX9_drawOf_1 (by decide) ?_
  obtain ⟨q1, e1, -⟩ := zI_of (((zI z).toUInt32 >>> ((zI (16)).toUInt32 &&& Int32.toUInt32 31)).toInt32)
  refine z_iushr (z := q1) C dX9_drawOf_3 e1 ?_
  refine z_sipush (z := 32767) C dX9_drawOf_4 (by decide) ?_
  obtain ⟨q2, e2, h2⟩ := zI_and (zI q1) (m := zI 32767) 15 (by decide)
  refine z_iand (z := q2) C dX9_drawOf_7 e2 ?_
  refine z_iload_n C 1 dX9_drawOf_8 rfl ?_
  refine z_iconst (z := 1) C dX9_drawOf_9 rfl ?_
  refine z_mmax C q_1444 q_470 q_20 q_471 (by decide) (by decide) (by decide) (Nat.le_of_ble_eq_true rfl) (by decide) (by decide) dX9_drawOf_10 ?_
  rw [show (if (6 : Int) < 1 then (1 : Int) else 6) = 6 by decide]
  refine z_irem C dX9_drawOf_13 (by omega) (by omega) (by decide) ?_
  exact z_iret C hr hlk dX9_drawOf_14 (by decide) (by decide) ⟨q2.tmod 6, rfl, rfl, rfl, by rw [Int.tmod_eq_emod_of_nonneg (by omega)]; omega, rfl⟩

set_option maxRecDepth 100000 in
set_option maxHeartbeats 4000000 in
theorem c_X9_slideAll0 (l : Launch) (D : va_G) (A : Nat → Prop) (cs : Nat → ClassId) (tt : Nat) (N : Nat) (ad : Nat → Nat) (g : Nat → va_E) (i : Nat) (hN : i + 921 ≤ N) (h1 : g i = recC ad i 0) (h2 : g (i + 4) = oC 7 [.int (zI 0), .int (zI 0), .int (zI 0), .ref (ad (i + 4 + 1)), .ref (ad (i + 4 + 2)), .ref (ad (i + 4 + 3)), .ref (ad (i + 4 + 4)), .ref (ad (i + 4 + 5)), .ref (ad (i + 4 + 6))]) : zM l yX9_slideAll cX9_slideAll 2 none ({ frames := 1, cells := 0, slots := 0, locals := 60 } : Room) D A cs tt N ad g [.ref (ad i)] (rV0 N ad fun g' => g = g') := by
  have hay1 : zAt ad (i) (ad i) := rfl
  have hay2 : zAt ad (i + 4) (ad (i + 4)) := rfl
  refine z_of (by decide) (Nat.le_of_ble_eq_true rfl) ?_
  intro p e s m below meth c C hr hlk hnm
  refine z_lv (lv' := [(0, .ref (ad i))]) [0] rfl ?_
  refine z_iconst (z := 0) C dX9_slideAll_0 rfl ?_
  refine z_istore_n (lv' := [(1, .int (zI (0))), (0, .ref (ad i))]) C dX9_slideAll_1 rfl (by decide) rfl ?_
  refine z_iload_n C 0 dX9_slideAll_2 rfl ?_
  refine z_aload_n C 1 dX9_slideAll_3 rfl ?_
  refine z_get (v := .ref (ad (i + 4))) C (by omega) hay1 h1 rfl inA_X9 4 (by decide) q_353 rfl rfl dX9_slideAll_4 ?_
  refine z_get (v := .int (zI (0))) C (by omega) hay2 h2 rfl inA_X5 0 (by decide) q_90 rfl rfl dX9_slideAll_7 ?_
  refine z_icmp_ge (tgt := 44) C dX9_slideAll_10 (by decide) (by omega) (by omega) (fun _ => ?_) (fun h => absurd h (by omega))
  exact z_vret C hr hlk dX9_slideAll_44 (by decide) (by decide) ⟨rfl, rfl, rfl, rfl⟩

set_option maxRecDepth 100000 in
set_option maxHeartbeats 4000000 in
theorem c_X9_yearGoesBy (l : Launch) (D : va_G) (A : Nat → Prop) (cs : Nat → ClassId) (tt : Nat) (N : Nat) (ad : Nat → Nat) (g : Nat → va_E) (i : Nat) (hN : i + 921 ≤ N) (h1 : g i = recC ad i 0) (h2 : g (i + 4) = oC 7 [.int (zI 0), .int (zI 0), .int (zI 0), .ref (ad (i + 4 + 1)), .ref (ad (i + 4 + 2)), .ref (ad (i + 4 + 3)), .ref (ad (i + 4 + 4)), .ref (ad (i + 4 + 5)), .ref (ad (i + 4 + 6))]) (tm : Int) (h3 : g (i + 890) = oC 10 [.int (zI tm), .int (zI 0), .int (zI 0), .int (zI 0), .int (zI 0), .int (zI 0), .ref (ad (i + 890 + 1))]) (z : Int) : zM l yX9_yearGoesBy cX9_yearGoesBy 6 (some .int) ({ frames := 4, cells := 0, slots := 0, locals := 240 } : Room) D A cs tt N ad g [.ref (ad i), .int (zI z)] (rI0 N ad fun r g' => (-2147483648 ≤ r ∧ r ≤ 2147483647) ∧ (∃ tm' : Int, g' (i + 890) = oC 10 [.int (zI tm'), .int (zI 0), .int (zI 0), .int (zI 0), .int (zI 0), .int (zI 0), .ref (ad (i + 890 + 1))]) ∧ ∀ j, j ≠ i + 890 → g' j = g j) := by
  have hay1 : zAt ad (i) (ad i) := rfl
  have hay2 : zAt ad (i + 4) (ad (i + 4)) := rfl
  have hay3 : zAt ad (i + 890) (ad (i + 890)) := rfl
  refine z_of (by decide) (Nat.le_of_ble_eq_true rfl) ?_
  intro p e s m below meth c C hr hlk hnm
  refine z_lv (lv' := [(0, .ref (ad i)), (1, .int (zI (z)))]) [0, 1] rfl ?_
  refine z_iload_n C 1 dX9_yearGoesBy_0 rfl ?_
  refine z_cS (As := [.int (zI (z))]) (rest := []) C (c_X9_nextSeed l D A cs tt N ad _ (z)) ms_yX9_nextSeed q_1437 hd_yX9_nextSeed (by decide) (Nat.le_of_ble_eq_true rfl) (by decide) dX9_yearGoesBy_1 rfl (kI0 fun s1 gs1 hs1 => ?_)
  obtain ⟨hs1, rfl⟩ := hs1
  refine z_istore_n (lv' := [(2, .int (zI (s1))), (0, .ref (ad i)), (1, .int (zI (z)))]) C dX9_yearGoesBy_4 rfl (by decide) rfl ?_
  refine z_iload_n C 0 dX9_yearGoesBy_5 rfl ?_
  refine z_bipush (z := 6) C dX9_yearGoesBy_6 (by decide) ?_
  refine z_cS (As := [.int (zI (s1)), .int (zI (6))]) (rest := []) C (c_X9_drawOf6 l D A cs tt N ad _ (s1)) ms_yX9_drawOf q_1441 hd_yX9_drawOf (by decide) (Nat.le_of_ble_eq_true rfl) (by decide) dX9_yearGoesBy_8 rfl (kI0 fun d1 gd1 hd1 => ?_)
  obtain ⟨hd1, rfl⟩ := hd1
  refine z_istore_n (lv' := [(3, .int (zI (d1))), (2, .int (zI (s1))), (0, .ref (ad i)), (1, .int (zI (z)))]) C dX9_yearGoesBy_11 rfl (by decide) rfl ?_
  refine z_iload_n C 0 dX9_yearGoesBy_12 rfl ?_
  refine z_iconst (z := 1) C dX9_yearGoesBy_13 rfl ?_
  refine z_icmp_gt (tgt := 70) C dX9_yearGoesBy_14 (by decide) (by omega) (by omega) (fun hb1 => ?_) (fun hb1 => ?_)
  · refine z_iload_n C 0 dX9_yearGoesBy_70 rfl ?_
    refine z_iconst (z := 5) C dX9_yearGoesBy_71 rfl ?_
    refine z_icmp_ne (tgt := 82) C dX9_yearGoesBy_72 (by decide) (by omega) (by omega) (fun hb2 => ?_) (fun hb2 => ?_)
    · refine z_aload_n C 2 dX9_yearGoesBy_82 rfl ?_
      refine z_get (v := .ref (ad (i + 4))) C (by omega) hay1 h1 rfl inA_X9 4 (by decide) q_353 rfl rfl dX9_yearGoesBy_83 ?_
      refine z_get (v := .int (zI (0))) C (by omega) hay2 h2 rfl inA_X5 0 (by decide) q_90 rfl rfl dX9_yearGoesBy_86 ?_
      refine z_if_le (tgt := 178) C dX9_yearGoesBy_89 (by decide) (by omega) (fun _ => ?_) (fun h => absurd h (by omega))
      refine z_iload_n C 1 dX9_yearGoesBy_178 rfl ?_
      exact z_iret C hr hlk dX9_yearGoesBy_179 (by decide) (by decide) ⟨s1, rfl, rfl, rfl, hs1, ⟨tm, h3⟩, fun j _ => rfl⟩
    · refine z_aload_n C 2 dX9_yearGoesBy_75 rfl ?_
      refine z_cV (As := []) (rest := []) (ci := 11) C (c_X9_slideAll0 l D A cs tt N ad _ i hN h1 h2) (by omega) hay1 h1 rfl rfl mv_yX9_slideAll q_1445 hd_yX9_slideAll (by decide) (Nat.le_of_ble_eq_true rfl) (by decide) dX9_yearGoesBy_76 rfl (kV0 fun gz hz9 => ?_)
      obtain rfl := hz9
      refine z_goto (tgt := 178) C dX9_yearGoesBy_79 (by decide) ?_
      refine z_iload_n C 1 dX9_yearGoesBy_178 rfl ?_
      exact z_iret C hr hlk dX9_yearGoesBy_179 (by decide) (by decide) ⟨s1, rfl, rfl, rfl, hs1, ⟨tm, h3⟩, fun j _ => rfl⟩
  · refine z_iload_n C 1 dX9_yearGoesBy_17 rfl ?_
    refine z_cS (As := [.int (zI (s1))]) (rest := []) C (c_X9_nextSeed l D A cs tt N ad _ (s1)) ms_yX9_nextSeed q_1437 hd_yX9_nextSeed (by decide) (Nat.le_of_ble_eq_true rfl) (by decide) dX9_yearGoesBy_18 rfl (kI0 fun s2 gs2 hs2 => ?_)
    obtain ⟨hs2, rfl⟩ := hs2
    refine z_istore_n (lv' := [(2, .int (zI (s2))), (3, .int (zI (d1))), (0, .ref (ad i)), (1, .int (zI (z)))]) C dX9_yearGoesBy_21 rfl (by decide) rfl ?_
    refine z_iload_n C 0 dX9_yearGoesBy_22 rfl ?_
    refine z_bipush (z := 6) C dX9_yearGoesBy_23 (by decide) ?_
    refine z_cS (As := [.int (zI (s2)), .int (zI (6))]) (rest := []) C (c_X9_drawOf6 l D A cs tt N ad _ (s2)) ms_yX9_drawOf q_1441 hd_yX9_drawOf (by decide) (Nat.le_of_ble_eq_true rfl) (by decide) dX9_yearGoesBy_25 rfl (kI0 fun d2 gd2 hd2 => ?_)
    obtain ⟨hd2, rfl⟩ := hd2
    refine z_iconst (z := 1) C dX9_yearGoesBy_28 rfl ?_
    refine z_iadd C dX9_yearGoesBy_29 ?_
    refine z_istore (lv' := [(4, .int (zI (d2 + 1))), (2, .int (zI (s2))), (3, .int (zI (d1))), (0, .ref (ad i)), (1, .int (zI (z)))]) C dX9_yearGoesBy_30 (by decide) rfl ?_
    refine z_iconst (z := 0) C dX9_yearGoesBy_32 rfl ?_
    refine z_istore (lv' := [(5, .int (zI (0))), (4, .int (zI (d2 + 1))), (2, .int (zI (s2))), (3, .int (zI (d1))), (0, .ref (ad i)), (1, .int (zI (z)))]) C dX9_yearGoesBy_33 (by decide) rfl ?_
    have lp : ∀ (n kk : Nat) (g1 : Nat → va_E) (t9 : Int), kk + n = (d2 + 1).toNat → (g1 i = recC ad i 0) → (g1 (i + 4) = oC 7 [.int (zI 0), .int (zI 0), .int (zI 0), .ref (ad (i + 4 + 1)), .ref (ad (i + 4 + 2)), .ref (ad (i + 4 + 3)), .ref (ad (i + 4 + 4)), .ref (ad (i + 4 + 5)), .ref (ad (i + 4 + 6))]) → (g1 (i + 890) = oC 10 [.int (zI t9), .int (zI 0), .int (zI 0), .int (zI 0), .int (zI 0), .int (zI 0), .ref (ad (i + 890 + 1))]) → (∀ j, j ≠ i + 890 → g1 j = g j) → zV p l e ({ frames := 4, cells := 0, slots := 0, locals := 240 } : Room) s m ([.ref (ad i), .int (zI z)] : List Value).toArray below meth c (MQ below (zPost D A (rI0 N ad fun r g' => (-2147483648 ≤ r ∧ r ≤ 2147483647) ∧ (∃ tm' : Int, g' (i + 890) = oC 10 [.int (zI tm'), .int (zI 0), .int (zI 0), .int (zI 0), .int (zI 0), .int (zI 0), .ref (ad (i + 890 + 1))]) ∧ ∀ j, j ≠ i + 890 → g' j = g j)) ([.ref (ad i), .int (zI z)] : List Value).toArray s ({ frames := 4, cells := 0, slots := 0, locals := 240 } : Room).cells ({ frames := 4, cells := 0, slots := 0, locals := 240 } : Room).slots A) D A 6 (N) ad g1 (0) (0) 35 [(5, .int (zI ((kk : Int)))), (4, .int (zI (d2 + 1))), (2, .int (zI (s2))), (3, .int (zI (d1))), (0, .ref (ad i)), (1, .int (zI (z)))] [] := by
      intro n
      induction n with
      | zero =>
        intro kk g1 t9 hkk f1 f2 f3 f4
        have hay4 : zAt ad (i) (ad i) := rfl
        have hay5 : zAt ad (i + 4) (ad (i + 4)) := rfl
        have hay6 : zAt ad (i + 890) (ad (i + 890)) := rfl
        refine z_iload C 0 dX9_yearGoesBy_35 rfl ?_
        refine z_iload C 1 dX9_yearGoesBy_37 rfl ?_
        refine z_icmp_ge (tgt := 67) C dX9_yearGoesBy_39 (by decide) (by omega) (by omega) (fun _ => ?_) (fun h => absurd h (by omega))
        refine z_goto (tgt := 178) C dX9_yearGoesBy_67 (by decide) ?_
        refine z_iload_n C 2 dX9_yearGoesBy_178 rfl ?_
        exact z_iret C hr hlk dX9_yearGoesBy_179 (by decide) (by decide) ⟨s2, rfl, rfl, rfl, hs2, ⟨t9, f3⟩, f4⟩
      | succ n ih =>
        intro kk g1 t9 hkk f1 f2 f3 f4
        have hay7 : zAt ad (i) (ad i) := rfl
        have hay8 : zAt ad (i + 4) (ad (i + 4)) := rfl
        have hay9 : zAt ad (i + 890) (ad (i + 890)) := rfl
        refine z_iload C 0 dX9_yearGoesBy_35 rfl ?_
        refine z_iload C 1 dX9_yearGoesBy_37 rfl ?_
        refine z_icmp_ge (tgt := 67) C dX9_yearGoesBy_39 (by decide) (by omega) (by omega) (fun h => absurd h (by omega)) (fun _ => ?_)
        refine z_aload_n C 4 dX9_yearGoesBy_42 rfl ?_
        refine z_get (v := .ref (ad (i + 890))) C (by omega) hay7 f1 rfl inA_X9 9 (by decide) q_358 rfl rfl dX9_yearGoesBy_43 ?_
        refine z_aload_n C 4 dX9_yearGoesBy_46 rfl ?_
        refine z_get (v := .ref (ad (i + 4))) C (by omega) hay7 f1 rfl inA_X9 4 (by decide) q_353 rfl rfl dX9_yearGoesBy_47 ?_
        refine z_aload_n C 4 dX9_yearGoesBy_50 rfl ?_
        refine z_get (v := .ref (ad (i + 4))) C (by omega) hay7 f1 rfl inA_X9 4 (by decide) q_353 rfl rfl dX9_yearGoesBy_51 ?_
        refine z_cV (As := []) (rest := [.ref (ad (i + 4)), .ref (ad (i + 890))]) (ci := 7) C (c_X5_allSlopes0 l D A cs tt N ad _ (i + 4) (by omega) f2) (by omega) hay8 f2 rfl rfl mv_yX5_allSlopes q_431 hd_yX5_allSlopes (by decide) (Nat.le_of_ble_eq_true rfl) (by decide) dX9_yearGoesBy_54 rfl (kI0 fun ra ga ha => ?_)
        obtain ⟨rfl, rfl⟩ := ha
        refine z_iconst (z := 1) C dX9_yearGoesBy_57 rfl ?_
        refine z_cV (As := [.ref (ad (i + 4)), .int (zI (0)), .int (zI (1))]) (rest := []) (ci := 10) C (c_X8_hour0 l D A cs tt N ad _ (i + 890) (i + 4) (by omega) (by omega) t9 0 0 0 0 0 (ad (i + 890 + 1)) f3 f2 0) (by omega) hay9 f3 rfl rfl mv_yX8_hour q_435 hd_yX8_hour (by decide) (Nat.le_of_ble_eq_true rfl) (by decide) dX9_yearGoesBy_58 rfl (kV0 fun gh hh => ?_)
        obtain ⟨hh1, hh2⟩ := hh
        refine z_iinc (z := ((kk + 1 : Nat) : Int)) (lv' := [(5, .int (zI (((kk + 1 : Nat) : Int)))), (4, .int (zI (d2 + 1))), (2, .int (zI (s2))), (3, .int (zI (d1))), (0, .ref (ad i)), (1, .int (zI (z)))]) (j := 0) C dX9_yearGoesBy_61 rfl (congrArg zI (by omega)) (by decide) rfl ?_
        refine z_goto (tgt := 35) C dX9_yearGoesBy_64 (by decide) ?_
        exact ih (kk + 1) gh (t9 + 1) (by omega) ((hh2 _ (by omega)).trans f1) ((hh2 _ (by omega)).trans f2) hh1 (fun j h => (hh2 j h).trans (f4 j h))
    refine z_lv (lv' := [(5, .int (zI (((0 : Nat) : Int)))), (4, .int (zI (d2 + 1))), (2, .int (zI (s2))), (3, .int (zI (d1))), (0, .ref (ad i)), (1, .int (zI (z)))]) [0, 1, 2, 3, 4, 5] rfl ?_
    exact lp (d2 + 1).toNat 0 g tm (by omega) h1 h2 h3 (fun j _ => rfl)

set_option maxRecDepth 100000 in
set_option maxHeartbeats 4000000 in
theorem c_X8_sum1 (l : Launch) (D : va_G) (A : Nat → Prop) (cs : Nat → ClassId) (tt : Nat) (N : Nat) (ad : Nat → Nat) (g : Nat → va_E) (a : Nat) (hN : a + 10 ≤ N) (t : Nat → Int) (ha : isWorld cs ad g a t (fun _ => 0) (fun _ => 0) (fun _ _ => 0)) (z : Int) : zM l yX8_sum cX8_sum 4 (some .int) ({ frames := 2, cells := 0, slots := 0, locals := 120 } : Room) D A cs tt N ad g [.ref (ad a), .int (zI z)] (rI0 N ad fun r g' => r = 0 ∧ g' = g) := by
  obtain ⟨u1, ⟨ua, u2, u3⟩, u4⟩ := id ha
  have hay1 : zAt ad (a) (ad a) := rfl
  have hay2 : zAt ad (a + 1) (ad (a + 1)) := rfl
  have up0 : isPack cs ad g (a + 2) 0 0 (fun _ => 0) := u4 0 (by decide)
  have uq0 : ua 0 = some (ad (a + 2)) := u3 0 (by decide)
  have hay3 : zAt ad (a + 2) (ad (a + 2)) := rfl
  have hay4 : zAt ad (a + 2 + 1) (ad (a + 2 + 1)) := rfl
  have up1 : isPack cs ad g (a + 4) 0 0 (fun _ => 0) := u4 1 (by decide)
  have uq1 : ua 1 = some (ad (a + 4)) := u3 1 (by decide)
  have hay5 : zAt ad (a + 4) (ad (a + 4)) := rfl
  have hay6 : zAt ad (a + 4 + 1) (ad (a + 4 + 1)) := rfl
  have up2 : isPack cs ad g (a + 6) 0 0 (fun _ => 0) := u4 2 (by decide)
  have uq2 : ua 2 = some (ad (a + 6)) := u3 2 (by decide)
  have hay7 : zAt ad (a + 6) (ad (a + 6)) := rfl
  have hay8 : zAt ad (a + 6 + 1) (ad (a + 6 + 1)) := rfl
  have up3 : isPack cs ad g (a + 8) 0 0 (fun _ => 0) := u4 3 (by decide)
  have uq3 : ua 3 = some (ad (a + 8)) := u3 3 (by decide)
  have hay9 : zAt ad (a + 8) (ad (a + 8)) := rfl
  have hay10 : zAt ad (a + 8 + 1) (ad (a + 8 + 1)) := rfl
  refine z_of (by decide) (Nat.le_of_ble_eq_true rfl) ?_
  intro p e s m below meth c C hr hlk hnm
  refine z_lv (lv' := [(0, .ref (ad a)), (1, .int (zI (z)))]) [0, 1] rfl ?_
  refine z_iconst (z := 0) C dX8_sum_0 rfl ?_
  refine z_istore_n (lv' := [(2, .int (zI (0))), (0, .ref (ad a)), (1, .int (zI (z)))]) C dX8_sum_1 rfl (by decide) rfl ?_
  refine z_iconst (z := 0) C dX8_sum_2 rfl ?_
  refine z_istore_n (lv' := [(3, .int (zI (0))), (2, .int (zI (0))), (0, .ref (ad a)), (1, .int (zI (z)))]) C dX8_sum_3 rfl (by decide) rfl ?_
  refine z_iload_n C 0 dX8_sum_4 rfl ?_
  refine z_aload_n C 2 dX8_sum_5 rfl ?_
  refine z_get (v := .ref (ad (a + 1))) C (by omega) hay1 u1 rfl inA_X8 6 (by decide) q_188 rfl rfl dX8_sum_6 ?_
  refine z_alen (z := 4) C (by omega) hay2 u2 3 rfl rfl dX8_sum_9 ?_
  refine z_icmp_ge (tgt := 32) C dX8_sum_10 (by decide) (by omega) (by omega) (fun h => absurd h (by omega)) (fun _ => ?_)
  refine z_iload_n C 1 dX8_sum_13 rfl ?_
  refine z_aload_n C 2 dX8_sum_14 rfl ?_
  refine z_get (v := .ref (ad (a + 1))) C (by omega) hay1 u1 rfl inA_X8 6 (by decide) q_188 rfl rfl dX8_sum_15 ?_
  refine z_iload_n C 0 dX8_sum_18 rfl ?_
  refine z_aald C (by omega) hay2 u2 3 rfl (0) (by omega) (by omega) (by decide) uq0 dX8_sum_19 ?_
  refine z_iload_n C 3 dX8_sum_20 rfl ?_
  refine z_cV (As := [.int (zI (z))]) (rest := [.int (zI (0))]) (ci := 5) C (c_X3_sum0 l D A cs tt N ad _ (a + 2) (by omega) 0 _ up0 z) (by omega) hay3 up0.1 rfl rfl mv_yX3_sum q_890 hd_yX3_sum (by decide) (Nat.le_of_ble_eq_true rfl) (by decide) dX8_sum_21 rfl (kI0 fun r0x g0x h0x => ?_)
  obtain ⟨rfl, rfl⟩ := h0x
  refine z_iadd C dX8_sum_24 ?_
  rw [show (0 + 0 : Int) = 0 by omega]
  refine z_istore_n (lv' := [(2, .int (zI (0))), (3, .int (zI (0))), (0, .ref (ad a)), (1, .int (zI (z)))]) C dX8_sum_25 rfl (by decide) rfl ?_
  refine z_iinc (z := 1) (lv' := [(3, .int (zI (1))), (2, .int (zI (0))), (0, .ref (ad a)), (1, .int (zI (z)))]) (j := 1) C dX8_sum_26 rfl (congrArg zI (by omega)) (by decide) rfl ?_
  refine z_goto (tgt := 4) C dX8_sum_29 (by decide) ?_
  refine z_iload_n C 0 dX8_sum_4 rfl ?_
  refine z_aload_n C 2 dX8_sum_5 rfl ?_
  refine z_get (v := .ref (ad (a + 1))) C (by omega) hay1 u1 rfl inA_X8 6 (by decide) q_188 rfl rfl dX8_sum_6 ?_
  refine z_alen (z := 4) C (by omega) hay2 u2 3 rfl rfl dX8_sum_9 ?_
  refine z_icmp_ge (tgt := 32) C dX8_sum_10 (by decide) (by omega) (by omega) (fun h => absurd h (by omega)) (fun _ => ?_)
  refine z_iload_n C 1 dX8_sum_13 rfl ?_
  refine z_aload_n C 2 dX8_sum_14 rfl ?_
  refine z_get (v := .ref (ad (a + 1))) C (by omega) hay1 u1 rfl inA_X8 6 (by decide) q_188 rfl rfl dX8_sum_15 ?_
  refine z_iload_n C 0 dX8_sum_18 rfl ?_
  refine z_aald C (by omega) hay2 u2 3 rfl (1) (by omega) (by omega) (by decide) uq1 dX8_sum_19 ?_
  refine z_iload_n C 3 dX8_sum_20 rfl ?_
  refine z_cV (As := [.int (zI (z))]) (rest := [.int (zI (0))]) (ci := 5) C (c_X3_sum0 l D A cs tt N ad _ (a + 4) (by omega) 0 _ up1 z) (by omega) hay5 up1.1 rfl rfl mv_yX3_sum q_890 hd_yX3_sum (by decide) (Nat.le_of_ble_eq_true rfl) (by decide) dX8_sum_21 rfl (kI0 fun r1x g1x h1x => ?_)
  obtain ⟨rfl, rfl⟩ := h1x
  refine z_iadd C dX8_sum_24 ?_
  rw [show (0 + 0 : Int) = 0 by omega]
  refine z_istore_n (lv' := [(2, .int (zI (0))), (3, .int (zI (1))), (0, .ref (ad a)), (1, .int (zI (z)))]) C dX8_sum_25 rfl (by decide) rfl ?_
  refine z_iinc (z := 2) (lv' := [(3, .int (zI (2))), (2, .int (zI (0))), (0, .ref (ad a)), (1, .int (zI (z)))]) (j := 1) C dX8_sum_26 rfl (congrArg zI (by omega)) (by decide) rfl ?_
  refine z_goto (tgt := 4) C dX8_sum_29 (by decide) ?_
  refine z_iload_n C 0 dX8_sum_4 rfl ?_
  refine z_aload_n C 2 dX8_sum_5 rfl ?_
  refine z_get (v := .ref (ad (a + 1))) C (by omega) hay1 u1 rfl inA_X8 6 (by decide) q_188 rfl rfl dX8_sum_6 ?_
  refine z_alen (z := 4) C (by omega) hay2 u2 3 rfl rfl dX8_sum_9 ?_
  refine z_icmp_ge (tgt := 32) C dX8_sum_10 (by decide) (by omega) (by omega) (fun h => absurd h (by omega)) (fun _ => ?_)
  refine z_iload_n C 1 dX8_sum_13 rfl ?_
  refine z_aload_n C 2 dX8_sum_14 rfl ?_
  refine z_get (v := .ref (ad (a + 1))) C (by omega) hay1 u1 rfl inA_X8 6 (by decide) q_188 rfl rfl dX8_sum_15 ?_
  refine z_iload_n C 0 dX8_sum_18 rfl ?_
  refine z_aald C (by omega) hay2 u2 3 rfl (2) (by omega) (by omega) (by decide) uq2 dX8_sum_19 ?_
  refine z_iload_n C 3 dX8_sum_20 rfl ?_
  refine z_cV (As := [.int (zI (z))]) (rest := [.int (zI (0))]) (ci := 5) C (c_X3_sum0 l D A cs tt N ad _ (a + 6) (by omega) 0 _ up2 z) (by omega) hay7 up2.1 rfl rfl mv_yX3_sum q_890 hd_yX3_sum (by decide) (Nat.le_of_ble_eq_true rfl) (by decide) dX8_sum_21 rfl (kI0 fun r2x g2x h2x => ?_)
  obtain ⟨rfl, rfl⟩ := h2x
  refine z_iadd C dX8_sum_24 ?_
  rw [show (0 + 0 : Int) = 0 by omega]
  refine z_istore_n (lv' := [(2, .int (zI (0))), (3, .int (zI (2))), (0, .ref (ad a)), (1, .int (zI (z)))]) C dX8_sum_25 rfl (by decide) rfl ?_
  refine z_iinc (z := 3) (lv' := [(3, .int (zI (3))), (2, .int (zI (0))), (0, .ref (ad a)), (1, .int (zI (z)))]) (j := 1) C dX8_sum_26 rfl (congrArg zI (by omega)) (by decide) rfl ?_
  refine z_goto (tgt := 4) C dX8_sum_29 (by decide) ?_
  refine z_iload_n C 0 dX8_sum_4 rfl ?_
  refine z_aload_n C 2 dX8_sum_5 rfl ?_
  refine z_get (v := .ref (ad (a + 1))) C (by omega) hay1 u1 rfl inA_X8 6 (by decide) q_188 rfl rfl dX8_sum_6 ?_
  refine z_alen (z := 4) C (by omega) hay2 u2 3 rfl rfl dX8_sum_9 ?_
  refine z_icmp_ge (tgt := 32) C dX8_sum_10 (by decide) (by omega) (by omega) (fun h => absurd h (by omega)) (fun _ => ?_)
  refine z_iload_n C 1 dX8_sum_13 rfl ?_
  refine z_aload_n C 2 dX8_sum_14 rfl ?_
  refine z_get (v := .ref (ad (a + 1))) C (by omega) hay1 u1 rfl inA_X8 6 (by decide) q_188 rfl rfl dX8_sum_15 ?_
  refine z_iload_n C 0 dX8_sum_18 rfl ?_
  refine z_aald C (by omega) hay2 u2 3 rfl (3) (by omega) (by omega) (by decide) uq3 dX8_sum_19 ?_
  refine z_iload_n C 3 dX8_sum_20 rfl ?_
  refine z_cV (As := [.int (zI (z))]) (rest := [.int (zI (0))]) (ci := 5) C (c_X3_sum0 l D A cs tt N ad _ (a + 8) (by omega) 0 _ up3 z) (by omega) hay9 up3.1 rfl rfl mv_yX3_sum q_890 hd_yX3_sum (by decide) (Nat.le_of_ble_eq_true rfl) (by decide) dX8_sum_21 rfl (kI0 fun r3x g3x h3x => ?_)
  obtain ⟨rfl, rfl⟩ := h3x
  refine z_iadd C dX8_sum_24 ?_
  rw [show (0 + 0 : Int) = 0 by omega]
  refine z_istore_n (lv' := [(2, .int (zI (0))), (3, .int (zI (3))), (0, .ref (ad a)), (1, .int (zI (z)))]) C dX8_sum_25 rfl (by decide) rfl ?_
  refine z_iinc (z := 4) (lv' := [(3, .int (zI (4))), (2, .int (zI (0))), (0, .ref (ad a)), (1, .int (zI (z)))]) (j := 1) C dX8_sum_26 rfl (congrArg zI (by omega)) (by decide) rfl ?_
  refine z_goto (tgt := 4) C dX8_sum_29 (by decide) ?_
  refine z_iload_n C 0 dX8_sum_4 rfl ?_
  refine z_aload_n C 2 dX8_sum_5 rfl ?_
  refine z_get (v := .ref (ad (a + 1))) C (by omega) hay1 u1 rfl inA_X8 6 (by decide) q_188 rfl rfl dX8_sum_6 ?_
  refine z_alen (z := 4) C (by omega) hay2 u2 3 rfl rfl dX8_sum_9 ?_
  refine z_icmp_ge (tgt := 32) C dX8_sum_10 (by decide) (by omega) (by omega) (fun _ => ?_) (fun h => absurd h (by omega))
  refine z_iload_n C 1 dX8_sum_32 rfl ?_
  exact z_iret C hr hlk dX8_sum_33 (by decide) (by decide) ⟨0, rfl, rfl, rfl, rfl, rfl⟩

set_option maxRecDepth 100000 in
set_option maxHeartbeats 4000000 in
theorem c_X9_years (l : Launch) (D : va_G) (A : Nat → Prop) (cs : Nat → ClassId) (tt : Nat) (N : Nat) (ad : Nat → Nat) (g : Nat → va_E) (i : Nat) (hN : i + 921 ≤ N) (hR : isRec cs ad g i) (hl0 : l.stackTraces = false) (z z1 z2 : Int) (hz : -2147483648 ≤ z ∧ z ≤ 2147483647) (hz1 : -2147483648 ≤ z1 ∧ z1 ≤ 2147483647) (hz2 : -2147483648 ≤ z2 ∧ z2 ≤ 2147483647) : zMX l yX9_years cX9_years 6 (some .int) ({ frames := 8, cells := 2, slots := 12, locals := 480 } : Room) D A cs tt N ad g [.ref (ad i), .int (zI z), .int (zI z1), .int (zI z2)] (rI0 N ad fun r g' => (0 ≤ z2 ∧ z2 ≤ 2) ∧ (0 ≤ z1 ∧ z1 ≤ 30) ∧ r = 0 ∧ oR i g g') (fun E N' ad' g' => N' = N ∧ ad' = ad ∧ g' = g ∧ ((E = eNS ∧ (z2 < 0 ∨ 2 < z2)) ∨ (E = eIA ∧ (0 ≤ z2 ∧ z2 ≤ 2) ∧ (z1 < 0 ∨ 30 < z1)))) := by
  obtain ⟨r1, r2, r3, r4, r5, r6, r7, r8, r9, r10, r11, r12⟩ := id hR
  have hay1 : zAt ad (i) (ad i) := rfl
  have hay2 : zAt ad (i + 4) (ad (i + 4)) := rfl
  have hay3 : zAt ad (i + 11) (ad (i + 11)) := rfl
  have hay4 : zAt ad (i + 11 + 1) (ad (i + 11 + 1)) := rfl
  have hay5 : zAt ad (i + 890) (ad (i + 890)) := rfl
  refine z_ofX (by decide) (Nat.le_of_ble_eq_true rfl) ?_
  intro p e s m below meth c C hr hlk hxt
  refine z_lv (lv' := [(0, .ref (ad i)), (1, .int (zI (z))), (2, .int (zI (z1))), (3, .int (zI (z2)))]) [0, 1, 2, 3] rfl ?_
  refine z_iload_n C 3 dX9_years_0 rfl ?_
  refine z_iconst (z := 2) C dX9_years_1 rfl ?_
  refine z_cSX (As := [.int (zI (z2)), .int (zI (2))]) (rest := []) C (c_X9_needWhat l D A cs tt N ad _ hl0 z2 2 hz2 (by decide)) ms_yX9_needWhat q_1220 hd_yX9_needWhat (by decide) (Nat.le_of_ble_eq_true rfl) (by decide) dX9_years_2 rfl (fun E N' ad' g' h => by obtain ⟨rfl, rfl, rfl, rfl, h9⟩ := h; exact z_uout C hxt hlk (by decide) (by decide) ⟨rfl, rfl, rfl, Or.inl ⟨rfl, h9⟩⟩) (kV0 fun gn hn => ?_)
  obtain ⟨hn1, rfl⟩ := hn
  refine z_iload_n C 2 dX9_years_5 rfl ?_
  refine z_if_lt (tgt := 15) C dX9_years_6 (by decide) (by omega) (fun hb1 => ?_) (fun hb1 => ?_)
  · exact z_thrW (cls := eIA) (text := "years are 0 to 30") C hl0 (by decide +kernel) q_658 q_19 (by decide +kernel) at_IA gd_IA dX9_years_15 dX9_years_18 dX9_years_19 dX9_years_22 dX9_years_25 hxt (by decide) (Nat.le_of_ble_eq_true rfl) (by decide) (by decide) hlk (by decide) (by decide) ⟨rfl, rfl, rfl, Or.inr ⟨rfl, hn1, by omega⟩⟩
  · refine z_iload_n C 2 dX9_years_9 rfl ?_
    refine z_bipush (z := 30) C dX9_years_10 (by decide) ?_
    refine z_icmp_le (tgt := 26) C dX9_years_12 (by decide) (by omega) (by omega) (fun hb2 => ?_) (fun hb2 => ?_)
    · refine z_aload_n C 0 dX9_years_26 rfl ?_
      refine z_get (v := .ref (ad (i + 890))) C (by omega) hay1 r1 rfl inA_X9 9 (by decide) q_358 rfl rfl dX9_years_27 ?_
      refine z_aload_n C 0 dX9_years_30 rfl ?_
      refine z_get (v := .ref (ad (i + 11))) C (by omega) hay1 r1 rfl inA_X9 5 (by decide) q_354 rfl rfl dX9_years_31 ?_
      refine z_get (v := .ref (ad (i + 11 + 1))) C (by omega) hay3 r5.1 rfl inA_X6 0 (by decide) q_258 rfl rfl dX9_years_34 ?_
      refine z_cV (As := [.ref (ad (i + 11 + 1))]) (rest := []) (ci := 10) C (c_X8_copyFrom l D A cs tt N ad _ (i + 890) (i + 11 + 1) (by omega) (by omega) _ _ _ _ _ _ _ _ r8 r5.2.1) (by omega) hay5 r8.1 rfl rfl mv_yX8_copyFrom q_1228 hd_yX8_copyFrom (by decide) (Nat.le_of_ble_eq_true rfl) (by decide) dX9_years_37 rfl (kV0 fun gb hb => ?_)
      obtain ⟨hb3, hb4⟩ := hb
      refine z_iload_n C 1 dX9_years_40 rfl ?_
      refine z_istore (lv' := [(4, .int (zI (z))), (0, .ref (ad i)), (1, .int (zI (z))), (2, .int (zI (z1))), (3, .int (zI (z2)))]) C dX9_years_41 (by decide) rfl ?_
      refine z_iconst (z := 0) C dX9_years_43 rfl ?_
      refine z_istore (lv' := [(5, .int (zI (0))), (4, .int (zI (z))), (0, .ref (ad i)), (1, .int (zI (z))), (2, .int (zI (z1))), (3, .int (zI (z2)))]) C dX9_years_44 (by decide) rfl ?_
      have lp : ∀ (n kk : Nat) (g1 : Nat → va_E) (t9 : Int) (sd : Int), kk + n = z1.toNat → (g1 i = recC ad i 0) → (g1 (i + 4) = oC 7 [.int (zI 0), .int (zI 0), .int (zI 0), .ref (ad (i + 4 + 1)), .ref (ad (i + 4 + 2)), .ref (ad (i + 4 + 3)), .ref (ad (i + 4 + 4)), .ref (ad (i + 4 + 5)), .ref (ad (i + 4 + 6))]) → (g1 (i + 890) = oC 10 [.int (zI t9), .int (zI 0), .int (zI 0), .int (zI 0), .int (zI 0), .int (zI 0), .ref (ad (i + 890 + 1))]) → (∀ j, j ≠ i + 890 → g1 j = gb j) → zV p l e ({ frames := 8, cells := 2, slots := 12, locals := 480 } : Room) s m ([.ref (ad i), .int (zI z), .int (zI z1), .int (zI z2)] : List Value).toArray below meth c (vx_MQ below (zPost D A (rI0 N ad fun r g' => (0 ≤ z2 ∧ z2 ≤ 2) ∧ (0 ≤ z1 ∧ z1 ≤ 30) ∧ r = 0 ∧ oR i g g')) (zX D A (fun E N' ad' g' => N' = N ∧ ad' = ad ∧ g' = g ∧ ((E = eNS ∧ (z2 < 0 ∨ 2 < z2)) ∨ (E = eIA ∧ (0 ≤ z2 ∧ z2 ≤ 2) ∧ (z1 < 0 ∨ 30 < z1))))) ([.ref (ad i), .int (zI z), .int (zI z1), .int (zI z2)] : List Value).toArray s ({ frames := 8, cells := 2, slots := 12, locals := 480 } : Room).cells ({ frames := 8, cells := 2, slots := 12, locals := 480 } : Room).slots A) D A 6 (N) ad g1 (1) (6) 46 [(5, .int (zI ((kk : Int)))), (4, .int (zI (sd))), (0, .ref (ad i)), (1, .int (zI (z))), (2, .int (zI (z1))), (3, .int (zI (z2)))] [] := by
        intro n
        induction n with
        | zero =>
          intro kk g1 t9 sd hkk f1 f2 f3 f4
          have hay6 : zAt ad (i) (ad i) := rfl
          have hay7 : zAt ad (i + 4) (ad (i + 4)) := rfl
          have hay8 : zAt ad (i + 890) (ad (i + 890)) := rfl
          have hay9 : zAt ad (i + 11) (ad (i + 11)) := rfl
          have hay10 : zAt ad (i + 11 + 1) (ad (i + 11 + 1)) := rfl
          have f5 := (f4 (i + 11) (by omega)).trans ((hb4 _ (by omega)).trans r5.1)
          have f6 := (f4 (i + 11 + 1) (by omega)).trans ((hb4 _ (by omega)).trans r5.2.1.1)
          refine z_iload C 0 dX9_years_46 rfl ?_
          refine z_iload_n C 4 dX9_years_48 rfl ?_
          refine z_icmp_ge (tgt := 66) C dX9_years_49 (by decide) (by omega) (by omega) (fun _ => ?_) (fun h => absurd h (by omega))
          refine z_iload_n C 5 dX9_years_66 rfl ?_
          have f7 : oR i g g1 := fun j h => (f4 j (by omega)).trans (hb4 j (by omega))
          rcases (show z2 = 0 ∨ z2 = 1 ∨ z2 = 2 by omega) with rfl | rfl | rfl
          · refine z_lookup (off := 25) (tgt := 92) C dX9_years_67 (by decide) (by decide) (by decide) (by decide) ?_
            refine z_aload_n C 2 dX9_years_92 rfl ?_
            refine z_get (v := .ref (ad (i + 890))) C (by omega) hay6 f1 rfl inA_X9 9 (by decide) q_358 rfl rfl dX9_years_93 ?_
            refine z_get (v := .int (zI (0))) C (by omega) hay8 f3 rfl inA_X8 4 (by decide) q_184 rfl rfl dX9_years_96 ?_
            refine z_aload_n C 2 dX9_years_99 rfl ?_
            refine z_get (v := .ref (ad (i + 11))) C (by omega) hay6 f1 rfl inA_X9 5 (by decide) q_354 rfl rfl dX9_years_100 ?_
            refine z_get (v := .ref (ad (i + 11 + 1))) C (by omega) hay9 f5 rfl inA_X6 0 (by decide) q_258 rfl rfl dX9_years_103 ?_
            refine z_get (v := .int (zI (0))) C (by omega) hay10 f6 rfl inA_X8 4 (by decide) q_184 rfl rfl dX9_years_106 ?_
            refine z_isub C dX9_years_109 ?_
            exact z_rX (z_iret C hr hlk dX9_years_110 (by decide) (by decide) ⟨0, rfl, rfl, rfl, hn1, by omega, rfl, f7⟩)
          · refine z_lookup (off := 44) (tgt := 111) C dX9_years_67 (by decide) (by decide) (by decide) (by decide) ?_
            refine z_aload_n C 2 dX9_years_111 rfl ?_
            refine z_get (v := .ref (ad (i + 890))) C (by omega) hay6 f1 rfl inA_X9 9 (by decide) q_358 rfl rfl dX9_years_112 ?_
            refine z_get (v := .int (zI (0))) C (by omega) hay8 f3 rfl inA_X8 3 (by decide) q_182 rfl rfl dX9_years_115 ?_
            refine z_aload_n C 2 dX9_years_118 rfl ?_
            refine z_get (v := .ref (ad (i + 11))) C (by omega) hay6 f1 rfl inA_X9 5 (by decide) q_354 rfl rfl dX9_years_119 ?_
            refine z_get (v := .ref (ad (i + 11 + 1))) C (by omega) hay9 f5 rfl inA_X6 0 (by decide) q_258 rfl rfl dX9_years_122 ?_
            refine z_get (v := .int (zI (0))) C (by omega) hay10 f6 rfl inA_X8 3 (by decide) q_182 rfl rfl dX9_years_125 ?_
            refine z_isub C dX9_years_128 ?_
            exact z_rX (z_iret C hr hlk dX9_years_129 (by decide) (by decide) ⟨0, rfl, rfl, rfl, hn1, by omega, rfl, f7⟩)
          · refine z_lookup (off := 63) (tgt := 130) C dX9_years_67 (by decide) (by decide) (by decide) (by decide) ?_
            refine z_aload_n C 2 dX9_years_130 rfl ?_
            refine z_get (v := .ref (ad (i + 890))) C (by omega) hay6 f1 rfl inA_X9 9 (by decide) q_358 rfl rfl dX9_years_131 ?_
            refine z_bipush (z := 36) C dX9_years_134 (by decide) ?_
            have hw9 : isWorld cs ad g1 (i + 890) (fun k => if k = 0 then t9 else 0) (fun _ => 0) (fun _ => 0) (fun _ _ => 0) := by
              obtain ⟨-, ⟨a9, q2, q3⟩, q4⟩ := hb3
              exact ⟨f3, ⟨a9, (f4 _ (by omega)).trans q2, q3⟩, fun k hk => (q4 k hk).mv (fun j _ _ => rfl) (fun j _ _ => f4 j (by omega))⟩
            refine z_cV (As := [.int (zI (36))]) (rest := []) (ci := 10) C (c_X8_sum1 l D A cs tt N ad _ (i + 890) (by omega) _ hw9 36) (by omega) hay8 f3 rfl rfl mv_yX8_sum q_886 hd_yX8_sum (by decide) (Nat.le_of_ble_eq_true rfl) (by decide) dX9_years_136 rfl (kI0 fun rs gs hs => ?_)
            obtain ⟨rfl, rfl⟩ := hs
            exact z_rX (z_iret C hr hlk dX9_years_139 (by decide) (by decide) ⟨0, rfl, rfl, rfl, hn1, by omega, rfl, f7⟩)
        | succ n ih =>
          intro kk g1 t9 sd hkk f1 f2 f3 f4
          have hay11 : zAt ad (i) (ad i) := rfl
          have hay12 : zAt ad (i + 4) (ad (i + 4)) := rfl
          have hay13 : zAt ad (i + 890) (ad (i + 890)) := rfl
          have hay14 : zAt ad (i + 11) (ad (i + 11)) := rfl
          have hay15 : zAt ad (i + 11 + 1) (ad (i + 11 + 1)) := rfl
          have f5 := (f4 (i + 11) (by omega)).trans ((hb4 _ (by omega)).trans r5.1)
          have f6 := (f4 (i + 11 + 1) (by omega)).trans ((hb4 _ (by omega)).trans r5.2.1.1)
          refine z_iload C 0 dX9_years_46 rfl ?_
          refine z_iload_n C 4 dX9_years_48 rfl ?_
          refine z_icmp_ge (tgt := 66) C dX9_years_49 (by decide) (by omega) (by omega) (fun h => absurd h (by omega)) (fun _ => ?_)
          refine z_aload_n C 2 dX9_years_52 rfl ?_
          refine z_iload C 1 dX9_years_53 rfl ?_
          refine z_cV (As := [.int (zI (sd))]) (rest := []) (ci := 11) C (c_X9_yearGoesBy l D A cs tt N ad _ i hN f1 f2 t9 f3 sd) (by omega) hay11 f1 rfl rfl mv_yX9_yearGoesBy q_1433 hd_yX9_yearGoesBy (by decide) (Nat.le_of_ble_eq_true rfl) (by decide) dX9_years_55 rfl (kI0 fun ry gy hy => ?_)
          obtain ⟨hy1, ⟨t8, hy2⟩, hy3⟩ := hy
          refine z_istore (lv' := [(4, .int (zI (ry))), (5, .int (zI ((kk : Int)))), (0, .ref (ad i)), (1, .int (zI (z))), (2, .int (zI (z1))), (3, .int (zI (z2)))]) C dX9_years_58 (by decide) rfl ?_
          refine z_iinc (z := ((kk + 1 : Nat) : Int)) (lv' := [(5, .int (zI (((kk + 1 : Nat) : Int)))), (4, .int (zI (ry))), (0, .ref (ad i)), (1, .int (zI (z))), (2, .int (zI (z1))), (3, .int (zI (z2)))]) (j := 1) C dX9_years_60 rfl (congrArg zI (by omega)) (by decide) rfl ?_
          refine z_goto (tgt := 46) C dX9_years_63 (by decide) ?_
          exact ih (kk + 1) gy t8 ry (by omega) ((hy3 _ (by omega)).trans f1) ((hy3 _ (by omega)).trans f2) hy2 (fun j h => (hy3 j h).trans (f4 j h))
      refine z_lv (lv' := [(5, .int (zI (((0 : Nat) : Int)))), (4, .int (zI (z))), (0, .ref (ad i)), (1, .int (zI (z))), (2, .int (zI (z1))), (3, .int (zI (z2)))]) [0, 1, 2, 3, 4, 5] rfl ?_
      exact lp z1.toNat 0 gb 0 z (by omega) ((hb4 _ (by omega)).trans r1) ((hb4 _ (by omega)).trans r4.1) hb3.1 (fun j _ => rfl)
    · exact z_thrW (cls := eIA) (text := "years are 0 to 30") C hl0 (by decide +kernel) q_658 q_19 (by decide +kernel) at_IA gd_IA dX9_years_15 dX9_years_18 dX9_years_19 dX9_years_22 dX9_years_25 hxt (by decide) (Nat.le_of_ble_eq_true rfl) (by decide) (by decide) hlk (by decide) (by decide) ⟨rfl, rfl, rfl, Or.inr ⟨rfl, hn1, by omega⟩⟩

set_option maxRecDepth 100000 in
set_option maxHeartbeats 4000000 in
theorem c_X4_copyFrom0 (l : Launch) (D : va_G) (A : Nat → Prop) (cs : Nat → ClassId) (tt : Nat) (N : Nat) (ad : Nat → Nat) (g : Nat → va_E) (a b : Nat) (hN : a + 3 ≤ N ∧ b + 3 ≤ N) (hab : a + 3 ≤ b ∨ b + 3 ≤ a) (ha : isPit cs ad g a 0 0 0 0 (fun _ => 0)) (hb : isPit cs ad g b 0 0 0 0 (fun _ => 0)) : zM l yX4_copyFrom cX4_copyFrom 2 none ({ frames := 2, cells := 0, slots := 0, locals := 120 } : Room) D A cs tt N ad g [.ref (ad a), .ref (ad b)] (rV0 N ad fun g' => ∀ j, j < a ∨ a + 3 ≤ j → g' j = g j) := by
  have hay1 : zAt ad (a) (ad a) := rfl
  have hay2 : zAt ad (b) (ad b) := rfl
  have hay3 : zAt ad (a + 1) (ad (a + 1)) := rfl
  have hay4 : zAt ad (b + 1) (ad (b + 1)) := rfl
  refine z_of (by decide) (Nat.le_of_ble_eq_true rfl) ?_
  intro p e s m below meth c C hr hlk hnm
  refine z_lv (lv' := [(0, .ref (ad a)), (1, .ref (ad b))]) [0, 1] rfl ?_
  refine z_aload_n C 0 dX4_copyFrom_0 rfl ?_
  refine z_aload_n C 1 dX4_copyFrom_1 rfl ?_
  refine z_get (v := .int (zI (0))) C (by omega) hay2 hb.1 rfl inA_X4 0 (by decide) q_241 rfl rfl dX4_copyFrom_2 ?_
  refine z_put (fs' := [.int (zI (0)), .int (zI (0)), .ref (ad (a + 1))]) C (by omega) hay1 ha.1 tyX4 tyX4_ok nmX4 rfl inA_X4 0 (by decide) q_241 rfl rfl rfl rfl (Nat.le_of_ble_eq_true rfl) rfl dX4_copyFrom_5 (fun gy5 egy6 => ?_)
  have hgy7 := up_s egy6
  refine z_aload_n C 0 dX4_copyFrom_8 rfl ?_
  refine z_aload_n C 1 dX4_copyFrom_9 rfl ?_
  have hgy8 := up_n egy6 hb.1 (by omega)
  refine z_get (v := .int (zI (0))) C (by omega) hay2 hgy8 rfl inA_X4 1 (by decide) q_244 rfl rfl dX4_copyFrom_10 ?_
  refine z_put (fs' := [.int (zI (0)), .int (zI (0)), .ref (ad (a + 1))]) C (by omega) hay1 hgy7 tyX4 tyX4_ok nmX4 rfl inA_X4 1 (by decide) q_244 rfl rfl rfl rfl (Nat.le_of_ble_eq_true rfl) rfl dX4_copyFrom_13 (fun gy9 egy10 => ?_)
  have hgy11 := up_s egy10
  refine z_aload_n C 0 dX4_copyFrom_16 rfl ?_
  refine z_get (v := .ref (ad (a + 1))) C (by omega) hay1 hgy11 rfl inA_X4 2 (by decide) q_247 rfl rfl dX4_copyFrom_17 ?_
  refine z_aload_n C 1 dX4_copyFrom_20 rfl ?_
  have hgy12 := up_n egy10 hgy8 (by omega)
  refine z_get (v := .ref (ad (b + 1))) C (by omega) hay2 hgy12 rfl inA_X4 2 (by decide) q_247 rfl rfl dX4_copyFrom_21 ?_
  have hpy13 := isPack.mv (ad' := ad) (g' := gy9) (fun j h1 h2 => by rfl) (fun j h1 h2 => by rw [egy10, va_up_ne _ _ (by omega)]; rw [egy6, va_up_ne _ _ (by omega)]) ha.2
  have hpy14 := isPack.mv (ad' := ad) (g' := gy9) (fun j h1 h2 => by rfl) (fun j h1 h2 => by rw [egy10, va_up_ne _ _ (by omega)]; rw [egy6, va_up_ne _ _ (by omega)]) hb.2
  refine z_cV (As := [.ref (ad (b + 1))]) (rest := []) (ci := 5) C (c_X3_copyFrom l D A cs tt N ad _ (a + 1) (b + 1) (by omega) (by omega) _ _ _ _ _ _ hpy13 hpy14) (by omega) hay3 hpy13.1 rfl rfl mv_yX3_copyFrom q_639 hd_yX3_copyFrom (by decide) (Nat.le_of_ble_eq_true rfl) (by decide) dX4_copyFrom_24 rfl (kV0 fun gc hc => ?_)
  obtain ⟨hc1, hc2⟩ := hc
  exact z_vret C hr hlk dX4_copyFrom_27 (by decide) (by decide) ⟨rfl, rfl, rfl, fun j h1 => by rw [hc2 _ (by omega)]; rw [egy10, va_up_ne _ _ (by omega)]; rw [egy6, va_up_ne _ _ (by omega)]⟩

set_option maxRecDepth 100000 in
set_option maxHeartbeats 4000000 in
theorem c_X2_copyFrom0 (l : Launch) (D : va_G) (A : Nat → Prop) (cs : Nat → ClassId) (tt : Nat) (N : Nat) (ad : Nat → Nat) (g : Nat → va_E) (a b : Nat) (hN : a + 4 ≤ N ∧ b + 4 ≤ N) (hab : a + 4 ≤ b ∨ b + 4 ≤ a) (ha : isNotes cs ad g a 0 (fun _ => 0) (fun _ => 0) (fun _ => 0)) (hb : isNotes cs ad g b 0 (fun _ => 0) (fun _ => 0) (fun _ => 0)) : zM l yX2_copyFrom cX2_copyFrom 2 none ({ frames := 1, cells := 0, slots := 0, locals := 60 } : Room) D A cs tt N ad g [.ref (ad a), .ref (ad b)] (rV0 N ad fun g' => ∀ j, j < a ∨ a + 4 ≤ j → g' j = g j) := by
  obtain ⟨ha1, ha2, ha3, ha4⟩ := id ha
  have hay1 : zAt ad (a) (ad a) := rfl
  have hay2 : zAt ad (a + 1) (ad (a + 1)) := rfl
  have hay3 : zAt ad (a + 2) (ad (a + 2)) := rfl
  have hay4 : zAt ad (a + 3) (ad (a + 3)) := rfl
  obtain ⟨hb1, hb2, hb3, hb4⟩ := id hb
  have hay5 : zAt ad (b) (ad b) := rfl
  have hay6 : zAt ad (b + 1) (ad (b + 1)) := rfl
  have hay7 : zAt ad (b + 2) (ad (b + 2)) := rfl
  have hay8 : zAt ad (b + 3) (ad (b + 3)) := rfl
  refine z_of (by decide) (Nat.le_of_ble_eq_true rfl) ?_
  intro p e s m below meth c C hr hlk hnm
  refine z_lv (lv' := [(0, .ref (ad a)), (1, .ref (ad b))]) [0, 1] rfl ?_
  refine z_aload_n C 0 dX2_copyFrom_0 rfl ?_
  refine z_aload_n C 1 dX2_copyFrom_1 rfl ?_
  refine z_get (v := .int (zI (0))) C (by omega) hay5 hb1 rfl inA_X2 0 (by decide) q_216 rfl rfl dX2_copyFrom_2 ?_
  refine z_put (fs' := [.int (zI (0)), .ref (ad (a + 1)), .ref (ad (a + 2)), .ref (ad (a + 3))]) C (by omega) hay1 ha1 tyX2 tyX2_ok nmX2 rfl inA_X2 0 (by decide) q_216 rfl rfl rfl rfl (Nat.le_of_ble_eq_true rfl) rfl dX2_copyFrom_5 (fun gy9 egy10 => ?_)
  have hgy11 := up_s egy10
  refine z_aload_n C 1 dX2_copyFrom_8 rfl ?_
  have hgy12 := up_n egy10 hb1 (by omega)
  refine z_get (v := .ref (ad (b + 1))) C (by omega) hay5 hgy12 rfl inA_X2 1 (by decide) q_219 rfl rfl dX2_copyFrom_9 ?_
  refine z_iconst (z := 0) C dX2_copyFrom_12 rfl ?_
  refine z_aload_n C 0 dX2_copyFrom_13 rfl ?_
  refine z_get (v := .ref (ad (a + 1))) C (by omega) hay1 hgy11 rfl inA_X2 1 (by decide) q_219 rfl rfl dX2_copyFrom_14 ?_
  refine z_iconst (z := 0) C dX2_copyFrom_17 rfl ?_
  refine z_aload_n C 0 dX2_copyFrom_18 rfl ?_
  refine z_get (v := .ref (ad (a + 1))) C (by omega) hay1 hgy11 rfl inA_X2 1 (by decide) q_219 rfl rfl dX2_copyFrom_19 ?_
  have hgy13 := up_n egy10 ha2 (ne_o (i := a) (c := 1) (d := 0) rfl)
  refine z_alen (z := 8) C (by omega) hay2 hgy13 1 rfl rfl dX2_copyFrom_22 ?_
  have hgy14 := up_n egy10 hb2 (by omega)
  refine z_copyI C q_644 q_430 q_429 q_21 (by omega) (by omega) hay6 hay2 hgy14 hgy13 0 0 8 rfl rfl rfl (by decide) (by decide) (by decide) (by decide) (Nat.le_of_ble_eq_true rfl) dX2_copyFrom_23 (fun gy15 egy16 => ?_)
  have hgy17 := up_s egy16
  refine z_ext (r' := fun _ => 0) (by omega) hgy17 (fun j hj => cZ_all hj) (fun gy18 egy19 => ?_)
  have hgy20 := up_s egy19
  refine z_aload_n C 1 dX2_copyFrom_26 rfl ?_
  have hgy21 := up_n egy16 hgy12 (by omega)
  have hgy22 := up_n egy19 hgy21 (by omega)
  refine z_get (v := .ref (ad (b + 2))) C (by omega) hay5 hgy22 rfl inA_X2 2 (by decide) q_221 rfl rfl dX2_copyFrom_27 ?_
  refine z_iconst (z := 0) C dX2_copyFrom_30 rfl ?_
  refine z_aload_n C 0 dX2_copyFrom_31 rfl ?_
  have hgy23 := up_n egy16 hgy11 (ne_o (i := a) (c := 0) (d := 1) rfl)
  have hgy24 := up_n egy19 hgy23 (ne_o (i := a) (c := 0) (d := 1) rfl)
  refine z_get (v := .ref (ad (a + 2))) C (by omega) hay1 hgy24 rfl inA_X2 2 (by decide) q_221 rfl rfl dX2_copyFrom_32 ?_
  refine z_iconst (z := 0) C dX2_copyFrom_35 rfl ?_
  refine z_aload_n C 0 dX2_copyFrom_36 rfl ?_
  refine z_get (v := .ref (ad (a + 2))) C (by omega) hay1 hgy24 rfl inA_X2 2 (by decide) q_221 rfl rfl dX2_copyFrom_37 ?_
  have hgy25 := up_n egy10 ha3 (ne_o (i := a) (c := 2) (d := 0) rfl)
  have hgy26 := up_n egy16 hgy25 (ne_o (i := a) (c := 2) (d := 1) rfl)
  have hgy27 := up_n egy19 hgy26 (ne_o (i := a) (c := 2) (d := 1) rfl)
  refine z_alen (z := 8) C (by omega) hay3 hgy27 1 rfl rfl dX2_copyFrom_40 ?_
  have hgy28 := up_n egy10 hb3 (by omega)
  have hgy29 := up_n egy16 hgy28 (by omega)
  have hgy30 := up_n egy19 hgy29 (by omega)
  refine z_copyI C q_644 q_430 q_429 q_21 (by omega) (by omega) hay7 hay3 hgy30 hgy27 0 0 8 rfl rfl rfl (by decide) (by decide) (by decide) (by decide) (Nat.le_of_ble_eq_true rfl) dX2_copyFrom_41 (fun gy31 egy32 => ?_)
  have hgy33 := up_s egy32
  refine z_ext (r' := fun _ => 0) (by omega) hgy33 (fun j hj => cZ_all hj) (fun gy34 egy35 => ?_)
  have hgy36 := up_s egy35
  refine z_aload_n C 1 dX2_copyFrom_44 rfl ?_
  have hgy37 := up_n egy32 hgy22 (by omega)
  have hgy38 := up_n egy35 hgy37 (by omega)
  refine z_get (v := .ref (ad (b + 3))) C (by omega) hay5 hgy38 rfl inA_X2 3 (by decide) q_223 rfl rfl dX2_copyFrom_45 ?_
  refine z_iconst (z := 0) C dX2_copyFrom_48 rfl ?_
  refine z_aload_n C 0 dX2_copyFrom_49 rfl ?_
  have hgy39 := up_n egy32 hgy24 (ne_o (i := a) (c := 0) (d := 2) rfl)
  have hgy40 := up_n egy35 hgy39 (ne_o (i := a) (c := 0) (d := 2) rfl)
  refine z_get (v := .ref (ad (a + 3))) C (by omega) hay1 hgy40 rfl inA_X2 3 (by decide) q_223 rfl rfl dX2_copyFrom_50 ?_
  refine z_iconst (z := 0) C dX2_copyFrom_53 rfl ?_
  refine z_aload_n C 0 dX2_copyFrom_54 rfl ?_
  refine z_get (v := .ref (ad (a + 3))) C (by omega) hay1 hgy40 rfl inA_X2 3 (by decide) q_223 rfl rfl dX2_copyFrom_55 ?_
  have hgy41 := up_n egy10 ha4 (ne_o (i := a) (c := 3) (d := 0) rfl)
  have hgy42 := up_n egy16 hgy41 (ne_o (i := a) (c := 3) (d := 1) rfl)
  have hgy43 := up_n egy19 hgy42 (ne_o (i := a) (c := 3) (d := 1) rfl)
  have hgy44 := up_n egy32 hgy43 (ne_o (i := a) (c := 3) (d := 2) rfl)
  have hgy45 := up_n egy35 hgy44 (ne_o (i := a) (c := 3) (d := 2) rfl)
  refine z_alen (z := 8) C (by omega) hay4 hgy45 1 rfl rfl dX2_copyFrom_58 ?_
  have hgy46 := up_n egy10 hb4 (by omega)
  have hgy47 := up_n egy16 hgy46 (by omega)
  have hgy48 := up_n egy19 hgy47 (by omega)
  have hgy49 := up_n egy32 hgy48 (by omega)
  have hgy50 := up_n egy35 hgy49 (by omega)
  refine z_copyI C q_644 q_430 q_429 q_21 (by omega) (by omega) hay8 hay4 hgy50 hgy45 0 0 8 rfl rfl rfl (by decide) (by decide) (by decide) (by decide) (Nat.le_of_ble_eq_true rfl) dX2_copyFrom_59 (fun gy51 egy52 => ?_)
  have hgy53 := up_s egy52
  refine z_ext (r' := fun _ => 0) (by omega) hgy53 (fun j hj => cZ_all hj) (fun gy54 egy55 => ?_)
  have hgy56 := up_s egy55
  exact z_vret C hr hlk dX2_copyFrom_62 (by decide) (by decide) ⟨rfl, rfl, rfl, fun j h1 => by rw [egy55, va_up_ne _ _ (by omega)]; rw [egy52, va_up_ne _ _ (by omega)]; rw [egy35, va_up_ne _ _ (by omega)]; rw [egy32, va_up_ne _ _ (by omega)]; rw [egy19, va_up_ne _ _ (by omega)]; rw [egy16, va_up_ne _ _ (by omega)]; rw [egy10, va_up_ne _ _ (by omega)]⟩

set_option maxRecDepth 100000 in
set_option maxHeartbeats 4000000 in
theorem c_X6_copyFrom0 (l : Launch) (D : va_G) (A : Nat → Prop) (cs : Nat → ClassId) (tt : Nat) (N : Nat) (ad : Nat → Nat) (g : Nat → va_E) (a b : Nat) (hN : a + 436 ≤ N ∧ b + 436 ≤ N) (hab : a + 436 ≤ b ∨ b + 436 ≤ a) (ha : isSt cs ad g a) (hb : isSt cs ad g b) : zM l yX6_copyFrom cX6_copyFrom 3 none ({ frames := 3, cells := 0, slots := 0, locals := 180 } : Room) D A cs tt N ad g [.ref (ad a), .ref (ad b)] (rV0 N ad fun g' => ∀ j, j < a ∨ a + 436 ≤ j → g' j = g j) := by
  obtain ⟨ha1, ha2, ⟨hab1, ha3, ha4⟩, ⟨hab2, ha5, ha6⟩, ha7, ha8, ha9, ha10⟩ := id ha
  have hay1 : zAt ad (a) (ad a) := rfl
  have hay2 : zAt ad (a + 1) (ad (a + 1)) := rfl
  have hay3 : zAt ad (a + 12) (ad (a + 12)) := rfl
  have hay4 : zAt ad (a + 13) (ad (a + 13)) := rfl
  have hay5 : zAt ad (a + 17) (ad (a + 17)) := rfl
  have haq0 : hab2 0 = some (ad (a + 418)) := ha6 0 (by decide)
  have hap0 : isPit cs ad g (a + 418) 0 0 0 0 (fun _ => 0) := ha10 0 (by decide)
  have hay6 : zAt ad (a + 418) (ad (a + 418)) := rfl
  have haq1 : hab2 1 = some (ad (a + 421)) := ha6 1 (by decide)
  have hap1 : isPit cs ad g (a + 421) 0 0 0 0 (fun _ => 0) := ha10 1 (by decide)
  have hay7 : zAt ad (a + 421) (ad (a + 421)) := rfl
  have haq2 : hab2 2 = some (ad (a + 424)) := ha6 2 (by decide)
  have hap2 : isPit cs ad g (a + 424) 0 0 0 0 (fun _ => 0) := ha10 2 (by decide)
  have hay8 : zAt ad (a + 424) (ad (a + 424)) := rfl
  have haq3 : hab2 3 = some (ad (a + 427)) := ha6 3 (by decide)
  have hap3 : isPit cs ad g (a + 427) 0 0 0 0 (fun _ => 0) := ha10 3 (by decide)
  have hay9 : zAt ad (a + 427) (ad (a + 427)) := rfl
  have haq4 : hab2 4 = some (ad (a + 430)) := ha6 4 (by decide)
  have hap4 : isPit cs ad g (a + 430) 0 0 0 0 (fun _ => 0) := ha10 4 (by decide)
  have hay10 : zAt ad (a + 430) (ad (a + 430)) := rfl
  have haq5 : hab2 5 = some (ad (a + 433)) := ha6 5 (by decide)
  have hap5 : isPit cs ad g (a + 433) 0 0 0 0 (fun _ => 0) := ha10 5 (by decide)
  have hay11 : zAt ad (a + 433) (ad (a + 433)) := rfl
  obtain ⟨hb1, hb2, ⟨hbb1, hb3, hb4⟩, ⟨hbb2, hb5, hb6⟩, hb7, hb8, hb9, hb10⟩ := id hb
  have hay12 : zAt ad (b) (ad b) := rfl
  have hay13 : zAt ad (b + 1) (ad (b + 1)) := rfl
  have hay14 : zAt ad (b + 12) (ad (b + 12)) := rfl
  have hay15 : zAt ad (b + 13) (ad (b + 13)) := rfl
  have hay16 : zAt ad (b + 17) (ad (b + 17)) := rfl
  have hbq0 : hbb2 0 = some (ad (b + 418)) := hb6 0 (by decide)
  have hbp0 : isPit cs ad g (b + 418) 0 0 0 0 (fun _ => 0) := hb10 0 (by decide)
  have hay17 : zAt ad (b + 418) (ad (b + 418)) := rfl
  have hbq1 : hbb2 1 = some (ad (b + 421)) := hb6 1 (by decide)
  have hbp1 : isPit cs ad g (b + 421) 0 0 0 0 (fun _ => 0) := hb10 1 (by decide)
  have hay18 : zAt ad (b + 421) (ad (b + 421)) := rfl
  have hbq2 : hbb2 2 = some (ad (b + 424)) := hb6 2 (by decide)
  have hbp2 : isPit cs ad g (b + 424) 0 0 0 0 (fun _ => 0) := hb10 2 (by decide)
  have hay19 : zAt ad (b + 424) (ad (b + 424)) := rfl
  have hbq3 : hbb2 3 = some (ad (b + 427)) := hb6 3 (by decide)
  have hbp3 : isPit cs ad g (b + 427) 0 0 0 0 (fun _ => 0) := hb10 3 (by decide)
  have hay20 : zAt ad (b + 427) (ad (b + 427)) := rfl
  have hbq4 : hbb2 4 = some (ad (b + 430)) := hb6 4 (by decide)
  have hbp4 : isPit cs ad g (b + 430) 0 0 0 0 (fun _ => 0) := hb10 4 (by decide)
  have hay21 : zAt ad (b + 430) (ad (b + 430)) := rfl
  have hbq5 : hbb2 5 = some (ad (b + 433)) := hb6 5 (by decide)
  have hbp5 : isPit cs ad g (b + 433) 0 0 0 0 (fun _ => 0) := hb10 5 (by decide)
  have hay22 : zAt ad (b + 433) (ad (b + 433)) := rfl
  refine z_of (by decide) (Nat.le_of_ble_eq_true rfl) ?_
  intro p e s m below meth c C hr hlk hnm
  refine z_lv (lv' := [(0, .ref (ad a)), (1, .ref (ad b))]) [0, 1] rfl ?_
  refine z_aload_n C 0 dX6_copyFrom_0 rfl ?_
  refine z_get (v := .ref (ad (a + 1))) C (by omega) hay1 ha1 rfl inA_X6 0 (by decide) q_257 rfl rfl dX6_copyFrom_1 ?_
  refine z_aload_n C 1 dX6_copyFrom_4 rfl ?_
  refine z_get (v := .ref (ad (b + 1))) C (by omega) hay12 hb1 rfl inA_X6 0 (by decide) q_257 rfl rfl dX6_copyFrom_5 ?_
  refine z_cV (As := [.ref (ad (b + 1))]) (rest := []) (ci := 10) C (c_X8_copyFrom l D A cs tt N ad _ (a + 1) (b + 1) (by omega) (by omega) _ _ _ _ _ _ _ _ ha2 hb2) (by omega) hay2 ha2.1 rfl rfl mv_yX8_copyFrom q_420 hd_yX8_copyFrom (by decide) (Nat.le_of_ble_eq_true rfl) (by decide) dX6_copyFrom_8 rfl (kV0 fun gn hn => ?_)
  obtain ⟨hn1, hn2⟩ := hn
  refine z_aload_n C 0 dX6_copyFrom_11 rfl ?_
  refine z_aload_n C 1 dX6_copyFrom_12 rfl ?_
  have hgy23 := (hn2 (b) (by omega)).trans hb1
  refine z_get (v := .int (zI (0))) C (by omega) hay12 hgy23 rfl inA_X6 2 (by decide) q_260 rfl rfl dX6_copyFrom_13 ?_
  have hgy24 := (hn2 (a) (by omega)).trans ha1
  refine z_put (fs' := [.ref (ad (a + 1)), .ref (ad (a + 11)), .int (zI (0)), .ref (ad (a + 12)), .ref (ad (a + 13)), .ref (ad (a + 17))]) C (by omega) hay1 hgy24 tyX6 tyX6_ok nmX6 rfl inA_X6 2 (by decide) q_260 rfl rfl rfl rfl (Nat.le_of_ble_eq_true rfl) rfl dX6_copyFrom_16 (fun gy25 egy26 => ?_)
  have hgy27 := up_s egy26
  refine z_iconst (z := 0) C dX6_copyFrom_19 rfl ?_
  refine z_istore_n (lv' := [(2, .int (zI (0))), (0, .ref (ad a)), (1, .ref (ad b))]) C dX6_copyFrom_20 rfl (by decide) rfl ?_
  refine z_iload_n C 0 dX6_copyFrom_21 rfl ?_
  refine z_aload_n C 1 dX6_copyFrom_22 rfl ?_
  refine z_get (v := .int (zI (0))) C (by omega) hay1 hgy27 rfl inA_X6 2 (by decide) q_260 rfl rfl dX6_copyFrom_23 ?_
  refine z_icmp_ge (tgt := 59) C dX6_copyFrom_26 (by decide) (by omega) (by omega) (fun _ => ?_) (fun h => absurd h (by omega))
  refine z_iconst (z := 0) C dX6_copyFrom_59 rfl ?_
  refine z_istore_n (lv' := [(2, .int (zI (0))), (0, .ref (ad a)), (1, .ref (ad b))]) C dX6_copyFrom_60 rfl (by decide) rfl ?_
  refine z_iload_n C 0 dX6_copyFrom_61 rfl ?_
  refine z_aload_n C 1 dX6_copyFrom_62 rfl ?_
  refine z_get (v := .ref (ad (a + 12))) C (by omega) hay1 hgy27 rfl inA_X6 3 (by decide) q_262 rfl rfl dX6_copyFrom_63 ?_
  have hgy28 := (hn2 (a + 12) (by omega)).trans ha5
  have hgy29 := up_n egy26 hgy28 (ne_o (i := a) (c := 12) (d := 0) rfl)
  refine z_alen (z := 6) C (by omega) hay3 hgy29 5 rfl rfl dX6_copyFrom_66 ?_
  refine z_icmp_ge (tgt := 91) C dX6_copyFrom_67 (by decide) (by omega) (by omega) (fun h => absurd h (by omega)) (fun _ => ?_)
  refine z_aload_n C 1 dX6_copyFrom_70 rfl ?_
  refine z_get (v := .ref (ad (a + 12))) C (by omega) hay1 hgy27 rfl inA_X6 3 (by decide) q_262 rfl rfl dX6_copyFrom_71 ?_
  refine z_iload_n C 0 dX6_copyFrom_74 rfl ?_
  refine z_aald C (by omega) hay3 hgy29 5 rfl (0) (by omega) (by omega) (by decide) haq0 dX6_copyFrom_75 ?_
  refine z_aload_n C 2 dX6_copyFrom_76 rfl ?_
  have hgy30 := up_n egy26 hgy23 (by omega)
  refine z_get (v := .ref (ad (b + 12))) C (by omega) hay12 hgy30 rfl inA_X6 3 (by decide) q_262 rfl rfl dX6_copyFrom_77 ?_
  refine z_iload_n C 0 dX6_copyFrom_80 rfl ?_
  have hgy31 := (hn2 (b + 12) (by omega)).trans hb5
  have hgy32 := up_n egy26 hgy31 (by omega)
  refine z_aald C (by omega) hay14 hgy32 5 rfl (0) (by omega) (by omega) (by decide) hbq0 dX6_copyFrom_81 ?_
  have hpy33 := isPit.mv (ad' := ad) (g' := gy25) (fun j h1 h2 => by rfl) (fun j h1 h2 => by rw [egy26, va_up_ne _ _ (by omega)]; rw [hn2 _ (by omega)]) hap0
  have hpy34 := isPit.mv (ad' := ad) (g' := gy25) (fun j h1 h2 => by rfl) (fun j h1 h2 => by rw [egy26, va_up_ne _ _ (by omega)]; rw [hn2 _ (by omega)]) hbp0
  refine z_cV (As := [.ref (ad (b + 418))]) (rest := []) (ci := 6) C (c_X4_copyFrom0 l D A cs tt N ad _ (a + 418) (b + 418) (by omega) (by omega) hpy33 hpy34) (by omega) hay6 hpy33.1 rfl rfl mv_yX4_copyFrom q_635 hd_yX4_copyFrom (by decide) (Nat.le_of_ble_eq_true rfl) (by decide) dX6_copyFrom_82 rfl (kV0 fun gp0 hp0 => ?_)
  refine z_iinc (z := 1) (lv' := [(2, .int (zI (1))), (0, .ref (ad a)), (1, .ref (ad b))]) (j := 0) C dX6_copyFrom_85 rfl (congrArg zI (by omega)) (by decide) rfl ?_
  refine z_goto (tgt := 61) C dX6_copyFrom_88 (by decide) ?_
  refine z_iload_n C 0 dX6_copyFrom_61 rfl ?_
  refine z_aload_n C 1 dX6_copyFrom_62 rfl ?_
  have hgy35 := (hp0 (a) (by omega)).trans hgy27
  refine z_get (v := .ref (ad (a + 12))) C (by omega) hay1 hgy35 rfl inA_X6 3 (by decide) q_262 rfl rfl dX6_copyFrom_63 ?_
  have hgy36 := (hp0 (a + 12) (by omega)).trans hgy29
  refine z_alen (z := 6) C (by omega) hay3 hgy36 5 rfl rfl dX6_copyFrom_66 ?_
  refine z_icmp_ge (tgt := 91) C dX6_copyFrom_67 (by decide) (by omega) (by omega) (fun h => absurd h (by omega)) (fun _ => ?_)
  refine z_aload_n C 1 dX6_copyFrom_70 rfl ?_
  refine z_get (v := .ref (ad (a + 12))) C (by omega) hay1 hgy35 rfl inA_X6 3 (by decide) q_262 rfl rfl dX6_copyFrom_71 ?_
  refine z_iload_n C 0 dX6_copyFrom_74 rfl ?_
  refine z_aald C (by omega) hay3 hgy36 5 rfl (1) (by omega) (by omega) (by decide) haq1 dX6_copyFrom_75 ?_
  refine z_aload_n C 2 dX6_copyFrom_76 rfl ?_
  have hgy37 := (hp0 (b) (by omega)).trans hgy30
  refine z_get (v := .ref (ad (b + 12))) C (by omega) hay12 hgy37 rfl inA_X6 3 (by decide) q_262 rfl rfl dX6_copyFrom_77 ?_
  refine z_iload_n C 0 dX6_copyFrom_80 rfl ?_
  have hgy38 := (hp0 (b + 12) (by omega)).trans hgy32
  refine z_aald C (by omega) hay14 hgy38 5 rfl (1) (by omega) (by omega) (by decide) hbq1 dX6_copyFrom_81 ?_
  have hpy39 := isPit.mv (ad' := ad) (g' := gp0) (fun j h1 h2 => by rfl) (fun j h1 h2 => by rw [hp0 _ (by omega)]; rw [egy26, va_up_ne _ _ (by omega)]; rw [hn2 _ (by omega)]) hap1
  have hpy40 := isPit.mv (ad' := ad) (g' := gp0) (fun j h1 h2 => by rfl) (fun j h1 h2 => by rw [hp0 _ (by omega)]; rw [egy26, va_up_ne _ _ (by omega)]; rw [hn2 _ (by omega)]) hbp1
  refine z_cV (As := [.ref (ad (b + 421))]) (rest := []) (ci := 6) C (c_X4_copyFrom0 l D A cs tt N ad _ (a + 421) (b + 421) (by omega) (by omega) hpy39 hpy40) (by omega) hay7 hpy39.1 rfl rfl mv_yX4_copyFrom q_635 hd_yX4_copyFrom (by decide) (Nat.le_of_ble_eq_true rfl) (by decide) dX6_copyFrom_82 rfl (kV0 fun gp1 hp1 => ?_)
  refine z_iinc (z := 2) (lv' := [(2, .int (zI (2))), (0, .ref (ad a)), (1, .ref (ad b))]) (j := 0) C dX6_copyFrom_85 rfl (congrArg zI (by omega)) (by decide) rfl ?_
  refine z_goto (tgt := 61) C dX6_copyFrom_88 (by decide) ?_
  refine z_iload_n C 0 dX6_copyFrom_61 rfl ?_
  refine z_aload_n C 1 dX6_copyFrom_62 rfl ?_
  have hgy41 := (hp1 (a) (by omega)).trans hgy35
  refine z_get (v := .ref (ad (a + 12))) C (by omega) hay1 hgy41 rfl inA_X6 3 (by decide) q_262 rfl rfl dX6_copyFrom_63 ?_
  have hgy42 := (hp1 (a + 12) (by omega)).trans hgy36
  refine z_alen (z := 6) C (by omega) hay3 hgy42 5 rfl rfl dX6_copyFrom_66 ?_
  refine z_icmp_ge (tgt := 91) C dX6_copyFrom_67 (by decide) (by omega) (by omega) (fun h => absurd h (by omega)) (fun _ => ?_)
  refine z_aload_n C 1 dX6_copyFrom_70 rfl ?_
  refine z_get (v := .ref (ad (a + 12))) C (by omega) hay1 hgy41 rfl inA_X6 3 (by decide) q_262 rfl rfl dX6_copyFrom_71 ?_
  refine z_iload_n C 0 dX6_copyFrom_74 rfl ?_
  refine z_aald C (by omega) hay3 hgy42 5 rfl (2) (by omega) (by omega) (by decide) haq2 dX6_copyFrom_75 ?_
  refine z_aload_n C 2 dX6_copyFrom_76 rfl ?_
  have hgy43 := (hp1 (b) (by omega)).trans hgy37
  refine z_get (v := .ref (ad (b + 12))) C (by omega) hay12 hgy43 rfl inA_X6 3 (by decide) q_262 rfl rfl dX6_copyFrom_77 ?_
  refine z_iload_n C 0 dX6_copyFrom_80 rfl ?_
  have hgy44 := (hp1 (b + 12) (by omega)).trans hgy38
  refine z_aald C (by omega) hay14 hgy44 5 rfl (2) (by omega) (by omega) (by decide) hbq2 dX6_copyFrom_81 ?_
  have hpy45 := isPit.mv (ad' := ad) (g' := gp1) (fun j h1 h2 => by rfl) (fun j h1 h2 => by rw [hp1 _ (by omega)]; rw [hp0 _ (by omega)]; rw [egy26, va_up_ne _ _ (by omega)]; rw [hn2 _ (by omega)]) hap2
  have hpy46 := isPit.mv (ad' := ad) (g' := gp1) (fun j h1 h2 => by rfl) (fun j h1 h2 => by rw [hp1 _ (by omega)]; rw [hp0 _ (by omega)]; rw [egy26, va_up_ne _ _ (by omega)]; rw [hn2 _ (by omega)]) hbp2
  refine z_cV (As := [.ref (ad (b + 424))]) (rest := []) (ci := 6) C (c_X4_copyFrom0 l D A cs tt N ad _ (a + 424) (b + 424) (by omega) (by omega) hpy45 hpy46) (by omega) hay8 hpy45.1 rfl rfl mv_yX4_copyFrom q_635 hd_yX4_copyFrom (by decide) (Nat.le_of_ble_eq_true rfl) (by decide) dX6_copyFrom_82 rfl (kV0 fun gp2 hp2 => ?_)
  refine z_iinc (z := 3) (lv' := [(2, .int (zI (3))), (0, .ref (ad a)), (1, .ref (ad b))]) (j := 0) C dX6_copyFrom_85 rfl (congrArg zI (by omega)) (by decide) rfl ?_
  refine z_goto (tgt := 61) C dX6_copyFrom_88 (by decide) ?_
  refine z_iload_n C 0 dX6_copyFrom_61 rfl ?_
  refine z_aload_n C 1 dX6_copyFrom_62 rfl ?_
  have hgy47 := (hp2 (a) (by omega)).trans hgy41
  refine z_get (v := .ref (ad (a + 12))) C (by omega) hay1 hgy47 rfl inA_X6 3 (by decide) q_262 rfl rfl dX6_copyFrom_63 ?_
  have hgy48 := (hp2 (a + 12) (by omega)).trans hgy42
  refine z_alen (z := 6) C (by omega) hay3 hgy48 5 rfl rfl dX6_copyFrom_66 ?_
  refine z_icmp_ge (tgt := 91) C dX6_copyFrom_67 (by decide) (by omega) (by omega) (fun h => absurd h (by omega)) (fun _ => ?_)
  refine z_aload_n C 1 dX6_copyFrom_70 rfl ?_
  refine z_get (v := .ref (ad (a + 12))) C (by omega) hay1 hgy47 rfl inA_X6 3 (by decide) q_262 rfl rfl dX6_copyFrom_71 ?_
  refine z_iload_n C 0 dX6_copyFrom_74 rfl ?_
  refine z_aald C (by omega) hay3 hgy48 5 rfl (3) (by omega) (by omega) (by decide) haq3 dX6_copyFrom_75 ?_
  refine z_aload_n C 2 dX6_copyFrom_76 rfl ?_
  have hgy49 := (hp2 (b) (by omega)).trans hgy43
  refine z_get (v := .ref (ad (b + 12))) C (by omega) hay12 hgy49 rfl inA_X6 3 (by decide) q_262 rfl rfl dX6_copyFrom_77 ?_
  refine z_iload_n C 0 dX6_copyFrom_80 rfl ?_
  have hgy50 := (hp2 (b + 12) (by omega)).trans hgy44
  refine z_aald C (by omega) hay14 hgy50 5 rfl (3) (by omega) (by omega) (by decide) hbq3 dX6_copyFrom_81 ?_
  have hpy51 := isPit.mv (ad' := ad) (g' := gp2) (fun j h1 h2 => by rfl) (fun j h1 h2 => by rw [hp2 _ (by omega)]; rw [hp1 _ (by omega)]; rw [hp0 _ (by omega)]; rw [egy26, va_up_ne _ _ (by omega)]; rw [hn2 _ (by omega)]) hap3
  have hpy52 := isPit.mv (ad' := ad) (g' := gp2) (fun j h1 h2 => by rfl) (fun j h1 h2 => by rw [hp2 _ (by omega)]; rw [hp1 _ (by omega)]; rw [hp0 _ (by omega)]; rw [egy26, va_up_ne _ _ (by omega)]; rw [hn2 _ (by omega)]) hbp3
  refine z_cV (As := [.ref (ad (b + 427))]) (rest := []) (ci := 6) C (c_X4_copyFrom0 l D A cs tt N ad _ (a + 427) (b + 427) (by omega) (by omega) hpy51 hpy52) (by omega) hay9 hpy51.1 rfl rfl mv_yX4_copyFrom q_635 hd_yX4_copyFrom (by decide) (Nat.le_of_ble_eq_true rfl) (by decide) dX6_copyFrom_82 rfl (kV0 fun gp3 hp3 => ?_)
  refine z_iinc (z := 4) (lv' := [(2, .int (zI (4))), (0, .ref (ad a)), (1, .ref (ad b))]) (j := 0) C dX6_copyFrom_85 rfl (congrArg zI (by omega)) (by decide) rfl ?_
  refine z_goto (tgt := 61) C dX6_copyFrom_88 (by decide) ?_
  refine z_iload_n C 0 dX6_copyFrom_61 rfl ?_
  refine z_aload_n C 1 dX6_copyFrom_62 rfl ?_
  have hgy53 := (hp3 (a) (by omega)).trans hgy47
  refine z_get (v := .ref (ad (a + 12))) C (by omega) hay1 hgy53 rfl inA_X6 3 (by decide) q_262 rfl rfl dX6_copyFrom_63 ?_
  have hgy54 := (hp3 (a + 12) (by omega)).trans hgy48
  refine z_alen (z := 6) C (by omega) hay3 hgy54 5 rfl rfl dX6_copyFrom_66 ?_
  refine z_icmp_ge (tgt := 91) C dX6_copyFrom_67 (by decide) (by omega) (by omega) (fun h => absurd h (by omega)) (fun _ => ?_)
  refine z_aload_n C 1 dX6_copyFrom_70 rfl ?_
  refine z_get (v := .ref (ad (a + 12))) C (by omega) hay1 hgy53 rfl inA_X6 3 (by decide) q_262 rfl rfl dX6_copyFrom_71 ?_
  refine z_iload_n C 0 dX6_copyFrom_74 rfl ?_
  refine z_aald C (by omega) hay3 hgy54 5 rfl (4) (by omega) (by omega) (by decide) haq4 dX6_copyFrom_75 ?_
  refine z_aload_n C 2 dX6_copyFrom_76 rfl ?_
  have hgy55 := (hp3 (b) (by omega)).trans hgy49
  refine z_get (v := .ref (ad (b + 12))) C (by omega) hay12 hgy55 rfl inA_X6 3 (by decide) q_262 rfl rfl dX6_copyFrom_77 ?_
  refine z_iload_n C 0 dX6_copyFrom_80 rfl ?_
  have hgy56 := (hp3 (b + 12) (by omega)).trans hgy50
  refine z_aald C (by omega) hay14 hgy56 5 rfl (4) (by omega) (by omega) (by decide) hbq4 dX6_copyFrom_81 ?_
  have hpy57 := isPit.mv (ad' := ad) (g' := gp3) (fun j h1 h2 => by rfl) (fun j h1 h2 => by rw [hp3 _ (by omega)]; rw [hp2 _ (by omega)]; rw [hp1 _ (by omega)]; rw [hp0 _ (by omega)]; rw [egy26, va_up_ne _ _ (by omega)]; rw [hn2 _ (by omega)]) hap4
  have hpy58 := isPit.mv (ad' := ad) (g' := gp3) (fun j h1 h2 => by rfl) (fun j h1 h2 => by rw [hp3 _ (by omega)]; rw [hp2 _ (by omega)]; rw [hp1 _ (by omega)]; rw [hp0 _ (by omega)]; rw [egy26, va_up_ne _ _ (by omega)]; rw [hn2 _ (by omega)]) hbp4
  refine z_cV (As := [.ref (ad (b + 430))]) (rest := []) (ci := 6) C (c_X4_copyFrom0 l D A cs tt N ad _ (a + 430) (b + 430) (by omega) (by omega) hpy57 hpy58) (by omega) hay10 hpy57.1 rfl rfl mv_yX4_copyFrom q_635 hd_yX4_copyFrom (by decide) (Nat.le_of_ble_eq_true rfl) (by decide) dX6_copyFrom_82 rfl (kV0 fun gp4 hp4 => ?_)
  refine z_iinc (z := 5) (lv' := [(2, .int (zI (5))), (0, .ref (ad a)), (1, .ref (ad b))]) (j := 0) C dX6_copyFrom_85 rfl (congrArg zI (by omega)) (by decide) rfl ?_
  refine z_goto (tgt := 61) C dX6_copyFrom_88 (by decide) ?_
  refine z_iload_n C 0 dX6_copyFrom_61 rfl ?_
  refine z_aload_n C 1 dX6_copyFrom_62 rfl ?_
  have hgy59 := (hp4 (a) (by omega)).trans hgy53
  refine z_get (v := .ref (ad (a + 12))) C (by omega) hay1 hgy59 rfl inA_X6 3 (by decide) q_262 rfl rfl dX6_copyFrom_63 ?_
  have hgy60 := (hp4 (a + 12) (by omega)).trans hgy54
  refine z_alen (z := 6) C (by omega) hay3 hgy60 5 rfl rfl dX6_copyFrom_66 ?_
  refine z_icmp_ge (tgt := 91) C dX6_copyFrom_67 (by decide) (by omega) (by omega) (fun h => absurd h (by omega)) (fun _ => ?_)
  refine z_aload_n C 1 dX6_copyFrom_70 rfl ?_
  refine z_get (v := .ref (ad (a + 12))) C (by omega) hay1 hgy59 rfl inA_X6 3 (by decide) q_262 rfl rfl dX6_copyFrom_71 ?_
  refine z_iload_n C 0 dX6_copyFrom_74 rfl ?_
  refine z_aald C (by omega) hay3 hgy60 5 rfl (5) (by omega) (by omega) (by decide) haq5 dX6_copyFrom_75 ?_
  refine z_aload_n C 2 dX6_copyFrom_76 rfl ?_
  have hgy61 := (hp4 (b) (by omega)).trans hgy55
  refine z_get (v := .ref (ad (b + 12))) C (by omega) hay12 hgy61 rfl inA_X6 3 (by decide) q_262 rfl rfl dX6_copyFrom_77 ?_
  refine z_iload_n C 0 dX6_copyFrom_80 rfl ?_
  have hgy62 := (hp4 (b + 12) (by omega)).trans hgy56
  refine z_aald C (by omega) hay14 hgy62 5 rfl (5) (by omega) (by omega) (by decide) hbq5 dX6_copyFrom_81 ?_
  have hpy63 := isPit.mv (ad' := ad) (g' := gp4) (fun j h1 h2 => by rfl) (fun j h1 h2 => by rw [hp4 _ (by omega)]; rw [hp3 _ (by omega)]; rw [hp2 _ (by omega)]; rw [hp1 _ (by omega)]; rw [hp0 _ (by omega)]; rw [egy26, va_up_ne _ _ (by omega)]; rw [hn2 _ (by omega)]) hap5
  have hpy64 := isPit.mv (ad' := ad) (g' := gp4) (fun j h1 h2 => by rfl) (fun j h1 h2 => by rw [hp4 _ (by omega)]; rw [hp3 _ (by omega)]; rw [hp2 _ (by omega)]; rw [hp1 _ (by omega)]; rw [hp0 _ (by omega)]; rw [egy26, va_up_ne _ _ (by omega)]; rw [hn2 _ (by omega)]) hbp5
  refine z_cV (As := [.ref (ad (b + 433))]) (rest := []) (ci := 6) C (c_X4_copyFrom0 l D A cs tt N ad _ (a + 433) (b + 433) (by omega) (by omega) hpy63 hpy64) (by omega) hay11 hpy63.1 rfl rfl mv_yX4_copyFrom q_635 hd_yX4_copyFrom (by decide) (Nat.le_of_ble_eq_true rfl) (by decide) dX6_copyFrom_82 rfl (kV0 fun gp5 hp5 => ?_)
  refine z_iinc (z := 6) (lv' := [(2, .int (zI (6))), (0, .ref (ad a)), (1, .ref (ad b))]) (j := 0) C dX6_copyFrom_85 rfl (congrArg zI (by omega)) (by decide) rfl ?_
  refine z_goto (tgt := 61) C dX6_copyFrom_88 (by decide) ?_
  refine z_iload_n C 0 dX6_copyFrom_61 rfl ?_
  refine z_aload_n C 1 dX6_copyFrom_62 rfl ?_
  have hgy65 := (hp5 (a) (by omega)).trans hgy59
  refine z_get (v := .ref (ad (a + 12))) C (by omega) hay1 hgy65 rfl inA_X6 3 (by decide) q_262 rfl rfl dX6_copyFrom_63 ?_
  have hgy66 := (hp5 (a + 12) (by omega)).trans hgy60
  refine z_alen (z := 6) C (by omega) hay3 hgy66 5 rfl rfl dX6_copyFrom_66 ?_
  refine z_icmp_ge (tgt := 91) C dX6_copyFrom_67 (by decide) (by omega) (by omega) (fun _ => ?_) (fun h => absurd h (by omega))
  refine z_aload_n C 1 dX6_copyFrom_91 rfl ?_
  refine z_get (v := .ref (ad (a + 13))) C (by omega) hay1 hgy65 rfl inA_X6 4 (by decide) q_264 rfl rfl dX6_copyFrom_92 ?_
  refine z_aload_n C 2 dX6_copyFrom_95 rfl ?_
  have hgy67 := (hp5 (b) (by omega)).trans hgy61
  refine z_get (v := .ref (ad (b + 13))) C (by omega) hay12 hgy67 rfl inA_X6 4 (by decide) q_264 rfl rfl dX6_copyFrom_96 ?_
  have hpy68 := isNotes.mv (ad' := ad) (g' := gp5) (fun j h1 h2 => by rfl) (fun j h1 h2 => by rw [hp5 _ (by omega)]; rw [hp4 _ (by omega)]; rw [hp3 _ (by omega)]; rw [hp2 _ (by omega)]; rw [hp1 _ (by omega)]; rw [hp0 _ (by omega)]; rw [egy26, va_up_ne _ _ (by omega)]; rw [hn2 _ (by omega)]) ha7
  have hpy69 := isNotes.mv (ad' := ad) (g' := gp5) (fun j h1 h2 => by rfl) (fun j h1 h2 => by rw [hp5 _ (by omega)]; rw [hp4 _ (by omega)]; rw [hp3 _ (by omega)]; rw [hp2 _ (by omega)]; rw [hp1 _ (by omega)]; rw [hp0 _ (by omega)]; rw [egy26, va_up_ne _ _ (by omega)]; rw [hn2 _ (by omega)]) hb7
  have hgy70 := (hn2 (a + 13) (by omega)).trans ha7.1
  have hgy71 := up_n egy26 hgy70 (ne_o (i := a) (c := 13) (d := 0) rfl)
  have hgy72 := (hp0 (a + 13) (by omega)).trans hgy71
  have hgy73 := (hp1 (a + 13) (by omega)).trans hgy72
  have hgy74 := (hp2 (a + 13) (by omega)).trans hgy73
  have hgy75 := (hp3 (a + 13) (by omega)).trans hgy74
  have hgy76 := (hp4 (a + 13) (by omega)).trans hgy75
  have hgy77 := (hp5 (a + 13) (by omega)).trans hgy76
  refine z_cV (As := [.ref (ad (b + 13))]) (rest := []) (ci := 4) C (c_X2_copyFrom0 l D A cs tt N ad _ (a + 13) (b + 13) (by omega) (by omega) hpy68 hpy69) (by omega) hay4 hgy77 rfl rfl mv_yX2_copyFrom q_640 hd_yX2_copyFrom (by decide) (Nat.le_of_ble_eq_true rfl) (by decide) dX6_copyFrom_99 rfl (kV0 fun gm hm => ?_)
  refine z_aload_n C 2 dX6_copyFrom_102 rfl ?_
  have hgy78 := (hm (b) (by omega)).trans hgy67
  refine z_get (v := .ref (ad (b + 17))) C (by omega) hay12 hgy78 rfl inA_X6 5 (by decide) q_266 rfl rfl dX6_copyFrom_103 ?_
  refine z_iconst (z := 0) C dX6_copyFrom_106 rfl ?_
  refine z_aload_n C 1 dX6_copyFrom_107 rfl ?_
  have hgy79 := (hm (a) (by omega)).trans hgy65
  refine z_get (v := .ref (ad (a + 17))) C (by omega) hay1 hgy79 rfl inA_X6 5 (by decide) q_266 rfl rfl dX6_copyFrom_108 ?_
  refine z_iconst (z := 0) C dX6_copyFrom_111 rfl ?_
  refine z_aload_n C 1 dX6_copyFrom_112 rfl ?_
  refine z_get (v := .ref (ad (a + 17))) C (by omega) hay1 hgy79 rfl inA_X6 5 (by decide) q_266 rfl rfl dX6_copyFrom_113 ?_
  have hgy80 := (hn2 (a + 17) (by omega)).trans ha8
  have hgy81 := up_n egy26 hgy80 (ne_o (i := a) (c := 17) (d := 0) rfl)
  have hgy82 := (hp0 (a + 17) (by omega)).trans hgy81
  have hgy83 := (hp1 (a + 17) (by omega)).trans hgy82
  have hgy84 := (hp2 (a + 17) (by omega)).trans hgy83
  have hgy85 := (hp3 (a + 17) (by omega)).trans hgy84
  have hgy86 := (hp4 (a + 17) (by omega)).trans hgy85
  have hgy87 := (hp5 (a + 17) (by omega)).trans hgy86
  have hgy88 := (hm (a + 17) (by omega)).trans hgy87
  refine z_alen (z := 3) C (by omega) hay5 hgy88 1 rfl rfl dX6_copyFrom_116 ?_
  have hgy89 := (hn2 (b + 17) (by omega)).trans hb8
  have hgy90 := up_n egy26 hgy89 (by omega)
  have hgy91 := (hp0 (b + 17) (by omega)).trans hgy90
  have hgy92 := (hp1 (b + 17) (by omega)).trans hgy91
  have hgy93 := (hp2 (b + 17) (by omega)).trans hgy92
  have hgy94 := (hp3 (b + 17) (by omega)).trans hgy93
  have hgy95 := (hp4 (b + 17) (by omega)).trans hgy94
  have hgy96 := (hp5 (b + 17) (by omega)).trans hgy95
  have hgy97 := (hm (b + 17) (by omega)).trans hgy96
  refine z_copyI C q_645 q_430 q_429 q_21 (by omega) (by omega) hay16 hay5 hgy97 hgy88 0 0 3 rfl rfl rfl (by decide) (by decide) (by decide) (by decide) (Nat.le_of_ble_eq_true rfl) dX6_copyFrom_117 (fun gy98 egy99 => ?_)
  have hgy100 := up_s egy99
  refine z_ext (r' := fun _ => 0) (by omega) hgy100 (fun j hj => cZ_all hj) (fun gy101 egy102 => ?_)
  have hgy103 := up_s egy102
  exact z_vret C hr hlk dX6_copyFrom_120 (by decide) (by decide) ⟨rfl, rfl, rfl, fun j h1 => by rw [egy102, va_up_ne _ _ (by omega)]; rw [egy99, va_up_ne _ _ (by omega)]; rw [hm _ (by omega)]; rw [hp5 _ (by omega)]; rw [hp4 _ (by omega)]; rw [hp3 _ (by omega)]; rw [hp2 _ (by omega)]; rw [hp1 _ (by omega)]; rw [hp0 _ (by omega)]; rw [egy26, va_up_ne _ _ (by omega)]; rw [hn2 _ (by omega)]⟩

set_option maxRecDepth 100000 in
set_option maxHeartbeats 4000000 in
theorem c_X9_image (l : Launch) (D : va_G) (A : Nat → Prop) (cs : Nat → ClassId) (tt : Nat) (N : Nat) (ad : Nat → Nat) (g : Nat → va_E) (i : Nat) (hN : i + 921 ≤ N) (hR : isRec cs ad g i) : zM l yX9_image cX9_image 1 none ({ frames := 4, cells := 0, slots := 0, locals := 240 } : Room) D A cs tt N ad g [.ref (ad i)] (rV0 N ad fun g' => oR i g g') := by
  obtain ⟨r1, r2, r3, r4, r5, r6, r7, r8, r9, r10, r11, r12⟩ := id hR
  have hay1 : zAt ad (i) (ad i) := rfl
  have hay2 : zAt ad (i + 11) (ad (i + 11)) := rfl
  have hay3 : zAt ad (i + 447) (ad (i + 447)) := rfl
  refine z_of (by decide) (Nat.le_of_ble_eq_true rfl) ?_
  intro p e s m below meth c C hr hlk hnm
  refine z_lv (lv' := [(0, .ref (ad i))]) [0] rfl ?_
  refine z_aload_n C 0 dX9_image_0 rfl ?_
  refine z_get (v := .ref (ad (i + 447))) C (by omega) hay1 r1 rfl inA_X9 6 (by decide) q_355 rfl rfl dX9_image_1 ?_
  refine z_aload_n C 0 dX9_image_4 rfl ?_
  refine z_get (v := .ref (ad (i + 11))) C (by omega) hay1 r1 rfl inA_X9 5 (by decide) q_354 rfl rfl dX9_image_5 ?_
  refine z_cV (As := [.ref (ad (i + 11))]) (rest := []) (ci := 8) C (c_X6_copyFrom0 l D A cs tt N ad _ (i + 447) (i + 11) (by omega) (by omega) r6 r5) (by omega) hay3 r6.1 rfl rfl mv_yX6_copyFrom q_631 hd_yX6_copyFrom (by decide) (Nat.le_of_ble_eq_true rfl) (by decide) dX9_image_8 rfl (kV0 fun ga ha => ?_)
  refine z_aload_n C 0 dX9_image_11 rfl ?_
  refine z_iconst (z := 1) C dX9_image_12 rfl ?_
  have hgy4 := (ha (i) (by omega)).trans r1
  refine z_put (fs' := [.ref (ad (i + 1)), .int (zI (0)), .int (zI (-1)), .ref (ad (i + 2)), .ref (ad (i + 4)), .ref (ad (i + 11)), .ref (ad (i + 447)), .int (zI (1)), .ref (ad (i + 883)), .ref (ad (i + 890)), .ref (ad (i + 900)), .ref (ad (i + 910)), .ref (ad (i + 917)), .ref (ad (i + 919))]) C (by omega) hay1 hgy4 tyX9 tyX9_ok nmX9 rfl inA_X9 7 (by decide) q_356 rfl rfl (by decide) rfl (Nat.le_of_ble_eq_true rfl) rfl dX9_image_13 (fun gy5 egy6 => ?_)
  have hgy7 := up_s egy6
  exact z_vret C hr hlk dX9_image_16 (by decide) (by decide) ⟨rfl, rfl, rfl, fun j h1 => by rw [egy6, va_up_ne _ _ (by omega)]; rw [ha _ (by omega)]⟩

