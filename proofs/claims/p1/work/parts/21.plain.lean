/-- nothing outside the recorder's own roles has changed -/
abbrev oR (i : Nat) (g g' : Nat → va_E) : Prop := ∀ j, j < i ∨ i + 921 ≤ j → g' j = g j
set_option maxRecDepth 100000 in
set_option maxHeartbeats 4000000 in
theorem c_X9_fault (l : Launch) (D : va_G) (A : Nat → Prop) (cs : Nat → ClassId) (tt : Nat) (N : Nat) (ad : Nat → Nat) (g : Nat → va_E) (i : Nat) (hN : i + 921 ≤ N) (hR : isRec cs ad g i) : zM l yX9_fault cX9_fault 1 (some .int) ({ frames := 1, cells := 0, slots := 0, locals := 60 } : Room) D A cs tt N ad g [.ref (ad i)] (rI0 N ad fun r g' => r = -1 ∧ oR i g g') := by
  obtain ⟨r1, r2, r3, r4, r5, r6, r7, r8, r9, r10, r11, r12⟩ := id hR
  have ha1 : zAt ad (i) (ad i) := rfl
  refine z_of (by decide) (Nat.le_of_ble_eq_true rfl) ?_
  intro p e s m below meth c C hr hlk hnm
  refine z_lv (lv' := [(0, .ref (ad i))]) [0] rfl ?_
  refine z_aload_n C 0 dX9_fault_0 rfl ?_
  refine z_get (v := .int (zI (-1))) C (by omega) ha1 r1 rfl inA_X9 2 (by decide) q_351 rfl rfl dX9_fault_1 ?_
  exact z_iret C hr hlk dX9_fault_4 (by decide) (by decide) ⟨-1, rfl, rfl, rfl, rfl, fun j h1 => by rfl⟩

set_option maxRecDepth 100000 in
set_option maxHeartbeats 4000000 in
theorem c_X9_undo (l : Launch) (D : va_G) (A : Nat → Prop) (cs : Nat → ClassId) (tt : Nat) (N : Nat) (ad : Nat → Nat) (g : Nat → va_E) (i : Nat) (hN : i + 921 ≤ N) (hR : isRec cs ad g i) : zM l yX9_undo cX9_undo 1 (some .int) ({ frames := 1, cells := 0, slots := 0, locals := 60 } : Room) D A cs tt N ad g [.ref (ad i)] (rI0 N ad fun r g' => r = -1 ∧ oR i g g') := by
  obtain ⟨r1, r2, r3, r4, r5, r6, r7, r8, r9, r10, r11, r12⟩ := id hR
  have ha1 : zAt ad (i) (ad i) := rfl
  have ha2 : zAt ad (i + 11) (ad (i + 11)) := rfl
  refine z_of (by decide) (Nat.le_of_ble_eq_true rfl) ?_
  intro p e s m below meth c C hr hlk hnm
  refine z_lv (lv' := [(0, .ref (ad i))]) [0] rfl ?_
  refine z_aload_n C 0 dX9_undo_0 rfl ?_
  refine z_get (v := .ref (ad (i + 11))) C (by omega) ha1 r1 rfl inA_X9 5 (by decide) q_354 rfl rfl dX9_undo_1 ?_
  refine z_get (v := .int (zI (0))) C (by omega) ha2 r5.1 rfl inA_X6 2 (by decide) q_261 rfl rfl dX9_undo_4 ?_
  refine z_if_ne (tgt := 12) C dX9_undo_7 (by decide) (by omega) (fun h => absurd h (by omega)) (fun _ => ?_)
  refine z_iconst (z := -1) C dX9_undo_10 rfl ?_
  exact z_iret C hr hlk dX9_undo_11 (by decide) (by decide) ⟨-1, rfl, rfl, rfl, rfl, fun j h1 => by rfl⟩

set_option maxRecDepth 100000 in
set_option maxHeartbeats 4000000 in
theorem c_X9_restore (l : Launch) (D : va_G) (A : Nat → Prop) (cs : Nat → ClassId) (tt : Nat) (N : Nat) (ad : Nat → Nat) (g : Nat → va_E) (i : Nat) (hN : i + 921 ≤ N) (hR : isRec cs ad g i) : zM l yX9_restore cX9_restore 1 (some .boolean) ({ frames := 1, cells := 0, slots := 0, locals := 60 } : Room) D A cs tt N ad g [.ref (ad i)] (rI0 N ad fun r g' => r = 0 ∧ oR i g g') := by
  obtain ⟨r1, r2, r3, r4, r5, r6, r7, r8, r9, r10, r11, r12⟩ := id hR
  have ha1 : zAt ad (i) (ad i) := rfl
  refine z_of (by decide) (Nat.le_of_ble_eq_true rfl) ?_
  intro p e s m below meth c C hr hlk hnm
  refine z_lv (lv' := [(0, .ref (ad i))]) [0] rfl ?_
  refine z_aload_n C 0 dX9_restore_0 rfl ?_
  refine z_get (v := .int (zI (0))) C (by omega) ha1 r1 rfl inA_X9 7 (by decide) q_356 rfl rfl dX9_restore_1 ?_
  refine z_if_ne (tgt := 9) C dX9_restore_4 (by decide) (by omega) (fun h => absurd h (by omega)) (fun _ => ?_)
  refine z_iconst (z := 0) C dX9_restore_7 rfl ?_
  exact z_zret C hr hlk dX9_restore_8 (by decide) (by decide) (by decide) ⟨0, rfl, rfl, rfl, rfl, fun j h1 => by rfl⟩

set_option maxRecDepth 100000 in
set_option maxHeartbeats 4000000 in
theorem c_X9_forget (l : Launch) (D : va_G) (A : Nat → Prop) (cs : Nat → ClassId) (tt : Nat) (N : Nat) (ad : Nat → Nat) (g : Nat → va_E) (i : Nat) (hN : i + 921 ≤ N) (hR : isRec cs ad g i) : zM l yX9_forget cX9_forget 1 none ({ frames := 1, cells := 0, slots := 0, locals := 60 } : Room) D A cs tt N ad g [.ref (ad i)] (rV0 N ad fun g' => oR i g g') := by
  obtain ⟨r1, r2, r3, r4, r5, r6, r7, r8, r9, r10, r11, r12⟩ := id hR
  have ha1 : zAt ad (i) (ad i) := rfl
  have ha2 : zAt ad (i + 11) (ad (i + 11)) := rfl
  have ha3 : zAt ad (i + 11 + 13) (ad (i + 11 + 13)) := rfl
  refine z_of (by decide) (Nat.le_of_ble_eq_true rfl) ?_
  intro p e s m below meth c C hr hlk hnm
  refine z_lv (lv' := [(0, .ref (ad i))]) [0] rfl ?_
  refine z_aload_n C 0 dX9_forget_0 rfl ?_
  refine z_get (v := .ref (ad (i + 11))) C (by omega) ha1 r1 rfl inA_X9 5 (by decide) q_354 rfl rfl dX9_forget_1 ?_
  refine z_get (v := .ref (ad (i + 11 + 13))) C (by omega) ha2 r5.1 rfl inA_X6 4 (by decide) q_265 rfl rfl dX9_forget_4 ?_
  refine z_iconst (z := 0) C dX9_forget_7 rfl ?_
  refine z_put (fs' := [.int (zI (0)), .ref (ad (i + 11 + 13 + 1)), .ref (ad (i + 11 + 13 + 2)), .ref (ad (i + 11 + 13 + 3))]) C (by omega) ha3 r5.2.2.2.2.1.1 tyX2 tyX2_ok nmX2 rfl inA_X2 0 (by decide) q_218 rfl rfl rfl rfl (Nat.le_of_ble_eq_true rfl) rfl dX9_forget_8 (fun g4 eg5 => ?_)
  have hg6 := up_s eg5
  exact z_vret C hr hlk dX9_forget_11 (by decide) (by decide) ⟨rfl, rfl, rfl, fun j h1 => by rw [eg5, va_up_ne _ _ (by omega)]⟩

set_option maxRecDepth 100000 in
set_option maxHeartbeats 4000000 in
theorem c_X9_refuse (l : Launch) (D : va_G) (A : Nat → Prop) (cs : Nat → ClassId) (tt : Nat) (N : Nat) (ad : Nat → Nat) (g : Nat → va_E) (i : Nat) (hN : i + 921 ≤ N) (hR : isRec cs ad g i) (q : Nat) (hq : q < 3) : zM l yX9_refuse cX9_refuse 2 (some .int) ({ frames := 1, cells := 0, slots := 0, locals := 60 } : Room) D A cs tt N ad g [.ref (ad i), .int (zI (q : Int))] (rI0 N ad fun r g' => r = -1 ∧ oR i g g') := by
  obtain ⟨r1, r2, r3, r4, r5, r6, r7, r8, r9, r10, r11, r12⟩ := id hR
  have ha1 : zAt ad (i) (ad i) := rfl
  have ha2 : zAt ad (i + 11) (ad (i + 11)) := rfl
  have ha3 : zAt ad (i + 11 + 17) (ad (i + 11 + 17)) := rfl
  refine z_of (by decide) (Nat.le_of_ble_eq_true rfl) ?_
  intro p e s m below meth c C hr hlk hnm
  refine z_lv (lv' := [(0, .ref (ad i)), (1, .int (zI ((q : Int))))]) [0, 1] rfl ?_
  refine z_aload_n C 0 dX9_refuse_0 rfl ?_
  refine z_get (v := .ref (ad (i + 11))) C (by omega) ha1 r1 rfl inA_X9 5 (by decide) q_354 rfl rfl dX9_refuse_1 ?_
  refine z_get (v := .ref (ad (i + 11 + 17))) C (by omega) ha2 r5.1 rfl inA_X6 5 (by decide) q_267 rfl rfl dX9_refuse_4 ?_
  refine z_iload_n C 1 dX9_refuse_7 rfl ?_
  refine z_dup2 C dX9_refuse_8 rfl rfl ?_
  refine z_iald C (by omega) ha3 r5.2.2.2.2.2.1 (q) rfl hq (by decide) dX9_refuse_9 ?_
  refine z_iconst (z := 1) C dX9_refuse_10 rfl ?_
  refine z_iadd C dX9_refuse_11 ?_
  refine z_iast C (by omega) ha3 r5.2.2.2.2.2.1 (q) rfl hq (by decide) dX9_refuse_12 (fun g4 eg5 => ?_)
  have hg6 := up_s eg5
  refine z_iconst (z := -1) C dX9_refuse_13 rfl ?_
  exact z_iret C hr hlk dX9_refuse_14 (by decide) (by decide) ⟨-1, rfl, rfl, rfl, rfl, fun j h1 => by rw [eg5, va_up_ne _ _ (by omega)]⟩

set_option maxRecDepth 100000 in
set_option maxHeartbeats 4000000 in
theorem c_X9_fall (l : Launch) (D : va_G) (A : Nat → Prop) (cs : Nat → ClassId) (tt : Nat) (N : Nat) (ad : Nat → Nat) (g : Nat → va_E) (i : Nat) (hN : i + 921 ≤ N) (hR : isRec cs ad g i) (z z1 z2 : Int) (hz : -2147483648 ≤ z ∧ z ≤ 2147483647) (hz1 : -2147483648 ≤ z1 ∧ z1 ≤ 2147483647) (hz2 : -2147483648 ≤ z2 ∧ z2 ≤ 2147483647) : zM l yX9_fall cX9_fall 4 (some .int) ({ frames := 3, cells := 0, slots := 0, locals := 180 } : Room) D A cs tt N ad g [.ref (ad i), .int (zI z), .int (zI z1), .int (zI z2)] (rI0 N ad fun r g' => r = -1 ∧ oR i g g') := by
  obtain ⟨r1, r2, r3, r4, r5, r6, r7, r8, r9, r10, r11, r12⟩ := id hR
  have ha1 : zAt ad (i) (ad i) := rfl
  refine z_of (by decide) (Nat.le_of_ble_eq_true rfl) ?_
  intro p e s m below meth c C hr hlk hnm
  refine z_lv (lv' := [(0, .ref (ad i)), (1, .int (zI (z))), (2, .int (zI (z1))), (3, .int (zI (z2)))]) [0, 1, 2, 3] rfl ?_
  refine z_aload_n C 0 dX9_fall_0 rfl ?_
  refine z_iload_n C 1 dX9_fall_1 rfl ?_
  refine z_cV (As := [.int (zI (z))]) (rest := []) (ci := 11) C (c_X9_isSlope l D A cs tt N ad g i hN hR z hz) (by omega) ha1 r1 rfl rfl mv_yX9_isSlope q_537 hd_yX9_isSlope (by decide) (Nat.le_of_ble_eq_true rfl) (by decide) dX9_fall_2 rfl (kI0 fun r0 g0 h0 => ?_)
  obtain ⟨rfl, rfl⟩ := h0
  refine z_if_eq (tgt := 17) C dX9_fall_5 (by decide) (by omega) (fun _ => ?_) (fun h => absurd h (by omega))
  refine z_aload_n C 0 dX9_fall_17 rfl ?_
  refine z_iconst (z := 1) C dX9_fall_18 rfl ?_
  refine z_cV (As := [.int (zI (1))]) (rest := []) (ci := 11) C (c_X9_refuse l D A cs tt N ad _ i hN hR 1 (by decide)) (by omega) ha1 r1 rfl rfl mv_yX9_refuse q_408 hd_yX9_refuse (by decide) (Nat.le_of_ble_eq_true rfl) (by decide) dX9_fall_19 rfl (kI0 fun r1x g1x h1x => ?_)
  obtain ⟨rfl, h1y⟩ := h1x
  exact z_iret C hr hlk dX9_fall_22 (by decide) (by decide) ⟨-1, rfl, rfl, rfl, rfl, h1y⟩

set_option maxRecDepth 100000 in
set_option maxHeartbeats 4000000 in
theorem c_X9_dig (l : Launch) (D : va_G) (A : Nat → Prop) (cs : Nat → ClassId) (tt : Nat) (N : Nat) (ad : Nat → Nat) (g : Nat → va_E) (i : Nat) (hN : i + 921 ≤ N) (hR : isRec cs ad g i) (z : Int) (hz : -2147483648 ≤ z ∧ z ≤ 2147483647) : zM l yX9_dig cX9_dig 2 (some .int) ({ frames := 3, cells := 0, slots := 0, locals := 180 } : Room) D A cs tt N ad g [.ref (ad i), .int (zI z)] (rI0 N ad fun r g' => r = -1 ∧ oR i g g') := by
  obtain ⟨r1, r2, r3, r4, r5, r6, r7, r8, r9, r10, r11, r12⟩ := id hR
  have ha1 : zAt ad (i) (ad i) := rfl
  refine z_of (by decide) (Nat.le_of_ble_eq_true rfl) ?_
  intro p e s m below meth c C hr hlk hnm
  refine z_lv (lv' := [(0, .ref (ad i)), (1, .int (zI (z)))]) [0, 1] rfl ?_
  refine z_aload_n C 0 dX9_dig_0 rfl ?_
  refine z_iload_n C 1 dX9_dig_1 rfl ?_
  refine z_cV (As := [.int (zI (z))]) (rest := []) (ci := 11) C (c_X9_isSlope l D A cs tt N ad g i hN hR z hz) (by omega) ha1 r1 rfl rfl mv_yX9_isSlope q_537 hd_yX9_isSlope (by decide) (Nat.le_of_ble_eq_true rfl) (by decide) dX9_dig_2 rfl (kI0 fun r0 g0 h0 => ?_)
  obtain ⟨rfl, rfl⟩ := h0
  refine z_if_eq (tgt := 26) C dX9_dig_5 (by decide) (by omega) (fun _ => ?_) (fun h => absurd h (by omega))
  refine z_aload_n C 0 dX9_dig_26 rfl ?_
  refine z_iconst (z := 1) C dX9_dig_27 rfl ?_
  refine z_cV (As := [.int (zI (1))]) (rest := []) (ci := 11) C (c_X9_refuse l D A cs tt N ad _ i hN hR 1 (by decide)) (by omega) ha1 r1 rfl rfl mv_yX9_refuse q_408 hd_yX9_refuse (by decide) (Nat.le_of_ble_eq_true rfl) (by decide) dX9_dig_28 rfl (kI0 fun r1x g1x h1x => ?_)
  obtain ⟨rfl, h1y⟩ := h1x
  exact z_iret C hr hlk dX9_dig_31 (by decide) (by decide) ⟨-1, rfl, rfl, rfl, rfl, h1y⟩

set_option maxRecDepth 100000 in
set_option maxHeartbeats 4000000 in
theorem c_X9_slide (l : Launch) (D : va_G) (A : Nat → Prop) (cs : Nat → ClassId) (tt : Nat) (N : Nat) (ad : Nat → Nat) (g : Nat → va_E) (i : Nat) (hN : i + 921 ≤ N) (hR : isRec cs ad g i) (z : Int) (hz : -2147483648 ≤ z ∧ z ≤ 2147483647) : zM l yX9_slide cX9_slide 2 (some .int) ({ frames := 3, cells := 0, slots := 0, locals := 180 } : Room) D A cs tt N ad g [.ref (ad i), .int (zI z)] (rI0 N ad fun r g' => r = -1 ∧ oR i g g') := by
  obtain ⟨r1, r2, r3, r4, r5, r6, r7, r8, r9, r10, r11, r12⟩ := id hR
  have ha1 : zAt ad (i) (ad i) := rfl
  refine z_of (by decide) (Nat.le_of_ble_eq_true rfl) ?_
  intro p e s m below meth c C hr hlk hnm
  refine z_lv (lv' := [(0, .ref (ad i)), (1, .int (zI (z)))]) [0, 1] rfl ?_
  refine z_aload_n C 0 dX9_slide_0 rfl ?_
  refine z_iload_n C 1 dX9_slide_1 rfl ?_
  refine z_cV (As := [.int (zI (z))]) (rest := []) (ci := 11) C (c_X9_isSlope l D A cs tt N ad g i hN hR z hz) (by omega) ha1 r1 rfl rfl mv_yX9_isSlope q_537 hd_yX9_isSlope (by decide) (Nat.le_of_ble_eq_true rfl) (by decide) dX9_slide_2 rfl (kI0 fun r0 g0 h0 => ?_)
  obtain ⟨rfl, rfl⟩ := h0
  refine z_if_eq (tgt := 23) C dX9_slide_5 (by decide) (by omega) (fun _ => ?_) (fun h => absurd h (by omega))
  refine z_aload_n C 0 dX9_slide_23 rfl ?_
  refine z_iconst (z := 1) C dX9_slide_24 rfl ?_
  refine z_cV (As := [.int (zI (1))]) (rest := []) (ci := 11) C (c_X9_refuse l D A cs tt N ad _ i hN hR 1 (by decide)) (by omega) ha1 r1 rfl rfl mv_yX9_refuse q_408 hd_yX9_refuse (by decide) (Nat.le_of_ble_eq_true rfl) (by decide) dX9_slide_25 rfl (kI0 fun r1x g1x h1x => ?_)
  obtain ⟨rfl, h1y⟩ := h1x
  exact z_iret C hr hlk dX9_slide_28 (by decide) (by decide) ⟨-1, rfl, rfl, rfl, rfl, h1y⟩

set_option maxRecDepth 100000 in
set_option maxHeartbeats 4000000 in
theorem c_X9_pit (l : Launch) (D : va_G) (A : Nat → Prop) (cs : Nat → ClassId) (tt : Nat) (N : Nat) (ad : Nat → Nat) (g : Nat → va_E) (i : Nat) (hN : i + 921 ≤ N) (hR : isRec cs ad g i) (z : Int) (hz : -2147483648 ≤ z ∧ z ≤ 2147483647) : zM l yX9_pit cX9_pit 2 (some .int) ({ frames := 3, cells := 0, slots := 0, locals := 180 } : Room) D A cs tt N ad g [.ref (ad i), .int (zI z)] (rI0 N ad fun r g' => r = -1 ∧ oR i g g') := by
  obtain ⟨r1, r2, r3, r4, r5, r6, r7, r8, r9, r10, r11, r12⟩ := id hR
  have ha1 : zAt ad (i) (ad i) := rfl
  refine z_of (by decide) (Nat.le_of_ble_eq_true rfl) ?_
  intro p e s m below meth c C hr hlk hnm
  refine z_lv (lv' := [(0, .ref (ad i)), (1, .int (zI (z)))]) [0, 1] rfl ?_
  refine z_aload_n C 0 dX9_pit_0 rfl ?_
  refine z_iload_n C 1 dX9_pit_1 rfl ?_
  refine z_cV (As := [.int (zI (z))]) (rest := []) (ci := 11) C (c_X9_isSlope l D A cs tt N ad g i hN hR z hz) (by omega) ha1 r1 rfl rfl mv_yX9_isSlope q_537 hd_yX9_isSlope (by decide) (Nat.le_of_ble_eq_true rfl) (by decide) dX9_pit_2 rfl (kI0 fun r0 g0 h0 => ?_)
  obtain ⟨rfl, rfl⟩ := h0
  refine z_if_eq (tgt := 23) C dX9_pit_5 (by decide) (by omega) (fun _ => ?_) (fun h => absurd h (by omega))
  refine z_aload_n C 0 dX9_pit_23 rfl ?_
  refine z_iconst (z := 1) C dX9_pit_24 rfl ?_
  refine z_cV (As := [.int (zI (1))]) (rest := []) (ci := 11) C (c_X9_refuse l D A cs tt N ad _ i hN hR 1 (by decide)) (by omega) ha1 r1 rfl rfl mv_yX9_refuse q_408 hd_yX9_refuse (by decide) (Nat.le_of_ble_eq_true rfl) (by decide) dX9_pit_25 rfl (kI0 fun r1x g1x h1x => ?_)
  obtain ⟨rfl, h1y⟩ := h1x
  exact z_iret C hr hlk dX9_pit_28 (by decide) (by decide) ⟨-1, rfl, rfl, rfl, rfl, h1y⟩

set_option maxRecDepth 100000 in
set_option maxHeartbeats 4000000 in
theorem c_X9_note (l : Launch) (D : va_G) (A : Nat → Prop) (cs : Nat → ClassId) (tt : Nat) (N : Nat) (ad : Nat → Nat) (g : Nat → va_E) (i : Nat) (hN : i + 921 ≤ N) (hR : isRec cs ad g i) (z z1 z2 : Int) (hz : -2147483648 ≤ z ∧ z ≤ 2147483647) (hz1 : -2147483648 ≤ z1 ∧ z1 ≤ 2147483647) (hz2 : -2147483648 ≤ z2 ∧ z2 ≤ 2147483647) : zM l yX9_note cX9_note 5 (some .int) ({ frames := 3, cells := 0, slots := 0, locals := 180 } : Room) D A cs tt N ad g [.ref (ad i), .int (zI z), .int (zI z1), .int (zI z2)] (rI0 N ad fun r g' => r = -1 ∧ oR i g g') := by
  obtain ⟨r1, r2, r3, r4, r5, r6, r7, r8, r9, r10, r11, r12⟩ := id hR
  have ha1 : zAt ad (i) (ad i) := rfl
  refine z_of (by decide) (Nat.le_of_ble_eq_true rfl) ?_
  intro p e s m below meth c C hr hlk hnm
  refine z_lv (lv' := [(0, .ref (ad i)), (1, .int (zI (z))), (2, .int (zI (z1))), (3, .int (zI (z2)))]) [0, 1, 2, 3] rfl ?_
  refine z_aload_n C 0 dX9_note_0 rfl ?_
  refine z_iload_n C 1 dX9_note_1 rfl ?_
  refine z_cV (As := [.int (zI (z))]) (rest := []) (ci := 11) C (c_X9_isSlope l D A cs tt N ad g i hN hR z hz) (by omega) ha1 r1 rfl rfl mv_yX9_isSlope q_537 hd_yX9_isSlope (by decide) (Nat.le_of_ble_eq_true rfl) (by decide) dX9_note_2 rfl (kI0 fun r0 g0 h0 => ?_)
  obtain ⟨rfl, rfl⟩ := h0
  refine z_if_eq (tgt := 33) C dX9_note_5 (by decide) (by omega) (fun _ => ?_) (fun h => absurd h (by omega))
  refine z_iconst (z := 0) C dX9_note_33 rfl ?_
  refine z_istore (lv' := [(4, .int (zI (0))), (0, .ref (ad i)), (1, .int (zI (z))), (2, .int (zI (z1))), (3, .int (zI (z2)))]) C dX9_note_34 (by decide) rfl ?_
  refine z_iload C 0 dX9_note_36 rfl ?_
  refine z_if_eq (tgt := 56) C dX9_note_38 (by decide) (by omega) (fun _ => ?_) (fun h => absurd h (by omega))
  refine z_aload_n C 1 dX9_note_56 rfl ?_
  refine z_iconst (z := 2) C dX9_note_57 rfl ?_
  refine z_cV (As := [.int (zI (2))]) (rest := []) (ci := 11) C (c_X9_refuse l D A cs tt N ad _ i hN hR 2 (by decide)) (by omega) ha1 r1 rfl rfl mv_yX9_refuse q_408 hd_yX9_refuse (by decide) (Nat.le_of_ble_eq_true rfl) (by decide) dX9_note_58 rfl (kI0 fun r1x g1x h1x => ?_)
  obtain ⟨rfl, h1y⟩ := h1x
  exact z_iret C hr hlk dX9_note_61 (by decide) (by decide) ⟨-1, rfl, rfl, rfl, rfl, h1y⟩

