set_option maxRecDepth 100000 in
set_option maxHeartbeats 4000000 in
theorem c_X9_isSlope (l : Launch) (D : va_G) (A : Nat → Prop) (cs : Nat → ClassId) (tt : Nat) (N : Nat) (ad : Nat → Nat) (g : Nat → va_E) (i : Nat) (hN : i + 921 ≤ N) (hR : isRec cs ad g i) (z : Int) (hz : -2147483648 ≤ z ∧ z ≤ 2147483647) : zM l yX9_isSlope cX9_isSlope 2 (some .boolean) ({ frames := 1, cells := 0, slots := 0, locals := 60 } : Room) D A cs tt N ad g [.ref (ad i), .int (zI z)] (rI0 N ad fun r g' => r = 0 ∧ g' = g) := by
  obtain ⟨r1, r2, r3, r4, r5, r6, r7, r8, r9, r10, r11, r12⟩ := id hR
  have ha1 : zAt ad (i) (ad i) := rfl
  have ha2 : zAt ad (i + 4) (ad (i + 4)) := rfl
  refine z_of (by decide) (Nat.le_of_ble_eq_true rfl) ?_
  intro p e s m below meth c C hr hlk hnm
  refine z_lv (lv' := [(0, .ref (ad i)), (1, .int (zI (z)))]) [0, 1] rfl ?_
  refine z_iload_n C 1 dX9_isSlope_0 rfl ?_
  refine z_if_lt (tgt := 19) C dX9_isSlope_1 (by decide) (by omega) (fun h1 => ?_) (fun h1 => ?_)
  · refine z_iconst (z := 0) C dX9_isSlope_19 rfl ?_
    exact z_zret C hr hlk dX9_isSlope_20 (by decide) (by decide) (by decide) ⟨0, rfl, rfl, rfl, rfl, rfl⟩
  · refine z_iload_n C 1 dX9_isSlope_4 rfl ?_
    refine z_aload_n C 0 dX9_isSlope_5 rfl ?_
    refine z_get (v := .ref (ad (i + 4))) C (by omega) ha1 r1 rfl inA_X9 4 (by decide) q_353 rfl rfl dX9_isSlope_6 ?_
    refine z_get (v := .int (zI (0))) C (by omega) ha2 r4.1 rfl inA_X5 0 (by decide) q_90 rfl rfl dX9_isSlope_9 ?_
    refine z_icmp_ge (tgt := 19) C dX9_isSlope_12 (by decide) (by omega) (by omega) (fun _ => ?_) (fun h => absurd h (by omega))
    refine z_iconst (z := 0) C dX9_isSlope_19 rfl ?_
    exact z_zret C hr hlk dX9_isSlope_20 (by decide) (by decide) (by decide) ⟨0, rfl, rfl, rfl, rfl, rfl⟩

set_option maxRecDepth 100000 in
set_option maxHeartbeats 4000000 in
theorem c_X9_needSlope (l : Launch) (D : va_G) (A : Nat → Prop) (cs : Nat → ClassId) (tt : Nat) (N : Nat) (ad : Nat → Nat) (g : Nat → va_E) (i : Nat) (hN : i + 921 ≤ N) (hR : isRec cs ad g i) (hl0 : l.stackTraces = false) (z : Int) (hz : -2147483648 ≤ z ∧ z ≤ 2147483647) : zMX l yX9_needSlope cX9_needSlope 2 none ({ frames := 6, cells := 1, slots := 6, locals := 360 } : Room) D A cs tt N ad g [.ref (ad i), .int (zI z)] (rV0 N ad fun _ => False) (xE N ad g eNS) := by
  obtain ⟨r1, r2, r3, r4, r5, r6, r7, r8, r9, r10, r11, r12⟩ := id hR
  have ha1 : zAt ad (i) (ad i) := rfl
  refine z_ofX (by decide) (Nat.le_of_ble_eq_true rfl) ?_
  intro p e s m below meth c C hr hlk hxt
  refine z_lv (lv' := [(0, .ref (ad i)), (1, .int (zI (z)))]) [0, 1] rfl ?_
  refine z_aload_n C 0 dX9_needSlope_0 rfl ?_
  refine z_iload_n C 1 dX9_needSlope_1 rfl ?_
  refine z_cV (As := [.int (zI (z))]) (rest := []) (ci := 11) C (c_X9_isSlope l D A cs tt N ad g i hN hR z hz) (by omega) ha1 r1 rfl rfl mv_yX9_isSlope q_537 hd_yX9_isSlope (by decide) (Nat.le_of_ble_eq_true rfl) (by decide) dX9_needSlope_2 rfl (kI0 fun r0 g0 h0 => ?_)
  obtain ⟨rfl, rfl⟩ := h0
  refine z_if_ne (tgt := 19) C dX9_needSlope_5 (by decide) (by omega) (fun h => absurd h (by omega)) (fun _ => ?_)
  exact z_thrNW (cls := eNS) (text := "no such slope") C hl0 (ix := 13) (rx := nsB) ns0 ns1 ns2 ns5 (by decide +kernel) q_904 q_24 (by decide +kernel) at_NS gd_NS dX9_needSlope_8 dX9_needSlope_11 dX9_needSlope_12 dX9_needSlope_15 dX9_needSlope_18 hxt (by decide) (Nat.le_of_ble_eq_true rfl) (by decide) (by decide) hlk (by decide) (by decide) ⟨rfl, rfl, rfl, rfl⟩

set_option maxRecDepth 100000 in
set_option maxHeartbeats 4000000 in
theorem c_X9_packOf (l : Launch) (D : va_G) (A : Nat → Prop) (cs : Nat → ClassId) (tt : Nat) (N : Nat) (ad : Nat → Nat) (g : Nat → va_E) (i : Nat) (hN : i + 921 ≤ N) (hR : isRec cs ad g i) (hl0 : l.stackTraces = false) (z : Int) (hz : -2147483648 ≤ z ∧ z ≤ 2147483647) : zMX l yX9_packOf cX9_packOf 2 (some (.object "SnowRecorder$Pack")) ({ frames := 7, cells := 1, slots := 6, locals := 420 } : Room) D A cs tt N ad g [.ref (ad i), .int (zI z)] (rR0 N ad fun _ _ => False) (xE N ad g eNS) := by
  obtain ⟨r1, r2, r3, r4, r5, r6, r7, r8, r9, r10, r11, r12⟩ := id hR
  have ha1 : zAt ad (i) (ad i) := rfl
  refine z_ofX (by decide) (Nat.le_of_ble_eq_true rfl) ?_
  intro p e s m below meth c C hr hlk hxt
  refine z_lv (lv' := [(0, .ref (ad i)), (1, .int (zI (z)))]) [0, 1] rfl ?_
  refine z_aload_n C 0 dX9_packOf_0 rfl ?_
  refine z_iload_n C 1 dX9_packOf_1 rfl ?_
  refine z_cVX (As := [.int (zI (z))]) (rest := []) (ci := 11) C (c_X9_needSlope l D A cs tt N ad g i hN hR hl0 z hz) (by omega) ha1 r1 rfl rfl mv_yX9_needSlope q_940 hd_yX9_needSlope (by decide) (Nat.le_of_ble_eq_true rfl) (by decide) dX9_packOf_2 rfl (fun E N' ad' g' h => by obtain ⟨rfl, rfl, rfl, rfl⟩ := h; exact z_uout C hxt hlk (by decide) (by decide) ⟨rfl, rfl, rfl, rfl⟩) (fun r N' ad' g' h => h.2.2.2.elim)

set_option maxRecDepth 100000 in
set_option maxHeartbeats 4000000 in
theorem c_X9_needPit (l : Launch) (D : va_G) (A : Nat → Prop) (cs : Nat → ClassId) (tt : Nat) (N : Nat) (ad : Nat → Nat) (g : Nat → va_E) (i : Nat) (hN : i + 921 ≤ N) (hR : isRec cs ad g i) (hl0 : l.stackTraces = false) (z : Int) (hz : -2147483648 ≤ z ∧ z ≤ 2147483647) : zMX l yX9_needPit cX9_needPit 2 none ({ frames := 6, cells := 1, slots := 6, locals := 360 } : Room) D A cs tt N ad g [.ref (ad i), .int (zI z)] (rV0 N ad fun _ => False) (xE N ad g eNS) := by
  obtain ⟨r1, r2, r3, r4, r5, r6, r7, r8, r9, r10, r11, r12⟩ := id hR
  have ha1 : zAt ad (i) (ad i) := rfl
  have ha2 : zAt ad (i + 11) (ad (i + 11)) := rfl
  have ha3 : zAt ad (i + 11 + 1) (ad (i + 11 + 1)) := rfl
  refine z_ofX (by decide) (Nat.le_of_ble_eq_true rfl) ?_
  intro p e s m below meth c C hr hlk hxt
  refine z_lv (lv' := [(0, .ref (ad i)), (1, .int (zI (z)))]) [0, 1] rfl ?_
  refine z_iload_n C 1 dX9_needPit_0 rfl ?_
  refine z_if_lt (tgt := 18) C dX9_needPit_1 (by decide) (by omega) (fun h1 => ?_) (fun h1 => ?_)
  · exact z_thrNW (cls := eNS) (text := "no such pit") C hl0 (ix := 13) (rx := nsB) ns0 ns1 ns2 ns5 (by decide +kernel) q_904 q_24 (by decide +kernel) at_NS gd_NS dX9_needPit_18 dX9_needPit_21 dX9_needPit_22 dX9_needPit_25 dX9_needPit_28 hxt (by decide) (Nat.le_of_ble_eq_true rfl) (by decide) (by decide) hlk (by decide) (by decide) ⟨rfl, rfl, rfl, rfl⟩
  · refine z_iload_n C 1 dX9_needPit_4 rfl ?_
    refine z_aload_n C 0 dX9_needPit_5 rfl ?_
    refine z_get (v := .ref (ad (i + 11))) C (by omega) ha1 r1 rfl inA_X9 5 (by decide) q_354 rfl rfl dX9_needPit_6 ?_
    refine z_get (v := .ref (ad (i + 11 + 1))) C (by omega) ha2 r5.1 rfl inA_X6 0 (by decide) q_258 rfl rfl dX9_needPit_9 ?_
    refine z_get (v := .int (zI (0))) C (by omega) ha3 r5.2.1.1 rfl inA_X8 5 (by decide) q_186 rfl rfl dX9_needPit_12 ?_
    refine z_icmp_lt (tgt := 29) C dX9_needPit_15 (by decide) (by omega) (by omega) (fun h => absurd h (by omega)) (fun _ => ?_)
    exact z_thrNW (cls := eNS) (text := "no such pit") C hl0 (ix := 13) (rx := nsB) ns0 ns1 ns2 ns5 (by decide +kernel) q_904 q_24 (by decide +kernel) at_NS gd_NS dX9_needPit_18 dX9_needPit_21 dX9_needPit_22 dX9_needPit_25 dX9_needPit_28 hxt (by decide) (Nat.le_of_ble_eq_true rfl) (by decide) (by decide) hlk (by decide) (by decide) ⟨rfl, rfl, rfl, rfl⟩

set_option maxRecDepth 100000 in
set_option maxHeartbeats 4000000 in
theorem c_X9_slope (l : Launch) (D : va_G) (A : Nat → Prop) (cs : Nat → ClassId) (tt : Nat) (N : Nat) (ad : Nat → Nat) (g : Nat → va_E) (i : Nat) (hN : i + 921 ≤ N) (hR : isRec cs ad g i) (hl0 : l.stackTraces = false) (z z1 : Int) (hz : -2147483648 ≤ z ∧ z ≤ 2147483647) (hz1 : -2147483648 ≤ z1 ∧ z1 ≤ 2147483647) : zMX l yX9_slope cX9_slope 5 (some .int) ({ frames := 8, cells := 1, slots := 6, locals := 480 } : Room) D A cs tt N ad g [.ref (ad i), .int (zI z), .int (zI z1)] (rI0 N ad fun _ _ => False) (xE N ad g eNS) := by
  obtain ⟨r1, r2, r3, r4, r5, r6, r7, r8, r9, r10, r11, r12⟩ := id hR
  have ha1 : zAt ad (i) (ad i) := rfl
  refine z_ofX (by decide) (Nat.le_of_ble_eq_true rfl) ?_
  intro p e s m below meth c C hr hlk hxt
  refine z_lv (lv' := [(0, .ref (ad i)), (1, .int (zI (z))), (2, .int (zI (z1)))]) [0, 1, 2] rfl ?_
  refine z_aload_n C 0 dX9_slope_0 rfl ?_
  refine z_iload_n C 1 dX9_slope_1 rfl ?_
  refine z_cVX (As := [.int (zI (z))]) (rest := []) (ci := 11) C (c_X9_packOf l D A cs tt N ad g i hN hR hl0 z hz) (by omega) ha1 r1 rfl rfl mv_yX9_packOf q_936 hd_yX9_packOf (by decide) (Nat.le_of_ble_eq_true rfl) (by decide) dX9_slope_2 rfl (fun E N' ad' g' h => by obtain ⟨rfl, rfl, rfl, rfl⟩ := h; exact z_uout C hxt hlk (by decide) (by decide) ⟨rfl, rfl, rfl, rfl⟩) (fun r N' ad' g' h => h.choose_spec.2.2.2.elim)

set_option maxRecDepth 100000 in
set_option maxHeartbeats 4000000 in
theorem c_X9_layer (l : Launch) (D : va_G) (A : Nat → Prop) (cs : Nat → ClassId) (tt : Nat) (N : Nat) (ad : Nat → Nat) (g : Nat → va_E) (i : Nat) (hN : i + 921 ≤ N) (hR : isRec cs ad g i) (hl0 : l.stackTraces = false) (z z1 z2 : Int) (hz : -2147483648 ≤ z ∧ z ≤ 2147483647) (hz1 : -2147483648 ≤ z1 ∧ z1 ≤ 2147483647) (hz2 : -2147483648 ≤ z2 ∧ z2 ≤ 2147483647) : zMX l yX9_layer cX9_layer 6 (some .int) ({ frames := 8, cells := 1, slots := 6, locals := 480 } : Room) D A cs tt N ad g [.ref (ad i), .int (zI z), .int (zI z1), .int (zI z2)] (rI0 N ad fun _ _ => False) (xE N ad g eNS) := by
  obtain ⟨r1, r2, r3, r4, r5, r6, r7, r8, r9, r10, r11, r12⟩ := id hR
  have ha1 : zAt ad (i) (ad i) := rfl
  refine z_ofX (by decide) (Nat.le_of_ble_eq_true rfl) ?_
  intro p e s m below meth c C hr hlk hxt
  refine z_lv (lv' := [(0, .ref (ad i)), (1, .int (zI (z))), (2, .int (zI (z1))), (3, .int (zI (z2)))]) [0, 1, 2, 3] rfl ?_
  refine z_aload_n C 0 dX9_layer_0 rfl ?_
  refine z_iload_n C 1 dX9_layer_1 rfl ?_
  refine z_cVX (As := [.int (zI (z))]) (rest := []) (ci := 11) C (c_X9_packOf l D A cs tt N ad g i hN hR hl0 z hz) (by omega) ha1 r1 rfl rfl mv_yX9_packOf q_936 hd_yX9_packOf (by decide) (Nat.le_of_ble_eq_true rfl) (by decide) dX9_layer_2 rfl (fun E N' ad' g' h => by obtain ⟨rfl, rfl, rfl, rfl⟩ := h; exact z_uout C hxt hlk (by decide) (by decide) ⟨rfl, rfl, rfl, rfl⟩) (fun r N' ad' g' h => h.choose_spec.2.2.2.elim)

set_option maxRecDepth 100000 in
set_option maxHeartbeats 4000000 in
theorem c_X9_told (l : Launch) (D : va_G) (A : Nat → Prop) (cs : Nat → ClassId) (tt : Nat) (N : Nat) (ad : Nat → Nat) (g : Nat → va_E) (i : Nat) (hN : i + 921 ≤ N) (hR : isRec cs ad g i) (hl0 : l.stackTraces = false) (z z1 z2 : Int) (hz : -2147483648 ≤ z ∧ z ≤ 2147483647) (hz1 : -2147483648 ≤ z1 ∧ z1 ≤ 2147483647) (hz2 : -2147483648 ≤ z2 ∧ z2 ≤ 2147483647) : zMX l yX9_told cX9_told 5 (some .int) ({ frames := 8, cells := 1, slots := 6, locals := 480 } : Room) D A cs tt N ad g [.ref (ad i), .int (zI z), .int (zI z1), .int (zI z2)] (rI0 N ad fun _ _ => False) (xE N ad g eNS) := by
  obtain ⟨r1, r2, r3, r4, r5, r6, r7, r8, r9, r10, r11, r12⟩ := id hR
  have ha1 : zAt ad (i) (ad i) := rfl
  refine z_ofX (by decide) (Nat.le_of_ble_eq_true rfl) ?_
  intro p e s m below meth c C hr hlk hxt
  refine z_lv (lv' := [(0, .ref (ad i)), (1, .int (zI (z))), (2, .int (zI (z1))), (3, .int (zI (z2)))]) [0, 1, 2, 3] rfl ?_
  refine z_aload_n C 0 dX9_told_0 rfl ?_
  refine z_iload_n C 1 dX9_told_1 rfl ?_
  refine z_cVX (As := [.int (zI (z))]) (rest := []) (ci := 11) C (c_X9_packOf l D A cs tt N ad g i hN hR hl0 z hz) (by omega) ha1 r1 rfl rfl mv_yX9_packOf q_936 hd_yX9_packOf (by decide) (Nat.le_of_ble_eq_true rfl) (by decide) dX9_told_2 rfl (fun E N' ad' g' h => by obtain ⟨rfl, rfl, rfl, rfl⟩ := h; exact z_uout C hxt hlk (by decide) (by decide) ⟨rfl, rfl, rfl, rfl⟩) (fun r N' ad' g' h => h.choose_spec.2.2.2.elim)

set_option maxRecDepth 100000 in
set_option maxHeartbeats 4000000 in
theorem c_X9_then (l : Launch) (D : va_G) (A : Nat → Prop) (cs : Nat → ClassId) (tt : Nat) (N : Nat) (ad : Nat → Nat) (g : Nat → va_E) (i : Nat) (hN : i + 921 ≤ N) (hR : isRec cs ad g i) (hl0 : l.stackTraces = false) (z z1 z2 : Int) (hz : -2147483648 ≤ z ∧ z ≤ 2147483647) (hz1 : -2147483648 ≤ z1 ∧ z1 ≤ 2147483647) (hz2 : -2147483648 ≤ z2 ∧ z2 ≤ 2147483647) : zMX l yX9_then cX9_then 6 (some .int) ({ frames := 8, cells := 1, slots := 6, locals := 480 } : Room) D A cs tt N ad g [.ref (ad i), .int (zI z), .int (zI z1), .int (zI z2)] (rI0 N ad fun _ _ => False) (xE N ad g eNS) := by
  obtain ⟨r1, r2, r3, r4, r5, r6, r7, r8, r9, r10, r11, r12⟩ := id hR
  have ha1 : zAt ad (i) (ad i) := rfl
  refine z_ofX (by decide) (Nat.le_of_ble_eq_true rfl) ?_
  intro p e s m below meth c C hr hlk hxt
  refine z_lv (lv' := [(0, .ref (ad i)), (1, .int (zI (z))), (2, .int (zI (z1))), (3, .int (zI (z2)))]) [0, 1, 2, 3] rfl ?_
  refine z_aload_n C 0 dX9_then_0 rfl ?_
  refine z_iload_n C 1 dX9_then_1 rfl ?_
  refine z_cVX (As := [.int (zI (z))]) (rest := []) (ci := 11) C (c_X9_needSlope l D A cs tt N ad g i hN hR hl0 z hz) (by omega) ha1 r1 rfl rfl mv_yX9_needSlope q_940 hd_yX9_needSlope (by decide) (Nat.le_of_ble_eq_true rfl) (by decide) dX9_then_2 rfl (fun E N' ad' g' h => by obtain ⟨rfl, rfl, rfl, rfl⟩ := h; exact z_uout C hxt hlk (by decide) (by decide) ⟨rfl, rfl, rfl, rfl⟩) (fun r N' ad' g' h => h.2.2.2.elim)

set_option maxRecDepth 100000 in
set_option maxHeartbeats 4000000 in
theorem c_X9_once (l : Launch) (D : va_G) (A : Nat → Prop) (cs : Nat → ClassId) (tt : Nat) (N : Nat) (ad : Nat → Nat) (g : Nat → va_E) (i : Nat) (hN : i + 921 ≤ N) (hR : isRec cs ad g i) (hl0 : l.stackTraces = false) (z z1 : Int) (hz : -2147483648 ≤ z ∧ z ≤ 2147483647) (hz1 : -2147483648 ≤ z1 ∧ z1 ≤ 2147483647) : zMX l yX9_once cX9_once 5 (some .int) ({ frames := 8, cells := 1, slots := 6, locals := 480 } : Room) D A cs tt N ad g [.ref (ad i), .int (zI z), .int (zI z1)] (rI0 N ad fun _ _ => False) (xE N ad g eNS) := by
  obtain ⟨r1, r2, r3, r4, r5, r6, r7, r8, r9, r10, r11, r12⟩ := id hR
  have ha1 : zAt ad (i) (ad i) := rfl
  refine z_ofX (by decide) (Nat.le_of_ble_eq_true rfl) ?_
  intro p e s m below meth c C hr hlk hxt
  refine z_lv (lv' := [(0, .ref (ad i)), (1, .int (zI (z))), (2, .int (zI (z1)))]) [0, 1, 2] rfl ?_
  refine z_aload_n C 0 dX9_once_0 rfl ?_
  refine z_iload_n C 1 dX9_once_1 rfl ?_
  refine z_cVX (As := [.int (zI (z))]) (rest := []) (ci := 11) C (c_X9_needSlope l D A cs tt N ad g i hN hR hl0 z hz) (by omega) ha1 r1 rfl rfl mv_yX9_needSlope q_940 hd_yX9_needSlope (by decide) (Nat.le_of_ble_eq_true rfl) (by decide) dX9_once_2 rfl (fun E N' ad' g' h => by obtain ⟨rfl, rfl, rfl, rfl⟩ := h; exact z_uout C hxt hlk (by decide) (by decide) ⟨rfl, rfl, rfl, rfl⟩) (fun r N' ad' g' h => h.2.2.2.elim)

set_option maxRecDepth 100000 in
set_option maxHeartbeats 4000000 in
theorem c_X9_stands (l : Launch) (D : va_G) (A : Nat → Prop) (cs : Nat → ClassId) (tt : Nat) (N : Nat) (ad : Nat → Nat) (g : Nat → va_E) (i : Nat) (hN : i + 921 ≤ N) (hR : isRec cs ad g i) (hl0 : l.stackTraces = false) (z z1 : Int) (hz : -2147483648 ≤ z ∧ z ≤ 2147483647) (hz1 : -2147483648 ≤ z1 ∧ z1 ≤ 2147483647) : zMX l yX9_stands cX9_stands 6 (some .int) ({ frames := 8, cells := 1, slots := 6, locals := 480 } : Room) D A cs tt N ad g [.ref (ad i), .int (zI z), .int (zI z1)] (rI0 N ad fun _ _ => False) (xE N ad g eNS) := by
  obtain ⟨r1, r2, r3, r4, r5, r6, r7, r8, r9, r10, r11, r12⟩ := id hR
  have ha1 : zAt ad (i) (ad i) := rfl
  refine z_ofX (by decide) (Nat.le_of_ble_eq_true rfl) ?_
  intro p e s m below meth c C hr hlk hxt
  refine z_lv (lv' := [(0, .ref (ad i)), (1, .int (zI (z))), (2, .int (zI (z1)))]) [0, 1, 2] rfl ?_
  refine z_aload_n C 0 dX9_stands_0 rfl ?_
  refine z_iload_n C 1 dX9_stands_1 rfl ?_
  refine z_cVX (As := [.int (zI (z))]) (rest := []) (ci := 11) C (c_X9_packOf l D A cs tt N ad g i hN hR hl0 z hz) (by omega) ha1 r1 rfl rfl mv_yX9_packOf q_936 hd_yX9_packOf (by decide) (Nat.le_of_ble_eq_true rfl) (by decide) dX9_stands_2 rfl (fun E N' ad' g' h => by obtain ⟨rfl, rfl, rfl, rfl⟩ := h; exact z_uout C hxt hlk (by decide) (by decide) ⟨rfl, rfl, rfl, rfl⟩) (fun r N' ad' g' h => h.choose_spec.2.2.2.elim)

set_option maxRecDepth 100000 in
set_option maxHeartbeats 4000000 in
theorem c_X9_toLoad (l : Launch) (D : va_G) (A : Nat → Prop) (cs : Nat → ClassId) (tt : Nat) (N : Nat) (ad : Nat → Nat) (g : Nat → va_E) (i : Nat) (hN : i + 921 ≤ N) (hR : isRec cs ad g i) (hl0 : l.stackTraces = false) (z : Int) (hz : -2147483648 ≤ z ∧ z ≤ 2147483647) : zMX l yX9_toLoad cX9_toLoad 4 (some .int) ({ frames := 8, cells := 1, slots := 6, locals := 480 } : Room) D A cs tt N ad g [.ref (ad i), .int (zI z)] (rI0 N ad fun _ _ => False) (xE N ad g eNS) := by
  obtain ⟨r1, r2, r3, r4, r5, r6, r7, r8, r9, r10, r11, r12⟩ := id hR
  have ha1 : zAt ad (i) (ad i) := rfl
  refine z_ofX (by decide) (Nat.le_of_ble_eq_true rfl) ?_
  intro p e s m below meth c C hr hlk hxt
  refine z_lv (lv' := [(0, .ref (ad i)), (1, .int (zI (z)))]) [0, 1] rfl ?_
  refine z_aload_n C 0 dX9_toLoad_0 rfl ?_
  refine z_iload_n C 1 dX9_toLoad_1 rfl ?_
  refine z_cVX (As := [.int (zI (z))]) (rest := []) (ci := 11) C (c_X9_packOf l D A cs tt N ad g i hN hR hl0 z hz) (by omega) ha1 r1 rfl rfl mv_yX9_packOf q_936 hd_yX9_packOf (by decide) (Nat.le_of_ble_eq_true rfl) (by decide) dX9_toLoad_2 rfl (fun E N' ad' g' h => by obtain ⟨rfl, rfl, rfl, rfl⟩ := h; exact z_uout C hxt hlk (by decide) (by decide) ⟨rfl, rfl, rfl, rfl⟩) (fun r N' ad' g' h => h.choose_spec.2.2.2.elim)

set_option maxRecDepth 100000 in
set_option maxHeartbeats 4000000 in
theorem c_X9_steepest (l : Launch) (D : va_G) (A : Nat → Prop) (cs : Nat → ClassId) (tt : Nat) (N : Nat) (ad : Nat → Nat) (g : Nat → va_E) (i : Nat) (hN : i + 921 ≤ N) (hR : isRec cs ad g i) (hl0 : l.stackTraces = false) (z : Int) (hz : -2147483648 ≤ z ∧ z ≤ 2147483647) : zMX l yX9_steepest cX9_steepest 4 (some .int) ({ frames := 8, cells := 1, slots := 6, locals := 480 } : Room) D A cs tt N ad g [.ref (ad i), .int (zI z)] (rI0 N ad fun _ _ => False) (xE N ad g eNS) := by
  obtain ⟨r1, r2, r3, r4, r5, r6, r7, r8, r9, r10, r11, r12⟩ := id hR
  have ha1 : zAt ad (i) (ad i) := rfl
  refine z_ofX (by decide) (Nat.le_of_ble_eq_true rfl) ?_
  intro p e s m below meth c C hr hlk hxt
  refine z_lv (lv' := [(0, .ref (ad i)), (1, .int (zI (z)))]) [0, 1] rfl ?_
  refine z_aload_n C 0 dX9_steepest_0 rfl ?_
  refine z_iload_n C 1 dX9_steepest_1 rfl ?_
  refine z_cVX (As := [.int (zI (z))]) (rest := []) (ci := 11) C (c_X9_packOf l D A cs tt N ad g i hN hR hl0 z hz) (by omega) ha1 r1 rfl rfl mv_yX9_packOf q_936 hd_yX9_packOf (by decide) (Nat.le_of_ble_eq_true rfl) (by decide) dX9_steepest_2 rfl (fun E N' ad' g' h => by obtain ⟨rfl, rfl, rfl, rfl⟩ := h; exact z_uout C hxt hlk (by decide) (by decide) ⟨rfl, rfl, rfl, rfl⟩) (fun r N' ad' g' h => h.choose_spec.2.2.2.elim)

set_option maxRecDepth 100000 in
set_option maxHeartbeats 4000000 in
theorem c_X9_toWarm (l : Launch) (D : va_G) (A : Nat → Prop) (cs : Nat → ClassId) (tt : Nat) (N : Nat) (ad : Nat → Nat) (g : Nat → va_E) (i : Nat) (hN : i + 921 ≤ N) (hR : isRec cs ad g i) (hl0 : l.stackTraces = false) (z z1 : Int) (hz : -2147483648 ≤ z ∧ z ≤ 2147483647) (hz1 : -2147483648 ≤ z1 ∧ z1 ≤ 2147483647) : zMX l yX9_toWarm cX9_toWarm 4 (some .int) ({ frames := 8, cells := 1, slots := 6, locals := 480 } : Room) D A cs tt N ad g [.ref (ad i), .int (zI z), .int (zI z1)] (rI0 N ad fun _ _ => False) (xE N ad g eNS) := by
  obtain ⟨r1, r2, r3, r4, r5, r6, r7, r8, r9, r10, r11, r12⟩ := id hR
  have ha1 : zAt ad (i) (ad i) := rfl
  refine z_ofX (by decide) (Nat.le_of_ble_eq_true rfl) ?_
  intro p e s m below meth c C hr hlk hxt
  refine z_lv (lv' := [(0, .ref (ad i)), (1, .int (zI (z))), (2, .int (zI (z1)))]) [0, 1, 2] rfl ?_
  refine z_aload_n C 0 dX9_toWarm_0 rfl ?_
  refine z_iload_n C 1 dX9_toWarm_1 rfl ?_
  refine z_cVX (As := [.int (zI (z))]) (rest := []) (ci := 11) C (c_X9_needSlope l D A cs tt N ad g i hN hR hl0 z hz) (by omega) ha1 r1 rfl rfl mv_yX9_needSlope q_940 hd_yX9_needSlope (by decide) (Nat.le_of_ble_eq_true rfl) (by decide) dX9_toWarm_2 rfl (fun E N' ad' g' h => by obtain ⟨rfl, rfl, rfl, rfl⟩ := h; exact z_uout C hxt hlk (by decide) (by decide) ⟨rfl, rfl, rfl, rfl⟩) (fun r N' ad' g' h => h.2.2.2.elim)

set_option maxRecDepth 100000 in
set_option maxHeartbeats 4000000 in
theorem c_X9_matters (l : Launch) (D : va_G) (A : Nat → Prop) (cs : Nat → ClassId) (tt : Nat) (N : Nat) (ad : Nat → Nat) (g : Nat → va_E) (i : Nat) (hN : i + 921 ≤ N) (hR : isRec cs ad g i) (hl0 : l.stackTraces = false) (z z1 z2 : Int) (hz : -2147483648 ≤ z ∧ z ≤ 2147483647) (hz1 : -2147483648 ≤ z1 ∧ z1 ≤ 2147483647) (hz2 : -2147483648 ≤ z2 ∧ z2 ≤ 2147483647) : zMX l yX9_matters cX9_matters 9 (some .int) ({ frames := 8, cells := 1, slots := 6, locals := 480 } : Room) D A cs tt N ad g [.ref (ad i), .int (zI z), .int (zI z1), .int (zI z2)] (rI0 N ad fun _ _ => False) (xE N ad g eNS) := by
  obtain ⟨r1, r2, r3, r4, r5, r6, r7, r8, r9, r10, r11, r12⟩ := id hR
  have ha1 : zAt ad (i) (ad i) := rfl
  refine z_ofX (by decide) (Nat.le_of_ble_eq_true rfl) ?_
  intro p e s m below meth c C hr hlk hxt
  refine z_lv (lv' := [(0, .ref (ad i)), (1, .int (zI (z))), (2, .int (zI (z1))), (3, .int (zI (z2)))]) [0, 1, 2, 3] rfl ?_
  refine z_aload_n C 0 dX9_matters_0 rfl ?_
  refine z_iload_n C 1 dX9_matters_1 rfl ?_
  refine z_cVX (As := [.int (zI (z))]) (rest := []) (ci := 11) C (c_X9_needSlope l D A cs tt N ad g i hN hR hl0 z hz) (by omega) ha1 r1 rfl rfl mv_yX9_needSlope q_940 hd_yX9_needSlope (by decide) (Nat.le_of_ble_eq_true rfl) (by decide) dX9_matters_2 rfl (fun E N' ad' g' h => by obtain ⟨rfl, rfl, rfl, rfl⟩ := h; exact z_uout C hxt hlk (by decide) (by decide) ⟨rfl, rfl, rfl, rfl⟩) (fun r N' ad' g' h => h.2.2.2.elim)

set_option maxRecDepth 100000 in
set_option maxHeartbeats 4000000 in
theorem c_X9_pitOf (l : Launch) (D : va_G) (A : Nat → Prop) (cs : Nat → ClassId) (tt : Nat) (N : Nat) (ad : Nat → Nat) (g : Nat → va_E) (i : Nat) (hN : i + 921 ≤ N) (hR : isRec cs ad g i) (hl0 : l.stackTraces = false) (z z1 : Int) (hz : -2147483648 ≤ z ∧ z ≤ 2147483647) (hz1 : -2147483648 ≤ z1 ∧ z1 ≤ 2147483647) : zMX l yX9_pitOf cX9_pitOf 3 (some .int) ({ frames := 8, cells := 1, slots := 6, locals := 480 } : Room) D A cs tt N ad g [.ref (ad i), .int (zI z), .int (zI z1)] (rI0 N ad fun _ _ => False) (xE N ad g eNS) := by
  obtain ⟨r1, r2, r3, r4, r5, r6, r7, r8, r9, r10, r11, r12⟩ := id hR
  have ha1 : zAt ad (i) (ad i) := rfl
  refine z_ofX (by decide) (Nat.le_of_ble_eq_true rfl) ?_
  intro p e s m below meth c C hr hlk hxt
  refine z_lv (lv' := [(0, .ref (ad i)), (1, .int (zI (z))), (2, .int (zI (z1)))]) [0, 1, 2] rfl ?_
  refine z_aload_n C 0 dX9_pitOf_0 rfl ?_
  refine z_iload_n C 1 dX9_pitOf_1 rfl ?_
  refine z_cVX (As := [.int (zI (z))]) (rest := []) (ci := 11) C (c_X9_needPit l D A cs tt N ad g i hN hR hl0 z hz) (by omega) ha1 r1 rfl rfl mv_yX9_needPit q_1316 hd_yX9_needPit (by decide) (Nat.le_of_ble_eq_true rfl) (by decide) dX9_pitOf_2 rfl (fun E N' ad' g' h => by obtain ⟨rfl, rfl, rfl, rfl⟩ := h; exact z_uout C hxt hlk (by decide) (by decide) ⟨rfl, rfl, rfl, rfl⟩) (fun r N' ad' g' h => h.2.2.2.elim)

set_option maxRecDepth 100000 in
set_option maxHeartbeats 4000000 in
theorem c_X9_compare (l : Launch) (D : va_G) (A : Nat → Prop) (cs : Nat → ClassId) (tt : Nat) (N : Nat) (ad : Nat → Nat) (g : Nat → va_E) (i : Nat) (hN : i + 921 ≤ N) (hR : isRec cs ad g i) (hl0 : l.stackTraces = false) (z z1 z2 : Int) (hz : -2147483648 ≤ z ∧ z ≤ 2147483647) (hz1 : -2147483648 ≤ z1 ∧ z1 ≤ 2147483647) (hz2 : -2147483648 ≤ z2 ∧ z2 ≤ 2147483647) : zMX l yX9_compare cX9_compare 6 (some .int) ({ frames := 8, cells := 1, slots := 6, locals := 480 } : Room) D A cs tt N ad g [.ref (ad i), .int (zI z), .int (zI z1), .int (zI z2)] (rI0 N ad fun _ _ => False) (xE N ad g eNS) := by
  obtain ⟨r1, r2, r3, r4, r5, r6, r7, r8, r9, r10, r11, r12⟩ := id hR
  have ha1 : zAt ad (i) (ad i) := rfl
  refine z_ofX (by decide) (Nat.le_of_ble_eq_true rfl) ?_
  intro p e s m below meth c C hr hlk hxt
  refine z_lv (lv' := [(0, .ref (ad i)), (1, .int (zI (z))), (2, .int (zI (z1))), (3, .int (zI (z2)))]) [0, 1, 2, 3] rfl ?_
  refine z_aload_n C 0 dX9_compare_0 rfl ?_
  refine z_iload_n C 1 dX9_compare_1 rfl ?_
  refine z_cVX (As := [.int (zI (z))]) (rest := []) (ci := 11) C (c_X9_needPit l D A cs tt N ad g i hN hR hl0 z hz) (by omega) ha1 r1 rfl rfl mv_yX9_needPit q_1316 hd_yX9_needPit (by decide) (Nat.le_of_ble_eq_true rfl) (by decide) dX9_compare_2 rfl (fun E N' ad' g' h => by obtain ⟨rfl, rfl, rfl, rfl⟩ := h; exact z_uout C hxt hlk (by decide) (by decide) ⟨rfl, rfl, rfl, rfl⟩) (fun r N' ad' g' h => h.2.2.2.elim)

set_option maxRecDepth 100000 in
set_option maxHeartbeats 4000000 in
theorem c_X9_nearest (l : Launch) (D : va_G) (A : Nat → Prop) (cs : Nat → ClassId) (tt : Nat) (N : Nat) (ad : Nat → Nat) (g : Nat → va_E) (i : Nat) (hN : i + 921 ≤ N) (hR : isRec cs ad g i) (hl0 : l.stackTraces = false) (z : Int) (hz : -2147483648 ≤ z ∧ z ≤ 2147483647) : zMX l yX9_nearest cX9_nearest 6 (some .int) ({ frames := 8, cells := 1, slots := 6, locals := 480 } : Room) D A cs tt N ad g [.ref (ad i), .int (zI z)] (rI0 N ad fun _ _ => False) (xE N ad g eNS) := by
  obtain ⟨r1, r2, r3, r4, r5, r6, r7, r8, r9, r10, r11, r12⟩ := id hR
  have ha1 : zAt ad (i) (ad i) := rfl
  refine z_ofX (by decide) (Nat.le_of_ble_eq_true rfl) ?_
  intro p e s m below meth c C hr hlk hxt
  refine z_lv (lv' := [(0, .ref (ad i)), (1, .int (zI (z)))]) [0, 1] rfl ?_
  refine z_aload_n C 0 dX9_nearest_0 rfl ?_
  refine z_iload_n C 1 dX9_nearest_1 rfl ?_
  refine z_cVX (As := [.int (zI (z))]) (rest := []) (ci := 11) C (c_X9_needPit l D A cs tt N ad g i hN hR hl0 z hz) (by omega) ha1 r1 rfl rfl mv_yX9_needPit q_1316 hd_yX9_needPit (by decide) (Nat.le_of_ble_eq_true rfl) (by decide) dX9_nearest_2 rfl (fun E N' ad' g' h => by obtain ⟨rfl, rfl, rfl, rfl⟩ := h; exact z_uout C hxt hlk (by decide) (by decide) ⟨rfl, rfl, rfl, rfl⟩) (fun r N' ad' g' h => h.2.2.2.elim)

set_option maxRecDepth 100000 in
set_option maxHeartbeats 4000000 in
theorem c_X9_odds (l : Launch) (D : va_G) (A : Nat → Prop) (cs : Nat → ClassId) (tt : Nat) (N : Nat) (ad : Nat → Nat) (g : Nat → va_E) (i : Nat) (hN : i + 921 ≤ N) (hR : isRec cs ad g i) (hl0 : l.stackTraces = false) (z z1 z2 : Int) (hz : -2147483648 ≤ z ∧ z ≤ 2147483647) (hz1 : -2147483648 ≤ z1 ∧ z1 ≤ 2147483647) (hz2 : -2147483648 ≤ z2 ∧ z2 ≤ 2147483647) : zMX l yX9_odds cX9_odds 7 (some .int) ({ frames := 8, cells := 1, slots := 6, locals := 480 } : Room) D A cs tt N ad g [.ref (ad i), .int (zI z), .int (zI z1), .int (zI z2)] (rI0 N ad fun _ _ => False) (xE N ad g eNS) := by
  obtain ⟨r1, r2, r3, r4, r5, r6, r7, r8, r9, r10, r11, r12⟩ := id hR
  have ha1 : zAt ad (i) (ad i) := rfl
  refine z_ofX (by decide) (Nat.le_of_ble_eq_true rfl) ?_
  intro p e s m below meth c C hr hlk hxt
  refine z_lv (lv' := [(0, .ref (ad i)), (1, .int (zI (z))), (2, .int (zI (z1))), (3, .int (zI (z2)))]) [0, 1, 2, 3] rfl ?_
  refine z_aload_n C 0 dX9_odds_0 rfl ?_
  refine z_iload_n C 1 dX9_odds_1 rfl ?_
  refine z_cVX (As := [.int (zI (z))]) (rest := []) (ci := 11) C (c_X9_needSlope l D A cs tt N ad g i hN hR hl0 z hz) (by omega) ha1 r1 rfl rfl mv_yX9_needSlope q_940 hd_yX9_needSlope (by decide) (Nat.le_of_ble_eq_true rfl) (by decide) dX9_odds_2 rfl (fun E N' ad' g' h => by obtain ⟨rfl, rfl, rfl, rfl⟩ := h; exact z_uout C hxt hlk (by decide) (by decide) ⟨rfl, rfl, rfl, rfl⟩) (fun r N' ad' g' h => h.2.2.2.elim)

set_option maxRecDepth 100000 in
set_option maxHeartbeats 4000000 in
theorem c_X9_forecast (l : Launch) (D : va_G) (A : Nat → Prop) (cs : Nat → ClassId) (tt : Nat) (N : Nat) (ad : Nat → Nat) (g : Nat → va_E) (i : Nat) (hN : i + 921 ≤ N) (hR : isRec cs ad g i) (hl0 : l.stackTraces = false) (z z1 : Int) (hz : -2147483648 ≤ z ∧ z ≤ 2147483647) (hz1 : -2147483648 ≤ z1 ∧ z1 ≤ 2147483647) : zMX l yX9_forecast cX9_forecast 3 (some .int) ({ frames := 8, cells := 1, slots := 6, locals := 480 } : Room) D A cs tt N ad g [.ref (ad i), .int (zI z), .int (zI z1)] (rI0 N ad fun _ _ => False) (xE N ad g eNS) := by
  obtain ⟨r1, r2, r3, r4, r5, r6, r7, r8, r9, r10, r11, r12⟩ := id hR
  have ha1 : zAt ad (i) (ad i) := rfl
  have ha2 : zAt ad (i + 4) (ad (i + 4)) := rfl
  refine z_ofX (by decide) (Nat.le_of_ble_eq_true rfl) ?_
  intro p e s m below meth c C hr hlk hxt
  refine z_lv (lv' := [(0, .ref (ad i)), (1, .int (zI (z))), (2, .int (zI (z1)))]) [0, 1, 2] rfl ?_
  refine z_iload_n C 1 dX9_forecast_0 rfl ?_
  refine z_if_lt (tgt := 15) C dX9_forecast_1 (by decide) (by omega) (fun h1 => ?_) (fun h1 => ?_)
  · exact z_thrN (cls := eNS) (text := "no such hour") C hl0 (ix := 13) (rx := nsB) ns0 ns1 ns2 ns5 (by decide +kernel) q_904 q_24 (by decide +kernel) at_NS gd_NS dX9_forecast_15 dX9_forecast_18 dX9_forecast_19 dX9_forecast_21 dX9_forecast_24 hxt (by decide) (Nat.le_of_ble_eq_true rfl) (by decide) (by decide) hlk (by decide) (by decide) ⟨rfl, rfl, rfl, rfl⟩
  · refine z_iload_n C 1 dX9_forecast_4 rfl ?_
    refine z_aload_n C 0 dX9_forecast_5 rfl ?_
    refine z_get (v := .ref (ad (i + 4))) C (by omega) ha1 r1 rfl inA_X9 4 (by decide) q_353 rfl rfl dX9_forecast_6 ?_
    refine z_get (v := .int (zI (0))) C (by omega) ha2 r4.1 rfl inA_X5 1 (by decide) q_93 rfl rfl dX9_forecast_9 ?_
    refine z_icmp_lt (tgt := 25) C dX9_forecast_12 (by decide) (by omega) (by omega) (fun h => absurd h (by omega)) (fun _ => ?_)
    exact z_thrN (cls := eNS) (text := "no such hour") C hl0 (ix := 13) (rx := nsB) ns0 ns1 ns2 ns5 (by decide +kernel) q_904 q_24 (by decide +kernel) at_NS gd_NS dX9_forecast_15 dX9_forecast_18 dX9_forecast_19 dX9_forecast_21 dX9_forecast_24 hxt (by decide) (Nat.le_of_ble_eq_true rfl) (by decide) (by decide) hlk (by decide) (by decide) ⟨rfl, rfl, rfl, rfl⟩

set_option maxRecDepth 100000 in
set_option maxHeartbeats 4000000 in
theorem c_X9_gone (l : Launch) (D : va_G) (A : Nat → Prop) (cs : Nat → ClassId) (tt : Nat) (N : Nat) (ad : Nat → Nat) (g : Nat → va_E) (i : Nat) (hN : i + 921 ≤ N) (hR : isRec cs ad g i) (hl0 : l.stackTraces = false) (z : Int) (hz : -2147483648 ≤ z ∧ z ≤ 2147483647) : zMX l yX9_gone cX9_gone 3 (some .int) ({ frames := 8, cells := 1, slots := 6, locals := 480 } : Room) D A cs tt N ad g [.ref (ad i), .int (zI z)] (rI0 N ad fun _ _ => False) (xE N ad g eNS) := by
  obtain ⟨r1, r2, r3, r4, r5, r6, r7, r8, r9, r10, r11, r12⟩ := id hR
  have ha1 : zAt ad (i) (ad i) := rfl
  have ha2 : zAt ad (i + 11) (ad (i + 11)) := rfl
  have ha3 : zAt ad (i + 11 + 1) (ad (i + 11 + 1)) := rfl
  refine z_ofX (by decide) (Nat.le_of_ble_eq_true rfl) ?_
  intro p e s m below meth c C hr hlk hxt
  refine z_lv (lv' := [(0, .ref (ad i)), (1, .int (zI (z)))]) [0, 1] rfl ?_
  refine z_iload_n C 1 dX9_gone_0 rfl ?_
  refine z_if_lt (tgt := 18) C dX9_gone_1 (by decide) (by omega) (fun h1 => ?_) (fun h1 => ?_)
  · exact z_thrNW (cls := eNS) (text := "that name isn't given") C hl0 (ix := 13) (rx := nsB) ns0 ns1 ns2 ns5 (by decide +kernel) q_904 q_24 (by decide +kernel) at_NS gd_NS dX9_gone_18 dX9_gone_21 dX9_gone_22 dX9_gone_25 dX9_gone_28 hxt (by decide) (Nat.le_of_ble_eq_true rfl) (by decide) (by decide) hlk (by decide) (by decide) ⟨rfl, rfl, rfl, rfl⟩
  · refine z_iload_n C 1 dX9_gone_4 rfl ?_
    refine z_aload_n C 0 dX9_gone_5 rfl ?_
    refine z_get (v := .ref (ad (i + 11))) C (by omega) ha1 r1 rfl inA_X9 5 (by decide) q_354 rfl rfl dX9_gone_6 ?_
    refine z_get (v := .ref (ad (i + 11 + 1))) C (by omega) ha2 r5.1 rfl inA_X6 0 (by decide) q_258 rfl rfl dX9_gone_9 ?_
    refine z_get (v := .int (zI (0))) C (by omega) ha3 r5.2.1.1 rfl inA_X8 1 (by decide) q_177 rfl rfl dX9_gone_12 ?_
    refine z_icmp_lt (tgt := 29) C dX9_gone_15 (by decide) (by omega) (by omega) (fun h => absurd h (by omega)) (fun _ => ?_)
    exact z_thrNW (cls := eNS) (text := "that name isn't given") C hl0 (ix := 13) (rx := nsB) ns0 ns1 ns2 ns5 (by decide +kernel) q_904 q_24 (by decide +kernel) at_NS gd_NS dX9_gone_18 dX9_gone_21 dX9_gone_22 dX9_gone_25 dX9_gone_28 hxt (by decide) (Nat.le_of_ble_eq_true rfl) (by decide) (by decide) hlk (by decide) (by decide) ⟨rfl, rfl, rfl, rfl⟩

