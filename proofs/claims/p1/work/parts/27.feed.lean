theorem b8_of (x : Int32) : ∃ z : Int, x.toInt8.toInt32 = zI z ∧ -128 ≤ z ∧ z ≤ 127 := ⟨x.toInt8.toInt, (Int32.ofInt_int8ToInt x.toInt8).symm, by have := x.toInt8.le_toInt; omega, by have := x.toInt8.toInt_lt; omega⟩
abbrev recC (ad : Nat → Nat) (i : Nat) (t : Int) : va_E := oC 11 [.ref (ad (i + 1)), .int (zI t), .int (zI (-1)), .ref (ad (i + 2)), .ref (ad (i + 4)), .ref (ad (i + 11)), .ref (ad (i + 447)), .int (zI 0), .ref (ad (i + 883)), .ref (ad (i + 890)), .ref (ad (i + 900)), .ref (ad (i + 910)), .ref (ad (i + 917)), .ref (ad (i + 919))]

set_option maxRecDepth 100000 in
set_option maxHeartbeats 4000000 in
theorem c_X9_putBytes (l : Launch) (D : va_G) (A : Nat → Prop) (cs : Nat → ClassId) (tt : Nat) (N : Nat) (ad : Nat → Nat) (g : Nat → va_E) (i t : Nat) (hN : i + 2 ≤ N) (ht4 : t + 4 ≤ 900) (r : Nat → Int) (hg : g i = recC ad i (t : Int)) (ht : g (i + 1) = bA cs 900 r) (z : Int) : zM l yX9_putBytes cX9_putBytes 3 none ({ frames := 1, cells := 0, slots := 0, locals := 60 } : Room) D A cs tt N ad g [.ref (ad i), .int (zI z)] (rV0 N ad fun g' => g' i = recC ad i ((t + 4 : Nat) : Int) ∧ (∃ r' : Nat → Int, g' (i + 1) = bA cs 900 r') ∧ ∀ j, j ≠ i → j ≠ i + 1 → g' j = g j) := by
  have ha1 : zAt ad (i) (ad i) := rfl
  have ha2 : zAt ad (i + 1) (ad (i + 1)) := rfl
  refine z_of (by decide) (Nat.le_of_ble_eq_true rfl) ?_
  intro p e s m below meth c C hr hlk hnm
  refine z_lv (lv' := [(0, .ref (ad i)), (1, .int (zI (z)))]) [0, 1] rfl ?_
  refine z_bipush (z := 24) C dX9_putBytes_0 (by decide) ?_
  refine z_istore_n (lv' := [(2, .int (zI (24))), (0, .ref (ad i)), (1, .int (zI (z)))]) C dX9_putBytes_2 rfl (by decide) rfl ?_
  refine z_iload_n C 0 dX9_putBytes_3 rfl ?_
  refine z_if_lt (tgt := 48) C dX9_putBytes_4 (by decide) (by omega) (fun h => absurd h (by omega)) (fun _ => ?_)
  refine z_aload_n C 1 dX9_putBytes_7 rfl ?_
  refine z_get (v := .int (zI ((t : Int)))) C (by omega) ha1 hg rfl inA_X9 1 (by decide) q_350 rfl rfl dX9_putBytes_8 ?_
  refine z_aload_n C 1 dX9_putBytes_11 rfl ?_
  refine z_get (v := .ref (ad (i + 1))) C (by omega) ha1 hg rfl inA_X9 0 (by decide) q_349 rfl rfl dX9_putBytes_12 ?_
  refine z_alen (z := 900) C (by omega) ha2 ht 0 rfl rfl dX9_putBytes_15 ?_
  refine z_icmp_ge (tgt := 48) C dX9_putBytes_16 (by decide) (by omega) (by omega) (fun h => absurd h (by omega)) (fun _ => ?_)
  refine z_aload_n C 1 dX9_putBytes_19 rfl ?_
  refine z_get (v := .ref (ad (i + 1))) C (by omega) ha1 hg rfl inA_X9 0 (by decide) q_349 rfl rfl dX9_putBytes_20 ?_
  refine z_aload_n C 1 dX9_putBytes_23 rfl ?_
  refine z_get (v := .int (zI ((t : Int)))) C (by omega) ha1 hg rfl inA_X9 1 (by decide) q_350 rfl rfl dX9_putBytes_24 ?_
  refine z_iload_n C 2 dX9_putBytes_27 rfl ?_
  refine z_iload_n C 0 dX9_putBytes_28 rfl ?_
  obtain ⟨z3, e4, -⟩ := zI_of (((zI z).toUInt32 >>> ((zI (24)).toUInt32 &&& Int32.toUInt32 31)).toInt32)
  refine z_iushr (z := z3) C dX9_putBytes_29 e4 ?_
  obtain ⟨z5, e6, h7⟩ := b8_of (zI z3)
  refine z_i2b (z := z5) C dX9_putBytes_30 e6 ?_
  refine z_bast C (by omega) ha2 ht (t) (by omega) (by omega) (by decide) h7 dX9_putBytes_31 (fun g8 eg9 => ?_)
  have hg10 := up_s eg9
  refine z_aload_n C 1 dX9_putBytes_32 rfl ?_
  refine z_dup C dX9_putBytes_33 rfl ?_
  have hg11 := up_n eg9 hg (ne_o (i := i) (c := 0) (d := 1) rfl)
  refine z_get (v := .int (zI ((t : Int)))) C (by omega) ha1 hg11 rfl inA_X9 1 (by decide) q_350 rfl rfl dX9_putBytes_34 ?_
  refine z_iconst (z := 1) C dX9_putBytes_37 rfl ?_
  refine z_iadd C dX9_putBytes_38 ?_
  rw [show ((t : Int)) + 1 = ((t + 1 : Nat) : Int) by omega]
  refine z_put (fs' := [.ref (ad (i + 1)), .int (zI (((t + 1 : Nat) : Int))), .int (zI (-1)), .ref (ad (i + 2)), .ref (ad (i + 4)), .ref (ad (i + 11)), .ref (ad (i + 447)), .int (zI (0)), .ref (ad (i + 883)), .ref (ad (i + 890)), .ref (ad (i + 900)), .ref (ad (i + 910)), .ref (ad (i + 917)), .ref (ad (i + 919))]) C (by omega) ha1 hg11 tyX9 tyX9_ok nmX9 rfl inA_X9 1 (by decide) q_350 rfl rfl rfl rfl (Nat.le_of_ble_eq_true rfl) rfl dX9_putBytes_39 (fun g12 eg13 => ?_)
  have hg14 := up_s eg13
  refine z_iinc (z := 16) (lv' := [(2, .int (zI (16))), (0, .ref (ad i)), (1, .int (zI (z)))]) (j := 0) C dX9_putBytes_42 rfl (congrArg zI (by omega)) (by decide) rfl ?_
  refine z_goto (tgt := 3) C dX9_putBytes_45 (by decide) ?_
  refine z_iload_n C 0 dX9_putBytes_3 rfl ?_
  refine z_if_lt (tgt := 48) C dX9_putBytes_4 (by decide) (by omega) (fun h => absurd h (by omega)) (fun _ => ?_)
  refine z_aload_n C 1 dX9_putBytes_7 rfl ?_
  refine z_get (v := .int (zI (((t + 1 : Nat) : Int)))) C (by omega) ha1 hg14 rfl inA_X9 1 (by decide) q_350 rfl rfl dX9_putBytes_8 ?_
  refine z_aload_n C 1 dX9_putBytes_11 rfl ?_
  refine z_get (v := .ref (ad (i + 1))) C (by omega) ha1 hg14 rfl inA_X9 0 (by decide) q_349 rfl rfl dX9_putBytes_12 ?_
  have hg15 := up_n eg13 hg10 (ne_o (i := i) (c := 1) (d := 0) rfl)
  refine z_alen (z := 900) C (by omega) ha2 hg15 0 rfl rfl dX9_putBytes_15 ?_
  refine z_icmp_ge (tgt := 48) C dX9_putBytes_16 (by decide) (by omega) (by omega) (fun h => absurd h (by omega)) (fun _ => ?_)
  refine z_aload_n C 1 dX9_putBytes_19 rfl ?_
  refine z_get (v := .ref (ad (i + 1))) C (by omega) ha1 hg14 rfl inA_X9 0 (by decide) q_349 rfl rfl dX9_putBytes_20 ?_
  refine z_aload_n C 1 dX9_putBytes_23 rfl ?_
  refine z_get (v := .int (zI (((t + 1 : Nat) : Int)))) C (by omega) ha1 hg14 rfl inA_X9 1 (by decide) q_350 rfl rfl dX9_putBytes_24 ?_
  refine z_iload_n C 2 dX9_putBytes_27 rfl ?_
  refine z_iload_n C 0 dX9_putBytes_28 rfl ?_
  obtain ⟨z16, e17, -⟩ := zI_of (((zI z).toUInt32 >>> ((zI (16)).toUInt32 &&& Int32.toUInt32 31)).toInt32)
  refine z_iushr (z := z16) C dX9_putBytes_29 e17 ?_
  obtain ⟨z18, e19, h20⟩ := b8_of (zI z16)
  refine z_i2b (z := z18) C dX9_putBytes_30 e19 ?_
  refine z_bast C (by omega) ha2 hg15 (t + 1) (by omega) (by omega) (by decide) h20 dX9_putBytes_31 (fun g21 eg22 => ?_)
  have hg23 := up_s eg22
  refine z_aload_n C 1 dX9_putBytes_32 rfl ?_
  refine z_dup C dX9_putBytes_33 rfl ?_
  have hg24 := up_n eg22 hg14 (ne_o (i := i) (c := 0) (d := 1) rfl)
  refine z_get (v := .int (zI (((t + 1 : Nat) : Int)))) C (by omega) ha1 hg24 rfl inA_X9 1 (by decide) q_350 rfl rfl dX9_putBytes_34 ?_
  refine z_iconst (z := 1) C dX9_putBytes_37 rfl ?_
  refine z_iadd C dX9_putBytes_38 ?_
  rw [show (((t + 1 : Nat) : Int)) + 1 = ((t + 2 : Nat) : Int) by omega]
  refine z_put (fs' := [.ref (ad (i + 1)), .int (zI (((t + 2 : Nat) : Int))), .int (zI (-1)), .ref (ad (i + 2)), .ref (ad (i + 4)), .ref (ad (i + 11)), .ref (ad (i + 447)), .int (zI (0)), .ref (ad (i + 883)), .ref (ad (i + 890)), .ref (ad (i + 900)), .ref (ad (i + 910)), .ref (ad (i + 917)), .ref (ad (i + 919))]) C (by omega) ha1 hg24 tyX9 tyX9_ok nmX9 rfl inA_X9 1 (by decide) q_350 rfl rfl rfl rfl (Nat.le_of_ble_eq_true rfl) rfl dX9_putBytes_39 (fun g25 eg26 => ?_)
  have hg27 := up_s eg26
  refine z_iinc (z := 8) (lv' := [(2, .int (zI (8))), (0, .ref (ad i)), (1, .int (zI (z)))]) (j := 0) C dX9_putBytes_42 rfl (congrArg zI (by omega)) (by decide) rfl ?_
  refine z_goto (tgt := 3) C dX9_putBytes_45 (by decide) ?_
  refine z_iload_n C 0 dX9_putBytes_3 rfl ?_
  refine z_if_lt (tgt := 48) C dX9_putBytes_4 (by decide) (by omega) (fun h => absurd h (by omega)) (fun _ => ?_)
  refine z_aload_n C 1 dX9_putBytes_7 rfl ?_
  refine z_get (v := .int (zI (((t + 2 : Nat) : Int)))) C (by omega) ha1 hg27 rfl inA_X9 1 (by decide) q_350 rfl rfl dX9_putBytes_8 ?_
  refine z_aload_n C 1 dX9_putBytes_11 rfl ?_
  refine z_get (v := .ref (ad (i + 1))) C (by omega) ha1 hg27 rfl inA_X9 0 (by decide) q_349 rfl rfl dX9_putBytes_12 ?_
  have hg28 := up_n eg26 hg23 (ne_o (i := i) (c := 1) (d := 0) rfl)
  refine z_alen (z := 900) C (by omega) ha2 hg28 0 rfl rfl dX9_putBytes_15 ?_
  refine z_icmp_ge (tgt := 48) C dX9_putBytes_16 (by decide) (by omega) (by omega) (fun h => absurd h (by omega)) (fun _ => ?_)
  refine z_aload_n C 1 dX9_putBytes_19 rfl ?_
  refine z_get (v := .ref (ad (i + 1))) C (by omega) ha1 hg27 rfl inA_X9 0 (by decide) q_349 rfl rfl dX9_putBytes_20 ?_
  refine z_aload_n C 1 dX9_putBytes_23 rfl ?_
  refine z_get (v := .int (zI (((t + 2 : Nat) : Int)))) C (by omega) ha1 hg27 rfl inA_X9 1 (by decide) q_350 rfl rfl dX9_putBytes_24 ?_
  refine z_iload_n C 2 dX9_putBytes_27 rfl ?_
  refine z_iload_n C 0 dX9_putBytes_28 rfl ?_
  obtain ⟨z29, e30, -⟩ := zI_of (((zI z).toUInt32 >>> ((zI (8)).toUInt32 &&& Int32.toUInt32 31)).toInt32)
  refine z_iushr (z := z29) C dX9_putBytes_29 e30 ?_
  obtain ⟨z31, e32, h33⟩ := b8_of (zI z29)
  refine z_i2b (z := z31) C dX9_putBytes_30 e32 ?_
  refine z_bast C (by omega) ha2 hg28 (t + 2) (by omega) (by omega) (by decide) h33 dX9_putBytes_31 (fun g34 eg35 => ?_)
  have hg36 := up_s eg35
  refine z_aload_n C 1 dX9_putBytes_32 rfl ?_
  refine z_dup C dX9_putBytes_33 rfl ?_
  have hg37 := up_n eg35 hg27 (ne_o (i := i) (c := 0) (d := 1) rfl)
  refine z_get (v := .int (zI (((t + 2 : Nat) : Int)))) C (by omega) ha1 hg37 rfl inA_X9 1 (by decide) q_350 rfl rfl dX9_putBytes_34 ?_
  refine z_iconst (z := 1) C dX9_putBytes_37 rfl ?_
  refine z_iadd C dX9_putBytes_38 ?_
  rw [show (((t + 2 : Nat) : Int)) + 1 = ((t + 3 : Nat) : Int) by omega]
  refine z_put (fs' := [.ref (ad (i + 1)), .int (zI (((t + 3 : Nat) : Int))), .int (zI (-1)), .ref (ad (i + 2)), .ref (ad (i + 4)), .ref (ad (i + 11)), .ref (ad (i + 447)), .int (zI (0)), .ref (ad (i + 883)), .ref (ad (i + 890)), .ref (ad (i + 900)), .ref (ad (i + 910)), .ref (ad (i + 917)), .ref (ad (i + 919))]) C (by omega) ha1 hg37 tyX9 tyX9_ok nmX9 rfl inA_X9 1 (by decide) q_350 rfl rfl rfl rfl (Nat.le_of_ble_eq_true rfl) rfl dX9_putBytes_39 (fun g38 eg39 => ?_)
  have hg40 := up_s eg39
  refine z_iinc (z := 0) (lv' := [(2, .int (zI (0))), (0, .ref (ad i)), (1, .int (zI (z)))]) (j := 0) C dX9_putBytes_42 rfl (congrArg zI (by omega)) (by decide) rfl ?_
  refine z_goto (tgt := 3) C dX9_putBytes_45 (by decide) ?_
  refine z_iload_n C 0 dX9_putBytes_3 rfl ?_
  refine z_if_lt (tgt := 48) C dX9_putBytes_4 (by decide) (by omega) (fun h => absurd h (by omega)) (fun _ => ?_)
  refine z_aload_n C 1 dX9_putBytes_7 rfl ?_
  refine z_get (v := .int (zI (((t + 3 : Nat) : Int)))) C (by omega) ha1 hg40 rfl inA_X9 1 (by decide) q_350 rfl rfl dX9_putBytes_8 ?_
  refine z_aload_n C 1 dX9_putBytes_11 rfl ?_
  refine z_get (v := .ref (ad (i + 1))) C (by omega) ha1 hg40 rfl inA_X9 0 (by decide) q_349 rfl rfl dX9_putBytes_12 ?_
  have hg41 := up_n eg39 hg36 (ne_o (i := i) (c := 1) (d := 0) rfl)
  refine z_alen (z := 900) C (by omega) ha2 hg41 0 rfl rfl dX9_putBytes_15 ?_
  refine z_icmp_ge (tgt := 48) C dX9_putBytes_16 (by decide) (by omega) (by omega) (fun h => absurd h (by omega)) (fun _ => ?_)
  refine z_aload_n C 1 dX9_putBytes_19 rfl ?_
  refine z_get (v := .ref (ad (i + 1))) C (by omega) ha1 hg40 rfl inA_X9 0 (by decide) q_349 rfl rfl dX9_putBytes_20 ?_
  refine z_aload_n C 1 dX9_putBytes_23 rfl ?_
  refine z_get (v := .int (zI (((t + 3 : Nat) : Int)))) C (by omega) ha1 hg40 rfl inA_X9 1 (by decide) q_350 rfl rfl dX9_putBytes_24 ?_
  refine z_iload_n C 2 dX9_putBytes_27 rfl ?_
  refine z_iload_n C 0 dX9_putBytes_28 rfl ?_
  obtain ⟨z42, e43, -⟩ := zI_of (((zI z).toUInt32 >>> ((zI (0)).toUInt32 &&& Int32.toUInt32 31)).toInt32)
  refine z_iushr (z := z42) C dX9_putBytes_29 e43 ?_
  obtain ⟨z44, e45, h46⟩ := b8_of (zI z42)
  refine z_i2b (z := z44) C dX9_putBytes_30 e45 ?_
  refine z_bast C (by omega) ha2 hg41 (t + 3) (by omega) (by omega) (by decide) h46 dX9_putBytes_31 (fun g47 eg48 => ?_)
  have hg49 := up_s eg48
  refine z_aload_n C 1 dX9_putBytes_32 rfl ?_
  refine z_dup C dX9_putBytes_33 rfl ?_
  have hg50 := up_n eg48 hg40 (ne_o (i := i) (c := 0) (d := 1) rfl)
  refine z_get (v := .int (zI (((t + 3 : Nat) : Int)))) C (by omega) ha1 hg50 rfl inA_X9 1 (by decide) q_350 rfl rfl dX9_putBytes_34 ?_
  refine z_iconst (z := 1) C dX9_putBytes_37 rfl ?_
  refine z_iadd C dX9_putBytes_38 ?_
  rw [show (((t + 3 : Nat) : Int)) + 1 = ((t + 4 : Nat) : Int) by omega]
  refine z_put (fs' := [.ref (ad (i + 1)), .int (zI (((t + 4 : Nat) : Int))), .int (zI (-1)), .ref (ad (i + 2)), .ref (ad (i + 4)), .ref (ad (i + 11)), .ref (ad (i + 447)), .int (zI (0)), .ref (ad (i + 883)), .ref (ad (i + 890)), .ref (ad (i + 900)), .ref (ad (i + 910)), .ref (ad (i + 917)), .ref (ad (i + 919))]) C (by omega) ha1 hg50 tyX9 tyX9_ok nmX9 rfl inA_X9 1 (by decide) q_350 rfl rfl rfl rfl (Nat.le_of_ble_eq_true rfl) rfl dX9_putBytes_39 (fun g51 eg52 => ?_)
  have hg53 := up_s eg52
  refine z_iinc (z := -8) (lv' := [(2, .int (zI (-8))), (0, .ref (ad i)), (1, .int (zI (z)))]) (j := 0) C dX9_putBytes_42 rfl (congrArg zI (by omega)) (by decide) rfl ?_
  refine z_goto (tgt := 3) C dX9_putBytes_45 (by decide) ?_
  refine z_iload_n C 0 dX9_putBytes_3 rfl ?_
  refine z_if_lt (tgt := 48) C dX9_putBytes_4 (by decide) (by omega) (fun _ => ?_) (fun h => absurd h (by omega))
  have hg54 := up_n eg52 hg49 (ne_o (i := i) (c := 1) (d := 0) rfl)
  exact z_vret C hr hlk dX9_putBytes_48 (by decide) (by decide) ⟨rfl, rfl, rfl, hg53, ⟨_, hg54⟩, fun j h1 h2 => by rw [eg52, va_up_ne _ _ (by omega)]; rw [eg48, va_up_ne _ _ (by omega)]; rw [eg39, va_up_ne _ _ (by omega)]; rw [eg35, va_up_ne _ _ (by omega)]; rw [eg26, va_up_ne _ _ (by omega)]; rw [eg22, va_up_ne _ _ (by omega)]; rw [eg13, va_up_ne _ _ (by omega)]; rw [eg9, va_up_ne _ _ (by omega)]⟩

set_option maxRecDepth 100000 in
set_option maxHeartbeats 4000000 in
theorem c_X9_feed (l : Launch) (D : va_G) (A : Nat → Prop) (cs : Nat → ClassId) (tt : Nat) (N : Nat) (ad : Nat → Nat) (g : Nat → va_E) (i : Nat) (hN : i + 921 ≤ N) (hR : isRec cs ad g i) (z z1 z2 z3 z4 : Int) : zM l yX9_feed cX9_feed 6 (some .int) ({ frames := 2, cells := 0, slots := 0, locals := 120 } : Room) D A cs tt N ad g [.ref (ad i), .int (zI z), .int (zI z1), .int (zI z2), .int (zI z3), .int (zI z4)] (rI0 N ad fun r g' => r = 20 ∧ oR i g g') := by
  obtain ⟨r1, r2, r3, r4, r5, r6, r7, r8, r9, r10, r11, r12⟩ := id hR
  have ha1 : zAt ad (i) (ad i) := rfl
  refine z_of (by decide) (Nat.le_of_ble_eq_true rfl) ?_
  intro p e s m below meth c C hr hlk hnm
  refine z_lv (lv' := [(0, .ref (ad i)), (1, .int (zI (z))), (2, .int (zI (z1))), (3, .int (zI (z2))), (4, .int (zI (z3))), (5, .int (zI (z4)))]) [0, 1, 2, 3, 4, 5] rfl ?_
  refine z_aload_n C 0 dX9_feed_0 rfl ?_
  refine z_get (v := .int (zI (0))) C (by omega) ha1 r1 rfl inA_X9 1 (by decide) q_350 rfl rfl dX9_feed_1 ?_
  refine z_bipush (z := 20) C dX9_feed_4 (by decide) ?_
  refine z_iadd C dX9_feed_6 ?_
  refine z_sipush (z := 900) C dX9_feed_7 (by decide) ?_
  refine z_icmp_le (tgt := 15) C dX9_feed_10 (by decide) (by omega) (by omega) (fun _ => ?_) (fun h => absurd h (by omega))
  have f0 : ∃ r : Nat → Int, g (i + 1) = bA cs 900 r := ⟨_, r2⟩
  refine z_aload_n C 0 dX9_feed_15 rfl ?_
  refine z_iload_n C 1 dX9_feed_16 rfl ?_
  obtain ⟨r4, ht5⟩ := f0
  refine z_cV (As := [.int (zI (z))]) (rest := []) (ci := 11) C (c_X9_putBytes l D A cs tt N ad _ i 0 (by omega) (by decide) r4 r1 ht5 z) (by omega) ha1 r1 rfl rfl mv_yX9_putBytes q_396 hd_yX9_putBytes (by decide) (Nat.le_of_ble_eq_true rfl) (by decide) dX9_feed_17 rfl (kV0 fun g2 hq3 => ?_)
  obtain ⟨h6, h7, h8⟩ := hq3
  refine z_aload_n C 0 dX9_feed_20 rfl ?_
  refine z_iload_n C 2 dX9_feed_21 rfl ?_
  obtain ⟨r11, ht12⟩ := h7
  refine z_cV (As := [.int (zI (z1))]) (rest := []) (ci := 11) C (c_X9_putBytes l D A cs tt N ad _ i 4 (by omega) (by decide) r11 h6 ht12 z1) (by omega) ha1 h6 rfl rfl mv_yX9_putBytes q_396 hd_yX9_putBytes (by decide) (Nat.le_of_ble_eq_true rfl) (by decide) dX9_feed_22 rfl (kV0 fun g9 hq10 => ?_)
  obtain ⟨h13, h14, h15⟩ := hq10
  refine z_aload_n C 0 dX9_feed_25 rfl ?_
  refine z_iload_n C 3 dX9_feed_26 rfl ?_
  obtain ⟨r18, ht19⟩ := h14
  refine z_cV (As := [.int (zI (z2))]) (rest := []) (ci := 11) C (c_X9_putBytes l D A cs tt N ad _ i 8 (by omega) (by decide) r18 h13 ht19 z2) (by omega) ha1 h13 rfl rfl mv_yX9_putBytes q_396 hd_yX9_putBytes (by decide) (Nat.le_of_ble_eq_true rfl) (by decide) dX9_feed_27 rfl (kV0 fun g16 hq17 => ?_)
  obtain ⟨h20, h21, h22⟩ := hq17
  refine z_aload_n C 0 dX9_feed_30 rfl ?_
  refine z_iload C 4 dX9_feed_31 rfl ?_
  obtain ⟨r25, ht26⟩ := h21
  refine z_cV (As := [.int (zI (z3))]) (rest := []) (ci := 11) C (c_X9_putBytes l D A cs tt N ad _ i 12 (by omega) (by decide) r25 h20 ht26 z3) (by omega) ha1 h20 rfl rfl mv_yX9_putBytes q_396 hd_yX9_putBytes (by decide) (Nat.le_of_ble_eq_true rfl) (by decide) dX9_feed_33 rfl (kV0 fun g23 hq24 => ?_)
  obtain ⟨h27, h28, h29⟩ := hq24
  refine z_aload_n C 0 dX9_feed_36 rfl ?_
  refine z_iload C 5 dX9_feed_37 rfl ?_
  obtain ⟨r32, ht33⟩ := h28
  refine z_cV (As := [.int (zI (z4))]) (rest := []) (ci := 11) C (c_X9_putBytes l D A cs tt N ad _ i 16 (by omega) (by decide) r32 h27 ht33 z4) (by omega) ha1 h27 rfl rfl mv_yX9_putBytes q_396 hd_yX9_putBytes (by decide) (Nat.le_of_ble_eq_true rfl) (by decide) dX9_feed_39 rfl (kV0 fun g30 hq31 => ?_)
  obtain ⟨h34, h35, h36⟩ := hq31
  refine z_aload_n C 0 dX9_feed_42 rfl ?_
  refine z_get (v := .int (zI (((16 + 4 : Nat) : Int)))) C (by omega) ha1 h34 rfl inA_X9 1 (by decide) q_350 rfl rfl dX9_feed_43 ?_
  exact z_iret C hr hlk dX9_feed_46 (by decide) (by decide) ⟨20, rfl, rfl, rfl, rfl, fun j h1 => by rw [h36 _ (by omega) (by omega)]; rw [h29 _ (by omega) (by omega)]; rw [h22 _ (by omega) (by omega)]; rw [h15 _ (by omega) (by omega)]; rw [h8 _ (by omega) (by omega)]⟩

set_option maxRecDepth 100000 in
set_option maxHeartbeats 4000000 in
theorem c_X3_sum0 (l : Launch) (D : va_G) (A : Nat → Prop) (cs : Nat → ClassId) (tt : Nat) (N : Nat) (ad : Nat → Nat) (g : Nat → va_E) (a : Nat) (hN : a + 2 ≤ N) (ro : Int) (r : Nat → Int) (ha : isPack cs ad g a 0 ro r) (z : Int) : zM l yX3_sum cX3_sum 4 (some .int) ({ frames := 1, cells := 0, slots := 0, locals := 60 } : Room) D A cs tt N ad g [.ref (ad a), .int (zI z)] (rI0 N ad fun r g' => r = 0 ∧ g' = g) := by
  have ha1 : zAt ad (a) (ad a) := rfl
  have ha2 : zAt ad (a + 1) (ad (a + 1)) := rfl
  refine z_of (by decide) (Nat.le_of_ble_eq_true rfl) ?_
  intro p e s m below meth c C hr hlk hnm
  refine z_lv (lv' := [(0, .ref (ad a)), (1, .int (zI (z)))]) [0, 1] rfl ?_
  refine z_iconst (z := 0) C dX3_sum_0 rfl ?_
  refine z_istore_n (lv' := [(2, .int (zI (0))), (0, .ref (ad a)), (1, .int (zI (z)))]) C dX3_sum_1 rfl (by decide) rfl ?_
  refine z_iconst (z := 0) C dX3_sum_2 rfl ?_
  refine z_istore_n (lv' := [(3, .int (zI (0))), (2, .int (zI (0))), (0, .ref (ad a)), (1, .int (zI (z)))]) C dX3_sum_3 rfl (by decide) rfl ?_
  refine z_iload_n C 0 dX3_sum_4 rfl ?_
  refine z_aload_n C 2 dX3_sum_5 rfl ?_
  refine z_get (v := .int (zI (0))) C (by omega) ha1 ha.1 rfl inA_X3 0 (by decide) q_154 rfl rfl dX3_sum_6 ?_
  refine z_icmp_ge (tgt := 29) C dX3_sum_9 (by decide) (by omega) (by omega) (fun _ => ?_) (fun h => absurd h (by omega))
  refine z_iload_n C 1 dX3_sum_29 rfl ?_
  exact z_iret C hr hlk dX3_sum_30 (by decide) (by decide) ⟨0, rfl, rfl, rfl, rfl, rfl⟩

set_option maxRecDepth 100000 in
set_option maxHeartbeats 4000000 in
theorem c_X8_layers0 (l : Launch) (D : va_G) (A : Nat → Prop) (cs : Nat → ClassId) (tt : Nat) (N : Nat) (ad : Nat → Nat) (g : Nat → va_E) (a : Nat) (hN : a + 10 ≤ N) (ha : isWorld cs ad g a (fun _ => 0) (fun _ => 0) (fun _ => 0) (fun _ _ => 0)) : zM l yX8_layers cX8_layers 3 (some .int) ({ frames := 2, cells := 0, slots := 0, locals := 120 } : Room) D A cs tt N ad g [.ref (ad a)] (rI0 N ad fun r g' => r = 0 ∧ g' = g) := by
  obtain ⟨u1, ⟨ua, u2, u3⟩, u4⟩ := id ha
  have ha1 : zAt ad (a) (ad a) := rfl
  have ha2 : zAt ad (a + 1) (ad (a + 1)) := rfl
  have up0 : isPack cs ad g (a + 2) 0 0 (fun _ => 0) := u4 0 (by decide)
  have uq0 : ua 0 = some (ad (a + 2)) := u3 0 (by decide)
  have ha3 : zAt ad (a + 2) (ad (a + 2)) := rfl
  have ha4 : zAt ad (a + 2 + 1) (ad (a + 2 + 1)) := rfl
  have up1 : isPack cs ad g (a + 4) 0 0 (fun _ => 0) := u4 1 (by decide)
  have uq1 : ua 1 = some (ad (a + 4)) := u3 1 (by decide)
  have ha5 : zAt ad (a + 4) (ad (a + 4)) := rfl
  have ha6 : zAt ad (a + 4 + 1) (ad (a + 4 + 1)) := rfl
  have up2 : isPack cs ad g (a + 6) 0 0 (fun _ => 0) := u4 2 (by decide)
  have uq2 : ua 2 = some (ad (a + 6)) := u3 2 (by decide)
  have ha7 : zAt ad (a + 6) (ad (a + 6)) := rfl
  have ha8 : zAt ad (a + 6 + 1) (ad (a + 6 + 1)) := rfl
  have up3 : isPack cs ad g (a + 8) 0 0 (fun _ => 0) := u4 3 (by decide)
  have uq3 : ua 3 = some (ad (a + 8)) := u3 3 (by decide)
  have ha9 : zAt ad (a + 8) (ad (a + 8)) := rfl
  have ha10 : zAt ad (a + 8 + 1) (ad (a + 8 + 1)) := rfl
  refine z_of (by decide) (Nat.le_of_ble_eq_true rfl) ?_
  intro p e s m below meth c C hr hlk hnm
  refine z_lv (lv' := [(0, .ref (ad a))]) [0] rfl ?_
  refine z_iconst (z := 0) C dX8_layers_0 rfl ?_
  refine z_istore_n (lv' := [(1, .int (zI (0))), (0, .ref (ad a))]) C dX8_layers_1 rfl (by decide) rfl ?_
  refine z_iconst (z := 0) C dX8_layers_2 rfl ?_
  refine z_istore_n (lv' := [(2, .int (zI (0))), (1, .int (zI (0))), (0, .ref (ad a))]) C dX8_layers_3 rfl (by decide) rfl ?_
  refine z_iload_n C 0 dX8_layers_4 rfl ?_
  refine z_aload_n C 2 dX8_layers_5 rfl ?_
  refine z_get (v := .ref (ad (a + 1))) C (by omega) ha1 u1 rfl inA_X8 6 (by decide) q_188 rfl rfl dX8_layers_6 ?_
  refine z_alen (z := 4) C (by omega) ha2 u2 3 rfl rfl dX8_layers_9 ?_
  refine z_icmp_ge (tgt := 31) C dX8_layers_10 (by decide) (by omega) (by omega) (fun h => absurd h (by omega)) (fun _ => ?_)
  refine z_iload_n C 1 dX8_layers_13 rfl ?_
  refine z_aload_n C 2 dX8_layers_14 rfl ?_
  refine z_get (v := .ref (ad (a + 1))) C (by omega) ha1 u1 rfl inA_X8 6 (by decide) q_188 rfl rfl dX8_layers_15 ?_
  refine z_iload_n C 0 dX8_layers_18 rfl ?_
  refine z_aald C (by omega) ha2 u2 3 rfl (0) (by omega) (by omega) (by decide) uq0 dX8_layers_19 ?_
  refine z_get (v := .int (zI (0))) C (by omega) ha3 up0.1 rfl inA_X3 0 (by decide) q_156 rfl rfl dX8_layers_20 ?_
  refine z_iadd C dX8_layers_23 ?_
  rw [show (0 + 0 : Int) = 0 by omega]
  refine z_istore_n (lv' := [(1, .int (zI (0))), (2, .int (zI (0))), (0, .ref (ad a))]) C dX8_layers_24 rfl (by decide) rfl ?_
  refine z_iinc (z := 1) (lv' := [(2, .int (zI (1))), (1, .int (zI (0))), (0, .ref (ad a))]) (j := 1) C dX8_layers_25 rfl (congrArg zI (by omega)) (by decide) rfl ?_
  refine z_goto (tgt := 4) C dX8_layers_28 (by decide) ?_
  refine z_iload_n C 0 dX8_layers_4 rfl ?_
  refine z_aload_n C 2 dX8_layers_5 rfl ?_
  refine z_get (v := .ref (ad (a + 1))) C (by omega) ha1 u1 rfl inA_X8 6 (by decide) q_188 rfl rfl dX8_layers_6 ?_
  refine z_alen (z := 4) C (by omega) ha2 u2 3 rfl rfl dX8_layers_9 ?_
  refine z_icmp_ge (tgt := 31) C dX8_layers_10 (by decide) (by omega) (by omega) (fun h => absurd h (by omega)) (fun _ => ?_)
  refine z_iload_n C 1 dX8_layers_13 rfl ?_
  refine z_aload_n C 2 dX8_layers_14 rfl ?_
  refine z_get (v := .ref (ad (a + 1))) C (by omega) ha1 u1 rfl inA_X8 6 (by decide) q_188 rfl rfl dX8_layers_15 ?_
  refine z_iload_n C 0 dX8_layers_18 rfl ?_
  refine z_aald C (by omega) ha2 u2 3 rfl (1) (by omega) (by omega) (by decide) uq1 dX8_layers_19 ?_
  refine z_get (v := .int (zI (0))) C (by omega) ha5 up1.1 rfl inA_X3 0 (by decide) q_156 rfl rfl dX8_layers_20 ?_
  refine z_iadd C dX8_layers_23 ?_
  rw [show (0 + 0 : Int) = 0 by omega]
  refine z_istore_n (lv' := [(1, .int (zI (0))), (2, .int (zI (1))), (0, .ref (ad a))]) C dX8_layers_24 rfl (by decide) rfl ?_
  refine z_iinc (z := 2) (lv' := [(2, .int (zI (2))), (1, .int (zI (0))), (0, .ref (ad a))]) (j := 1) C dX8_layers_25 rfl (congrArg zI (by omega)) (by decide) rfl ?_
  refine z_goto (tgt := 4) C dX8_layers_28 (by decide) ?_
  refine z_iload_n C 0 dX8_layers_4 rfl ?_
  refine z_aload_n C 2 dX8_layers_5 rfl ?_
  refine z_get (v := .ref (ad (a + 1))) C (by omega) ha1 u1 rfl inA_X8 6 (by decide) q_188 rfl rfl dX8_layers_6 ?_
  refine z_alen (z := 4) C (by omega) ha2 u2 3 rfl rfl dX8_layers_9 ?_
  refine z_icmp_ge (tgt := 31) C dX8_layers_10 (by decide) (by omega) (by omega) (fun h => absurd h (by omega)) (fun _ => ?_)
  refine z_iload_n C 1 dX8_layers_13 rfl ?_
  refine z_aload_n C 2 dX8_layers_14 rfl ?_
  refine z_get (v := .ref (ad (a + 1))) C (by omega) ha1 u1 rfl inA_X8 6 (by decide) q_188 rfl rfl dX8_layers_15 ?_
  refine z_iload_n C 0 dX8_layers_18 rfl ?_
  refine z_aald C (by omega) ha2 u2 3 rfl (2) (by omega) (by omega) (by decide) uq2 dX8_layers_19 ?_
  refine z_get (v := .int (zI (0))) C (by omega) ha7 up2.1 rfl inA_X3 0 (by decide) q_156 rfl rfl dX8_layers_20 ?_
  refine z_iadd C dX8_layers_23 ?_
  rw [show (0 + 0 : Int) = 0 by omega]
  refine z_istore_n (lv' := [(1, .int (zI (0))), (2, .int (zI (2))), (0, .ref (ad a))]) C dX8_layers_24 rfl (by decide) rfl ?_
  refine z_iinc (z := 3) (lv' := [(2, .int (zI (3))), (1, .int (zI (0))), (0, .ref (ad a))]) (j := 1) C dX8_layers_25 rfl (congrArg zI (by omega)) (by decide) rfl ?_
  refine z_goto (tgt := 4) C dX8_layers_28 (by decide) ?_
  refine z_iload_n C 0 dX8_layers_4 rfl ?_
  refine z_aload_n C 2 dX8_layers_5 rfl ?_
  refine z_get (v := .ref (ad (a + 1))) C (by omega) ha1 u1 rfl inA_X8 6 (by decide) q_188 rfl rfl dX8_layers_6 ?_
  refine z_alen (z := 4) C (by omega) ha2 u2 3 rfl rfl dX8_layers_9 ?_
  refine z_icmp_ge (tgt := 31) C dX8_layers_10 (by decide) (by omega) (by omega) (fun h => absurd h (by omega)) (fun _ => ?_)
  refine z_iload_n C 1 dX8_layers_13 rfl ?_
  refine z_aload_n C 2 dX8_layers_14 rfl ?_
  refine z_get (v := .ref (ad (a + 1))) C (by omega) ha1 u1 rfl inA_X8 6 (by decide) q_188 rfl rfl dX8_layers_15 ?_
  refine z_iload_n C 0 dX8_layers_18 rfl ?_
  refine z_aald C (by omega) ha2 u2 3 rfl (3) (by omega) (by omega) (by decide) uq3 dX8_layers_19 ?_
  refine z_get (v := .int (zI (0))) C (by omega) ha9 up3.1 rfl inA_X3 0 (by decide) q_156 rfl rfl dX8_layers_20 ?_
  refine z_iadd C dX8_layers_23 ?_
  rw [show (0 + 0 : Int) = 0 by omega]
  refine z_istore_n (lv' := [(1, .int (zI (0))), (2, .int (zI (3))), (0, .ref (ad a))]) C dX8_layers_24 rfl (by decide) rfl ?_
  refine z_iinc (z := 4) (lv' := [(2, .int (zI (4))), (1, .int (zI (0))), (0, .ref (ad a))]) (j := 1) C dX8_layers_25 rfl (congrArg zI (by omega)) (by decide) rfl ?_
  refine z_goto (tgt := 4) C dX8_layers_28 (by decide) ?_
  refine z_iload_n C 0 dX8_layers_4 rfl ?_
  refine z_aload_n C 2 dX8_layers_5 rfl ?_
  refine z_get (v := .ref (ad (a + 1))) C (by omega) ha1 u1 rfl inA_X8 6 (by decide) q_188 rfl rfl dX8_layers_6 ?_
  refine z_alen (z := 4) C (by omega) ha2 u2 3 rfl rfl dX8_layers_9 ?_
  refine z_icmp_ge (tgt := 31) C dX8_layers_10 (by decide) (by omega) (by omega) (fun _ => ?_) (fun h => absurd h (by omega))
  refine z_iload_n C 1 dX8_layers_31 rfl ?_
  exact z_iret C hr hlk dX8_layers_32 (by decide) (by decide) ⟨0, rfl, rfl, rfl, rfl, rfl⟩

set_option maxRecDepth 100000 in
set_option maxHeartbeats 4000000 in
theorem c_X8_runoff0 (l : Launch) (D : va_G) (A : Nat → Prop) (cs : Nat → ClassId) (tt : Nat) (N : Nat) (ad : Nat → Nat) (g : Nat → va_E) (a : Nat) (hN : a + 10 ≤ N) (ha : isWorld cs ad g a (fun _ => 0) (fun _ => 0) (fun _ => 0) (fun _ _ => 0)) : zM l yX8_runoff cX8_runoff 3 (some .int) ({ frames := 2, cells := 0, slots := 0, locals := 120 } : Room) D A cs tt N ad g [.ref (ad a)] (rI0 N ad fun r g' => r = 0 ∧ g' = g) := by
  obtain ⟨u1, ⟨ua, u2, u3⟩, u4⟩ := id ha
  have ha1 : zAt ad (a) (ad a) := rfl
  have ha2 : zAt ad (a + 1) (ad (a + 1)) := rfl
  have up0 : isPack cs ad g (a + 2) 0 0 (fun _ => 0) := u4 0 (by decide)
  have uq0 : ua 0 = some (ad (a + 2)) := u3 0 (by decide)
  have ha3 : zAt ad (a + 2) (ad (a + 2)) := rfl
  have ha4 : zAt ad (a + 2 + 1) (ad (a + 2 + 1)) := rfl
  have up1 : isPack cs ad g (a + 4) 0 0 (fun _ => 0) := u4 1 (by decide)
  have uq1 : ua 1 = some (ad (a + 4)) := u3 1 (by decide)
  have ha5 : zAt ad (a + 4) (ad (a + 4)) := rfl
  have ha6 : zAt ad (a + 4 + 1) (ad (a + 4 + 1)) := rfl
  have up2 : isPack cs ad g (a + 6) 0 0 (fun _ => 0) := u4 2 (by decide)
  have uq2 : ua 2 = some (ad (a + 6)) := u3 2 (by decide)
  have ha7 : zAt ad (a + 6) (ad (a + 6)) := rfl
  have ha8 : zAt ad (a + 6 + 1) (ad (a + 6 + 1)) := rfl
  have up3 : isPack cs ad g (a + 8) 0 0 (fun _ => 0) := u4 3 (by decide)
  have uq3 : ua 3 = some (ad (a + 8)) := u3 3 (by decide)
  have ha9 : zAt ad (a + 8) (ad (a + 8)) := rfl
  have ha10 : zAt ad (a + 8 + 1) (ad (a + 8 + 1)) := rfl
  refine z_of (by decide) (Nat.le_of_ble_eq_true rfl) ?_
  intro p e s m below meth c C hr hlk hnm
  refine z_lv (lv' := [(0, .ref (ad a))]) [0] rfl ?_
  refine z_iconst (z := 0) C dX8_runoff_0 rfl ?_
  refine z_istore_n (lv' := [(1, .int (zI (0))), (0, .ref (ad a))]) C dX8_runoff_1 rfl (by decide) rfl ?_
  refine z_iconst (z := 0) C dX8_runoff_2 rfl ?_
  refine z_istore_n (lv' := [(2, .int (zI (0))), (1, .int (zI (0))), (0, .ref (ad a))]) C dX8_runoff_3 rfl (by decide) rfl ?_
  refine z_iload_n C 0 dX8_runoff_4 rfl ?_
  refine z_aload_n C 2 dX8_runoff_5 rfl ?_
  refine z_get (v := .ref (ad (a + 1))) C (by omega) ha1 u1 rfl inA_X8 6 (by decide) q_188 rfl rfl dX8_runoff_6 ?_
  refine z_alen (z := 4) C (by omega) ha2 u2 3 rfl rfl dX8_runoff_9 ?_
  refine z_icmp_ge (tgt := 31) C dX8_runoff_10 (by decide) (by omega) (by omega) (fun h => absurd h (by omega)) (fun _ => ?_)
  refine z_iload_n C 1 dX8_runoff_13 rfl ?_
  refine z_aload_n C 2 dX8_runoff_14 rfl ?_
  refine z_get (v := .ref (ad (a + 1))) C (by omega) ha1 u1 rfl inA_X8 6 (by decide) q_188 rfl rfl dX8_runoff_15 ?_
  refine z_iload_n C 0 dX8_runoff_18 rfl ?_
  refine z_aald C (by omega) ha2 u2 3 rfl (0) (by omega) (by omega) (by decide) uq0 dX8_runoff_19 ?_
  refine z_get (v := .int (zI (0))) C (by omega) ha3 up0.1 rfl inA_X3 1 (by decide) q_160 rfl rfl dX8_runoff_20 ?_
  refine z_iadd C dX8_runoff_23 ?_
  rw [show (0 + 0 : Int) = 0 by omega]
  refine z_istore_n (lv' := [(1, .int (zI (0))), (2, .int (zI (0))), (0, .ref (ad a))]) C dX8_runoff_24 rfl (by decide) rfl ?_
  refine z_iinc (z := 1) (lv' := [(2, .int (zI (1))), (1, .int (zI (0))), (0, .ref (ad a))]) (j := 1) C dX8_runoff_25 rfl (congrArg zI (by omega)) (by decide) rfl ?_
  refine z_goto (tgt := 4) C dX8_runoff_28 (by decide) ?_
  refine z_iload_n C 0 dX8_runoff_4 rfl ?_
  refine z_aload_n C 2 dX8_runoff_5 rfl ?_
  refine z_get (v := .ref (ad (a + 1))) C (by omega) ha1 u1 rfl inA_X8 6 (by decide) q_188 rfl rfl dX8_runoff_6 ?_
  refine z_alen (z := 4) C (by omega) ha2 u2 3 rfl rfl dX8_runoff_9 ?_
  refine z_icmp_ge (tgt := 31) C dX8_runoff_10 (by decide) (by omega) (by omega) (fun h => absurd h (by omega)) (fun _ => ?_)
  refine z_iload_n C 1 dX8_runoff_13 rfl ?_
  refine z_aload_n C 2 dX8_runoff_14 rfl ?_
  refine z_get (v := .ref (ad (a + 1))) C (by omega) ha1 u1 rfl inA_X8 6 (by decide) q_188 rfl rfl dX8_runoff_15 ?_
  refine z_iload_n C 0 dX8_runoff_18 rfl ?_
  refine z_aald C (by omega) ha2 u2 3 rfl (1) (by omega) (by omega) (by decide) uq1 dX8_runoff_19 ?_
  refine z_get (v := .int (zI (0))) C (by omega) ha5 up1.1 rfl inA_X3 1 (by decide) q_160 rfl rfl dX8_runoff_20 ?_
  refine z_iadd C dX8_runoff_23 ?_
  rw [show (0 + 0 : Int) = 0 by omega]
  refine z_istore_n (lv' := [(1, .int (zI (0))), (2, .int (zI (1))), (0, .ref (ad a))]) C dX8_runoff_24 rfl (by decide) rfl ?_
  refine z_iinc (z := 2) (lv' := [(2, .int (zI (2))), (1, .int (zI (0))), (0, .ref (ad a))]) (j := 1) C dX8_runoff_25 rfl (congrArg zI (by omega)) (by decide) rfl ?_
  refine z_goto (tgt := 4) C dX8_runoff_28 (by decide) ?_
  refine z_iload_n C 0 dX8_runoff_4 rfl ?_
  refine z_aload_n C 2 dX8_runoff_5 rfl ?_
  refine z_get (v := .ref (ad (a + 1))) C (by omega) ha1 u1 rfl inA_X8 6 (by decide) q_188 rfl rfl dX8_runoff_6 ?_
  refine z_alen (z := 4) C (by omega) ha2 u2 3 rfl rfl dX8_runoff_9 ?_
  refine z_icmp_ge (tgt := 31) C dX8_runoff_10 (by decide) (by omega) (by omega) (fun h => absurd h (by omega)) (fun _ => ?_)
  refine z_iload_n C 1 dX8_runoff_13 rfl ?_
  refine z_aload_n C 2 dX8_runoff_14 rfl ?_
  refine z_get (v := .ref (ad (a + 1))) C (by omega) ha1 u1 rfl inA_X8 6 (by decide) q_188 rfl rfl dX8_runoff_15 ?_
  refine z_iload_n C 0 dX8_runoff_18 rfl ?_
  refine z_aald C (by omega) ha2 u2 3 rfl (2) (by omega) (by omega) (by decide) uq2 dX8_runoff_19 ?_
  refine z_get (v := .int (zI (0))) C (by omega) ha7 up2.1 rfl inA_X3 1 (by decide) q_160 rfl rfl dX8_runoff_20 ?_
  refine z_iadd C dX8_runoff_23 ?_
  rw [show (0 + 0 : Int) = 0 by omega]
  refine z_istore_n (lv' := [(1, .int (zI (0))), (2, .int (zI (2))), (0, .ref (ad a))]) C dX8_runoff_24 rfl (by decide) rfl ?_
  refine z_iinc (z := 3) (lv' := [(2, .int (zI (3))), (1, .int (zI (0))), (0, .ref (ad a))]) (j := 1) C dX8_runoff_25 rfl (congrArg zI (by omega)) (by decide) rfl ?_
  refine z_goto (tgt := 4) C dX8_runoff_28 (by decide) ?_
  refine z_iload_n C 0 dX8_runoff_4 rfl ?_
  refine z_aload_n C 2 dX8_runoff_5 rfl ?_
  refine z_get (v := .ref (ad (a + 1))) C (by omega) ha1 u1 rfl inA_X8 6 (by decide) q_188 rfl rfl dX8_runoff_6 ?_
  refine z_alen (z := 4) C (by omega) ha2 u2 3 rfl rfl dX8_runoff_9 ?_
  refine z_icmp_ge (tgt := 31) C dX8_runoff_10 (by decide) (by omega) (by omega) (fun h => absurd h (by omega)) (fun _ => ?_)
  refine z_iload_n C 1 dX8_runoff_13 rfl ?_
  refine z_aload_n C 2 dX8_runoff_14 rfl ?_
  refine z_get (v := .ref (ad (a + 1))) C (by omega) ha1 u1 rfl inA_X8 6 (by decide) q_188 rfl rfl dX8_runoff_15 ?_
  refine z_iload_n C 0 dX8_runoff_18 rfl ?_
  refine z_aald C (by omega) ha2 u2 3 rfl (3) (by omega) (by omega) (by decide) uq3 dX8_runoff_19 ?_
  refine z_get (v := .int (zI (0))) C (by omega) ha9 up3.1 rfl inA_X3 1 (by decide) q_160 rfl rfl dX8_runoff_20 ?_
  refine z_iadd C dX8_runoff_23 ?_
  rw [show (0 + 0 : Int) = 0 by omega]
  refine z_istore_n (lv' := [(1, .int (zI (0))), (2, .int (zI (3))), (0, .ref (ad a))]) C dX8_runoff_24 rfl (by decide) rfl ?_
  refine z_iinc (z := 4) (lv' := [(2, .int (zI (4))), (1, .int (zI (0))), (0, .ref (ad a))]) (j := 1) C dX8_runoff_25 rfl (congrArg zI (by omega)) (by decide) rfl ?_
  refine z_goto (tgt := 4) C dX8_runoff_28 (by decide) ?_
  refine z_iload_n C 0 dX8_runoff_4 rfl ?_
  refine z_aload_n C 2 dX8_runoff_5 rfl ?_
  refine z_get (v := .ref (ad (a + 1))) C (by omega) ha1 u1 rfl inA_X8 6 (by decide) q_188 rfl rfl dX8_runoff_6 ?_
  refine z_alen (z := 4) C (by omega) ha2 u2 3 rfl rfl dX8_runoff_9 ?_
  refine z_icmp_ge (tgt := 31) C dX8_runoff_10 (by decide) (by omega) (by omega) (fun _ => ?_) (fun h => absurd h (by omega))
  refine z_iload_n C 1 dX8_runoff_31 rfl ?_
  exact z_iret C hr hlk dX8_runoff_32 (by decide) (by decide) ⟨0, rfl, rfl, rfl, rfl, rfl⟩

set_option maxRecDepth 100000 in
set_option maxHeartbeats 4000000 in
theorem c_X8_sum0 (l : Launch) (D : va_G) (A : Nat → Prop) (cs : Nat → ClassId) (tt : Nat) (N : Nat) (ad : Nat → Nat) (g : Nat → va_E) (a : Nat) (hN : a + 10 ≤ N) (ha : isWorld cs ad g a (fun _ => 0) (fun _ => 0) (fun _ => 0) (fun _ _ => 0)) (z : Int) : zM l yX8_sum cX8_sum 4 (some .int) ({ frames := 2, cells := 0, slots := 0, locals := 120 } : Room) D A cs tt N ad g [.ref (ad a), .int (zI z)] (rI0 N ad fun r g' => r = 0 ∧ g' = g) := by
  obtain ⟨u1, ⟨ua, u2, u3⟩, u4⟩ := id ha
  have ha1 : zAt ad (a) (ad a) := rfl
  have ha2 : zAt ad (a + 1) (ad (a + 1)) := rfl
  have up0 : isPack cs ad g (a + 2) 0 0 (fun _ => 0) := u4 0 (by decide)
  have uq0 : ua 0 = some (ad (a + 2)) := u3 0 (by decide)
  have ha3 : zAt ad (a + 2) (ad (a + 2)) := rfl
  have ha4 : zAt ad (a + 2 + 1) (ad (a + 2 + 1)) := rfl
  have up1 : isPack cs ad g (a + 4) 0 0 (fun _ => 0) := u4 1 (by decide)
  have uq1 : ua 1 = some (ad (a + 4)) := u3 1 (by decide)
  have ha5 : zAt ad (a + 4) (ad (a + 4)) := rfl
  have ha6 : zAt ad (a + 4 + 1) (ad (a + 4 + 1)) := rfl
  have up2 : isPack cs ad g (a + 6) 0 0 (fun _ => 0) := u4 2 (by decide)
  have uq2 : ua 2 = some (ad (a + 6)) := u3 2 (by decide)
  have ha7 : zAt ad (a + 6) (ad (a + 6)) := rfl
  have ha8 : zAt ad (a + 6 + 1) (ad (a + 6 + 1)) := rfl
  have up3 : isPack cs ad g (a + 8) 0 0 (fun _ => 0) := u4 3 (by decide)
  have uq3 : ua 3 = some (ad (a + 8)) := u3 3 (by decide)
  have ha9 : zAt ad (a + 8) (ad (a + 8)) := rfl
  have ha10 : zAt ad (a + 8 + 1) (ad (a + 8 + 1)) := rfl
  refine z_of (by decide) (Nat.le_of_ble_eq_true rfl) ?_
  intro p e s m below meth c C hr hlk hnm
  refine z_lv (lv' := [(0, .ref (ad a)), (1, .int (zI (z)))]) [0, 1] rfl ?_
  refine z_iconst (z := 0) C dX8_sum_0 rfl ?_
  refine z_istore_n (lv' := [(2, .int (zI (0))), (0, .ref (ad a)), (1, .int (zI (z)))]) C dX8_sum_1 rfl (by decide) rfl ?_
  refine z_iconst (z := 0) C dX8_sum_2 rfl ?_
  refine z_istore_n (lv' := [(3, .int (zI (0))), (2, .int (zI (0))), (0, .ref (ad a)), (1, .int (zI (z)))]) C dX8_sum_3 rfl (by decide) rfl ?_
  refine z_iload_n C 0 dX8_sum_4 rfl ?_
  refine z_aload_n C 2 dX8_sum_5 rfl ?_
  refine z_get (v := .ref (ad (a + 1))) C (by omega) ha1 u1 rfl inA_X8 6 (by decide) q_188 rfl rfl dX8_sum_6 ?_
  refine z_alen (z := 4) C (by omega) ha2 u2 3 rfl rfl dX8_sum_9 ?_
  refine z_icmp_ge (tgt := 32) C dX8_sum_10 (by decide) (by omega) (by omega) (fun h => absurd h (by omega)) (fun _ => ?_)
  refine z_iload_n C 1 dX8_sum_13 rfl ?_
  refine z_aload_n C 2 dX8_sum_14 rfl ?_
  refine z_get (v := .ref (ad (a + 1))) C (by omega) ha1 u1 rfl inA_X8 6 (by decide) q_188 rfl rfl dX8_sum_15 ?_
  refine z_iload_n C 0 dX8_sum_18 rfl ?_
  refine z_aald C (by omega) ha2 u2 3 rfl (0) (by omega) (by omega) (by decide) uq0 dX8_sum_19 ?_
  refine z_iload_n C 3 dX8_sum_20 rfl ?_
  refine z_cV (As := [.int (zI (z))]) (rest := [.int (zI (0))]) (ci := 5) C (c_X3_sum0 l D A cs tt N ad _ (a + 2) (by omega) 0 _ up0 z) (by omega) ha3 up0.1 rfl rfl mv_yX3_sum q_890 hd_yX3_sum (by decide) (Nat.le_of_ble_eq_true rfl) (by decide) dX8_sum_21 rfl (kI0 fun r0x g0x h0x => ?_)
  obtain ⟨rfl, rfl⟩ := h0x
  refine z_iadd C dX8_sum_24 ?_
  rw [show (0 + 0 : Int) = 0 by omega]
  refine z_istore_n (lv' := [(2, .int (zI (0))), (3, .int (zI (0))), (0, .ref (ad a)), (1, .int (zI (z)))]) C dX8_sum_25 rfl (by decide) rfl ?_
  refine z_iinc (z := 1) (lv' := [(3, .int (zI (1))), (2, .int (zI (0))), (0, .ref (ad a)), (1, .int (zI (z)))]) (j := 1) C dX8_sum_26 rfl (congrArg zI (by omega)) (by decide) rfl ?_
  refine z_goto (tgt := 4) C dX8_sum_29 (by decide) ?_
  refine z_iload_n C 0 dX8_sum_4 rfl ?_
  refine z_aload_n C 2 dX8_sum_5 rfl ?_
  refine z_get (v := .ref (ad (a + 1))) C (by omega) ha1 u1 rfl inA_X8 6 (by decide) q_188 rfl rfl dX8_sum_6 ?_
  refine z_alen (z := 4) C (by omega) ha2 u2 3 rfl rfl dX8_sum_9 ?_
  refine z_icmp_ge (tgt := 32) C dX8_sum_10 (by decide) (by omega) (by omega) (fun h => absurd h (by omega)) (fun _ => ?_)
  refine z_iload_n C 1 dX8_sum_13 rfl ?_
  refine z_aload_n C 2 dX8_sum_14 rfl ?_
  refine z_get (v := .ref (ad (a + 1))) C (by omega) ha1 u1 rfl inA_X8 6 (by decide) q_188 rfl rfl dX8_sum_15 ?_
  refine z_iload_n C 0 dX8_sum_18 rfl ?_
  refine z_aald C (by omega) ha2 u2 3 rfl (1) (by omega) (by omega) (by decide) uq1 dX8_sum_19 ?_
  refine z_iload_n C 3 dX8_sum_20 rfl ?_
  refine z_cV (As := [.int (zI (z))]) (rest := [.int (zI (0))]) (ci := 5) C (c_X3_sum0 l D A cs tt N ad _ (a + 4) (by omega) 0 _ up1 z) (by omega) ha5 up1.1 rfl rfl mv_yX3_sum q_890 hd_yX3_sum (by decide) (Nat.le_of_ble_eq_true rfl) (by decide) dX8_sum_21 rfl (kI0 fun r1x g1x h1x => ?_)
  obtain ⟨rfl, rfl⟩ := h1x
  refine z_iadd C dX8_sum_24 ?_
  rw [show (0 + 0 : Int) = 0 by omega]
  refine z_istore_n (lv' := [(2, .int (zI (0))), (3, .int (zI (1))), (0, .ref (ad a)), (1, .int (zI (z)))]) C dX8_sum_25 rfl (by decide) rfl ?_
  refine z_iinc (z := 2) (lv' := [(3, .int (zI (2))), (2, .int (zI (0))), (0, .ref (ad a)), (1, .int (zI (z)))]) (j := 1) C dX8_sum_26 rfl (congrArg zI (by omega)) (by decide) rfl ?_
  refine z_goto (tgt := 4) C dX8_sum_29 (by decide) ?_
  refine z_iload_n C 0 dX8_sum_4 rfl ?_
  refine z_aload_n C 2 dX8_sum_5 rfl ?_
  refine z_get (v := .ref (ad (a + 1))) C (by omega) ha1 u1 rfl inA_X8 6 (by decide) q_188 rfl rfl dX8_sum_6 ?_
  refine z_alen (z := 4) C (by omega) ha2 u2 3 rfl rfl dX8_sum_9 ?_
  refine z_icmp_ge (tgt := 32) C dX8_sum_10 (by decide) (by omega) (by omega) (fun h => absurd h (by omega)) (fun _ => ?_)
  refine z_iload_n C 1 dX8_sum_13 rfl ?_
  refine z_aload_n C 2 dX8_sum_14 rfl ?_
  refine z_get (v := .ref (ad (a + 1))) C (by omega) ha1 u1 rfl inA_X8 6 (by decide) q_188 rfl rfl dX8_sum_15 ?_
  refine z_iload_n C 0 dX8_sum_18 rfl ?_
  refine z_aald C (by omega) ha2 u2 3 rfl (2) (by omega) (by omega) (by decide) uq2 dX8_sum_19 ?_
  refine z_iload_n C 3 dX8_sum_20 rfl ?_
  refine z_cV (As := [.int (zI (z))]) (rest := [.int (zI (0))]) (ci := 5) C (c_X3_sum0 l D A cs tt N ad _ (a + 6) (by omega) 0 _ up2 z) (by omega) ha7 up2.1 rfl rfl mv_yX3_sum q_890 hd_yX3_sum (by decide) (Nat.le_of_ble_eq_true rfl) (by decide) dX8_sum_21 rfl (kI0 fun r2x g2x h2x => ?_)
  obtain ⟨rfl, rfl⟩ := h2x
  refine z_iadd C dX8_sum_24 ?_
  rw [show (0 + 0 : Int) = 0 by omega]
  refine z_istore_n (lv' := [(2, .int (zI (0))), (3, .int (zI (2))), (0, .ref (ad a)), (1, .int (zI (z)))]) C dX8_sum_25 rfl (by decide) rfl ?_
  refine z_iinc (z := 3) (lv' := [(3, .int (zI (3))), (2, .int (zI (0))), (0, .ref (ad a)), (1, .int (zI (z)))]) (j := 1) C dX8_sum_26 rfl (congrArg zI (by omega)) (by decide) rfl ?_
  refine z_goto (tgt := 4) C dX8_sum_29 (by decide) ?_
  refine z_iload_n C 0 dX8_sum_4 rfl ?_
  refine z_aload_n C 2 dX8_sum_5 rfl ?_
  refine z_get (v := .ref (ad (a + 1))) C (by omega) ha1 u1 rfl inA_X8 6 (by decide) q_188 rfl rfl dX8_sum_6 ?_
  refine z_alen (z := 4) C (by omega) ha2 u2 3 rfl rfl dX8_sum_9 ?_
  refine z_icmp_ge (tgt := 32) C dX8_sum_10 (by decide) (by omega) (by omega) (fun h => absurd h (by omega)) (fun _ => ?_)
  refine z_iload_n C 1 dX8_sum_13 rfl ?_
  refine z_aload_n C 2 dX8_sum_14 rfl ?_
  refine z_get (v := .ref (ad (a + 1))) C (by omega) ha1 u1 rfl inA_X8 6 (by decide) q_188 rfl rfl dX8_sum_15 ?_
  refine z_iload_n C 0 dX8_sum_18 rfl ?_
  refine z_aald C (by omega) ha2 u2 3 rfl (3) (by omega) (by omega) (by decide) uq3 dX8_sum_19 ?_
  refine z_iload_n C 3 dX8_sum_20 rfl ?_
  refine z_cV (As := [.int (zI (z))]) (rest := [.int (zI (0))]) (ci := 5) C (c_X3_sum0 l D A cs tt N ad _ (a + 8) (by omega) 0 _ up3 z) (by omega) ha9 up3.1 rfl rfl mv_yX3_sum q_890 hd_yX3_sum (by decide) (Nat.le_of_ble_eq_true rfl) (by decide) dX8_sum_21 rfl (kI0 fun r3x g3x h3x => ?_)
  obtain ⟨rfl, rfl⟩ := h3x
  refine z_iadd C dX8_sum_24 ?_
  rw [show (0 + 0 : Int) = 0 by omega]
  refine z_istore_n (lv' := [(2, .int (zI (0))), (3, .int (zI (3))), (0, .ref (ad a)), (1, .int (zI (z)))]) C dX8_sum_25 rfl (by decide) rfl ?_
  refine z_iinc (z := 4) (lv' := [(3, .int (zI (4))), (2, .int (zI (0))), (0, .ref (ad a)), (1, .int (zI (z)))]) (j := 1) C dX8_sum_26 rfl (congrArg zI (by omega)) (by decide) rfl ?_
  refine z_goto (tgt := 4) C dX8_sum_29 (by decide) ?_
  refine z_iload_n C 0 dX8_sum_4 rfl ?_
  refine z_aload_n C 2 dX8_sum_5 rfl ?_
  refine z_get (v := .ref (ad (a + 1))) C (by omega) ha1 u1 rfl inA_X8 6 (by decide) q_188 rfl rfl dX8_sum_6 ?_
  refine z_alen (z := 4) C (by omega) ha2 u2 3 rfl rfl dX8_sum_9 ?_
  refine z_icmp_ge (tgt := 32) C dX8_sum_10 (by decide) (by omega) (by omega) (fun _ => ?_) (fun h => absurd h (by omega))
  refine z_iload_n C 1 dX8_sum_32 rfl ?_
  exact z_iret C hr hlk dX8_sum_33 (by decide) (by decide) ⟨0, rfl, rfl, rfl, rfl, rfl⟩

