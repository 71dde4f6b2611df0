theorem b8_of (x : Int32) : ∃ z : Int, x.toInt8.toInt32 = zI z ∧ -128 ≤ z ∧ z ≤ 127 := ⟨x.toInt8.toInt, (Int32.ofInt_int8ToInt x.toInt8).symm, by have := x.toInt8.le_toInt; omega, by have := x.toInt8.toInt_lt; omega⟩
abbrev recC (ad : Nat → Nat) (i : Nat) (t : Int) : va_E := oC 11 [.ref (ad (i + 1)), .int (zI t), .int (zI (-1)), .ref (ad (i + 2)), .ref (ad (i + 4)), .ref (ad (i + 11)), .ref (ad (i + 447)), .int (zI 0), .ref (ad (i + 883)), .ref (ad (i + 890)), .ref (ad (i + 900)), .ref (ad (i + 910)), .ref (ad (i + 917)), .ref (ad (i + 919))]

set_option maxRecDepth 100000 in
set_option maxHeartbeats 4000000 in
theorem c_X9_putBytes (l : Launch) (D : va_G) (A : Nat → Prop) (cs : Nat → ClassId) (tt : Nat) (N : Nat) (ad : Nat → Nat) (g : Nat → va_E) (i t : Nat) (hN : i + 2 ≤ N) (ht4 : t + 4 ≤ 900) (r : Nat → Int) (hg : g i = recC ad i (t : Int)) (ht : g (i + 1) = bA cs 900 r) (z : Int) : zM l yX9_putBytes cX9_putBytes 3 none ({ frames := 1, cells := 0, slots := 0, locals := 60 } : Room) D A cs tt N ad g [.ref (ad i), .int (zI z)] (rV0 N ad fun g' => g' i = recC ad i ((t + 4 : Nat) : Int) ∧ (∃ r' : Nat → Int, g' (i + 1) = bA cs 900 r') ∧ ∀ j, j ≠ i → j ≠ i + 1 → g' j = g j) := by
  have ha1 : zAt ad (i) (ad i) := rfl
  have ha2 : zAt ad (i + 1) (ad (i + 1)) := rfl
  refine z_of (by decide) (Nat.le_of_ble_eq_true rfl) ?_
  intro p e s m below meth c C hr hlk hnm
  refine z_lv (lv' := [(0, .ref (ad i)), (1, .int (zI (z)))]) [0, 1] rfl ?_
  refine z_bipush (z := 24) C dX9_putBytes_0 (by decide) ?_
  refine z_istore_n (lv' := [(2, .int (zI (24))), (0, .ref (ad i)), (1, .int (zI (z)))]) C dX9_putBytes_2 rfl (by decide) rfl ?_
  refine z_iload_n C 0 dX9_putBytes_3 rfl ?_
  refine z_if_lt (tgt := 48) C dX9_putBytes_4 (by decide) (by omega) (fun h => absurd h (by omega)) (fun _ => ?_)
  refine z_aload_n C 1 dX9_putBytes_7 rfl ?_
  refine z_get (v := .int (zI ((t : Int)))) C (by omega) ha1 hg rfl inA_X9 1 (by decide) q_350 rfl rfl dX9_putBytes_8 ?_
  refine z_aload_n C 1 dX9_putBytes_11 rfl ?_
  refine z_get (v := .ref (ad (i + 1))) C (by omega) ha1 hg rfl inA_X9 0 (by decide) q_349 rfl rfl dX9_putBytes_12 ?_
  refine z_alen (z := 900) C (by omega) ha2 ht 0 rfl rfl dX9_putBytes_15 ?_
  refine z_icmp_ge (tgt := 48) C dX9_putBytes_16 (by decide) (by omega) (by omega) (fun h => absurd h (by omega)) (fun _ => ?_)
  refine z_aload_n C 1 dX9_putBytes_19 rfl ?_
  refine z_get (v := .ref (ad (i + 1))) C (by omega) ha1 hg rfl inA_X9 0 (by decide) q_349 rfl rfl dX9_putBytes_20 ?_
  refine z_aload_n C 1 dX9_putBytes_23 rfl ?_
  refine z_get (v := .int (zI ((t : Int)))) C (by omega) ha1 hg rfl inA_X9 1 (by decide) q_350 rfl rfl dX9_putBytes_24 ?_
  refine z_iload_n C 2 dX9_putBytes_27 rfl ?_
  refine z_iload_n C 0 dX9_putBytes_28 rfl ?_
  obtain ⟨z3, e4, -⟩ := zI_of (((zI z).toUInt32 >>> ((zI (24)).toUInt32 &&& Int32.toUInt32 31)).toInt32)
  refine z_iushr (z := z3) C dX9_putBytes_29 e4 ?_
  obtain ⟨z5, e6, h7⟩ := b8_of (zI z3)
  refine z_i2b (z := z5) C dX9_putBytes_30 e6 ?_
  refine z_bast C (by omega) ha2 ht (t) (by omega) (by omega) (by decide) h7 dX9_putBytes_31 (fun g8 eg9 => ?_)
  have hg10 := up_s eg9
  refine z_aload_n C 1 dX9_putBytes_32 rfl ?_
  refine z_dup C dX9_putBytes_33 rfl ?_
  have hg11 := up_n eg9 hg (ne_o (i := i) (c := 0) (d := 1) rfl)
  refine z_get (v := .int (zI ((t : Int)))) C (by omega) ha1 hg11 rfl inA_X9 1 (by decide) q_350 rfl rfl dX9_putBytes_34 ?_
  refine z_iconst (z := 1) C dX9_putBytes_37 rfl ?_
  refine z_iadd C dX9_putBytes_38 ?_
  rw [show ((t : Int)) + 1 = ((t + 1 : Nat) : Int) by omega]
  refine z_put (fs' := [.ref (ad (i + 1)), .int (zI (((t + 1 : Nat) : Int))), .int (zI (-1)), .ref (ad (i + 2)), .ref (ad (i + 4)), .ref (ad (i + 11)), .ref (ad (i + 447)), .int (zI (0)), .ref (ad (i + 883)), .ref (ad (i + 890)), .ref (ad (i + 900)), .ref (ad (i + 910)), .ref (ad (i + 917)), .ref (ad (i + 919))]) C (by omega) ha1 hg11 tyX9 tyX9_ok nmX9 rfl inA_X9 1 (by decide) q_350 rfl rfl rfl rfl (Nat.le_of_ble_eq_true rfl) rfl dX9_putBytes_39 (fun g12 eg13 => ?_)
  have hg14 := up_s eg13
  refine z_iinc (z := 16) (lv' := [(2, .int (zI (16))), (0, .ref (ad i)), (1, .int (zI (z)))]) (j := 0) C dX9_putBytes_42 rfl (congrArg zI (by omega)) (by decide) rfl ?_
  refine z_goto (tgt := 3) C dX9_putBytes_45 (by decide) ?_
  refine z_iload_n C 0 dX9_putBytes_3 rfl ?_
  refine z_if_lt (tgt := 48) C dX9_putBytes_4 (by decide) (by omega) (fun h => absurd h (by omega)) (fun _ => ?_)
  refine z_aload_n C 1 dX9_putBytes_7 rfl ?_
  refine z_get (v := .int (zI (((t + 1 : Nat) : Int)))) C (by omega) ha1 hg14 rfl inA_X9 1 (by decide) q_350 rfl rfl dX9_putBytes_8 ?_
  refine z_aload_n C 1 dX9_putBytes_11 rfl ?_
  refine z_get (v := .ref (ad (i + 1))) C (by omega) ha1 hg14 rfl inA_X9 0 (by decide) q_349 rfl rfl dX9_putBytes_12 ?_
  have hg15 := up_n eg13 hg10 (ne_o (i := i) (c := 1) (d := 0) rfl)
  refine z_alen (z := 900) C (by omega) ha2 hg15 0 rfl rfl dX9_putBytes_15 ?_
  refine z_icmp_ge (tgt := 48) C dX9_putBytes_16 (by decide) (by omega) (by omega) (fun h => absurd h (by omega)) (fun _ => ?_)
  refine z_aload_n C 1 dX9_putBytes_19 rfl ?_
  refine z_get (v := .ref (ad (i + 1))) C (by omega) ha1 hg14 rfl inA_X9 0 (by decide) q_349 rfl rfl dX9_putBytes_20 ?_
  refine z_aload_n C 1 dX9_putBytes_23 rfl ?_
  refine z_get (v := .int (zI (((t + 1 : Nat) : Int)))) C (by omega) ha1 hg14 rfl inA_X9 1 (by decide) q_350 rfl rfl dX9_putBytes_24 ?_
  refine z_iload_n C 2 dX9_putBytes_27 rfl ?_
  refine z_iload_n C 0 dX9_putBytes_28 rfl ?_
  obtain ⟨z16, e17, -⟩ := zI_of (((zI z).toUInt32 >>> ((zI (16)).toUInt32 &&& Int32.toUInt32 31)).toInt32)
  refine z_iushr (z := z16) C dX9_putBytes_29 e17 ?_
  obtain ⟨z18, e19, h20⟩ := b8_of (zI z16)
  refine z_i2b (z := z18) C dX9_putBytes_30 e19 ?_
  refine z_bast C (by omega) ha2 hg15 (t + 1) (by omega) (by omega) (by decide) h20 dX9_putBytes_31 (fun g21 eg22 => ?_)
  have hg23 := up_s eg22
  refine z_aload_n C 1 dX9_putBytes_32 rfl ?_
  refine z_dup C dX9_putBytes_33 rfl ?_
  have hg24 := up_n eg22 hg14 (ne_o (i := i) (c := 0) (d := 1) rfl)
  refine z_get (v := .int (zI (((t + 1 : Nat) : Int)))) C (by omega) ha1 hg24 rfl inA_X9 1 (by decide) q_350 rfl rfl dX9_putBytes_34 ?_
  refine z_iconst (z := 1) C dX9_putBytes_37 rfl ?_
  refine z_iadd C dX9_putBytes_38 ?_
  rw [show (((t + 1 : Nat) : Int)) + 1 = ((t + 2 : Nat) : Int) by omega]
  refine z_put (fs' := [.ref (ad (i + 1)), .int (zI (((t + 2 : Nat) : Int))), .int (zI (-1)), .ref (ad (i + 2)), .ref (ad (i + 4)), .ref (ad (i + 11)), .ref (ad (i + 447)), .int (zI (0)), .ref (ad (i + 883)), .ref (ad (i + 890)), .ref (ad (i + 900)), .ref (ad (i + 910)), .ref (ad (i + 917)), .ref (ad (i + 919))]) C (by omega) ha1 hg24 tyX9 tyX9_ok nmX9 rfl inA_X9 1 (by decide) q_350 rfl rfl rfl rfl (Nat.le_of_ble_eq_true rfl) rfl dX9_putBytes_39 (fun g25 eg26 => ?_)
  have hg27 := up_s eg26
  refine z_iinc (z := 8) (lv' := [(2, .int (zI (8))), (0, .ref (ad i)), (1, .int (zI (z)))]) (j := 0) C dX9_putBytes_42 rfl (congrArg zI (by omega)) (by decide) rfl ?_
  refine z_goto (tgt := 3) C dX9_putBytes_45 (by decide) ?_
  refine z_iload_n C 0 dX9_putBytes_3 rfl ?_
  refine z_if_lt (tgt := 48) C dX9_putBytes_4 (by decide) (by omega) (fun h => absurd h (by omega)) (fun _ => ?_)
  refine z_aload_n C 1 dX9_putBytes_7 rfl ?_
  refine z_get (v := .int (zI (((t + 2 : Nat) : Int)))) C (by omega) ha1 hg27 rfl inA_X9 1 (by decide) q_350 rfl rfl dX9_putBytes_8 ?_
  refine z_aload_n C 1 dX9_putBytes_11 rfl ?_
  refine z_get (v := .ref (ad (i + 1))) C (by omega) ha1 hg27 rfl inA_X9 0 (by decide) q_349 rfl rfl dX9_putBytes_12 ?_
  have hg28 := up_n eg26 hg23 (ne_o (i := i) (c := 1) (d := 0) rfl)
  refine z_alen (z := 900) C (by omega) ha2 hg28 0 rfl rfl dX9_putBytes_15 ?_
  refine z_icmp_ge (tgt := 48) C dX9_putBytes_16 (by decide) (by omega) (by omega) (fun h => absurd h (by omega)) (fun _ => ?_)
  refine z_aload_n C 1 dX9_putBytes_19 rfl ?_
  refine z_get (v := .ref (ad (i + 1))) C (by omega) ha1 hg27 rfl inA_X9 0 (by decide) q_349 rfl rfl dX9_putBytes_20 ?_
  refine z_aload_n C 1 dX9_putBytes_23 rfl ?_
  refine z_get (v := .int (zI (((t + 2 : Nat) : Int)))) C (by omega) ha1 hg27 rfl inA_X9 1 (by decide) q_350 rfl rfl dX9_putBytes_24 ?_
  refine z_iload_n C 2 dX9_putBytes_27 rfl ?_
  refine z_iload_n C 0 dX9_putBytes_28 rfl ?_
  obtain ⟨z29, e30, -⟩ := zI_of (((zI z).toUInt32 >>> ((zI (8)).toUInt32 &&& Int32.toUInt32 31)).toInt32)
  refine z_iushr (z := z29) C dX9_putBytes_29 e30 ?_
  obtain ⟨z31, e32, h33⟩ := b8_of (zI z29)
  refine z_i2b (z := z31) C dX9_putBytes_30 e32 ?_
  refine z_bast C (by omega) ha2 hg28 (t + 2) (by omega) (by omega) (by decide) h33 dX9_putBytes_31 (fun g34 eg35 => ?_)
  have hg36 := up_s eg35
  refine z_aload_n C 1 dX9_putBytes_32 rfl ?_
  refine z_dup C dX9_putBytes_33 rfl ?_
  have hg37 := up_n eg35 hg27 (ne_o (i := i) (c := 0) (d := 1) rfl)
  refine z_get (v := .int (zI (((t + 2 : Nat) : Int)))) C (by omega) ha1 hg37 rfl inA_X9 1 (by decide) q_350 rfl rfl dX9_putBytes_34 ?_
  refine z_iconst (z := 1) C dX9_putBytes_37 rfl ?_
  refine z_iadd C dX9_putBytes_38 ?_
  rw [show (((t + 2 : Nat) : Int)) + 1 = ((t + 3 : Nat) : Int) by omega]
  refine z_put (fs' := [.ref (ad (i + 1)), .int (zI (((t + 3 : Nat) : Int))), .int (zI (-1)), .ref (ad (i + 2)), .ref (ad (i + 4)), .ref (ad (i + 11)), .ref (ad (i + 447)), .int (zI (0)), .ref (ad (i + 883)), .ref (ad (i + 890)), .ref (ad (i + 900)), .ref (ad (i + 910)), .ref (ad (i + 917)), .ref (ad (i + 919))]) C (by omega) ha1 hg37 tyX9 tyX9_ok nmX9 rfl inA_X9 1 (by decide) q_350 rfl rfl rfl rfl (Nat.le_of_ble_eq_true rfl) rfl dX9_putBytes_39 (fun g38 eg39 => ?_)
  have hg40 := up_s eg39
  refine z_iinc (z := 0) (lv' := [(2, .int (zI (0))), (0, .ref (ad i)), (1, .int (zI (z)))]) (j := 0) C dX9_putBytes_42 rfl (congrArg zI (by omega)) (by decide) rfl ?_
  refine z_goto (tgt := 3) C dX9_putBytes_45 (by decide) ?_
  refine z_iload_n C 0 dX9_putBytes_3 rfl ?_
  refine z_if_lt (tgt := 48) C dX9_putBytes_4 (by decide) (by omega) (fun h => absurd h (by omega)) (fun _ => ?_)
  refine z_aload_n C 1 dX9_putBytes_7 rfl ?_
  refine z_get (v := .int (zI (((t + 3 : Nat) : Int)))) C (by omega) ha1 hg40 rfl inA_X9 1 (by decide) q_350 rfl rfl dX9_putBytes_8 ?_
  refine z_aload_n C 1 dX9_putBytes_11 rfl ?_
  refine z_get (v := .ref (ad (i + 1))) C (by omega) ha1 hg40 rfl inA_X9 0 (by decide) q_349 rfl rfl dX9_putBytes_12 ?_
  have hg41 := up_n eg39 hg36 (ne_o (i := i) (c := 1) (d := 0) rfl)
  refine z_alen (z := 900) C (by omega) ha2 hg41 0 rfl rfl dX9_putBytes_15 ?_
  refine z_icmp_ge (tgt := 48) C dX9_putBytes_16 (by decide) (by omega) (by omega) (fun h => absurd h (by omega)) (fun _ => ?_)
  refine z_aload_n C 1 dX9_putBytes_19 rfl ?_
  refine z_get (v := .ref (ad (i + 1))) C (by omega) ha1 hg40 rfl inA_X9 0 (by decide) q_349 rfl rfl dX9_putBytes_20 ?_
  refine z_aload_n C 1 dX9_putBytes_23 rfl ?_
  refine z_get (v := .int (zI (((t + 3 : Nat) : Int)))) C (by omega) ha1 hg40 rfl inA_X9 1 (by decide) q_350 rfl rfl dX9_putBytes_24 ?_
  refine z_iload_n C 2 dX9_putBytes_27 rfl ?_
  refine z_iload_n C 0 dX9_putBytes_28 rfl ?_
  obtain ⟨z42, e43, -⟩ := zI_of (((zI z).toUInt32 >>> ((zI (0)).toUInt32 &&& Int32.toUInt32 31)).toInt32)
  refine z_iushr (z := z42) C dX9_putBytes_29 e43 ?_
  obtain ⟨z44, e45, h46⟩ := b8_of (zI z42)
  refine z_i2b (z := z44) C dX9_putBytes_30 e45 ?_
  refine z_bast C (by omega) ha2 hg41 (t + 3) (by omega) (by omega) (by decide) h46 dX9_putBytes_31 (fun g47 eg48 => ?_)
  have hg49 := up_s eg48
  refine z_aload_n C 1 dX9_putBytes_32 rfl ?_
  refine z_dup C dX9_putBytes_33 rfl ?_
  have hg50 := up_n eg48 hg40 (ne_o (i := i) (c := 0) (d := 1) rfl)
  refine z_get (v := .int (zI (((t + 3 : Nat) : Int)))) C (by omega) ha1 hg50 rfl inA_X9 1 (by decide) q_350 rfl rfl dX9_putBytes_34 ?_
  refine z_iconst (z := 1) C dX9_putBytes_37 rfl ?_
  refine z_iadd C dX9_putBytes_38 ?_
  rw [show (((t + 3 : Nat) : Int)) + 1 = ((t + 4 : Nat) : Int) by omega]
  refine z_put (fs' := [.ref (ad (i + 1)), .int (zI (((t + 4 : Nat) : Int))), .int (zI (-1)), .ref (ad (i + 2)), .ref (ad (i + 4)), .ref (ad (i + 11)), .ref (ad (i + 447)), .int (zI (0)), .ref (ad (i + 883)), .ref (ad (i + 890)), .ref (ad (i + 900)), .ref (ad (i + 910)), .ref (ad (i + 917)), .ref (ad (i + 919))]) C (by omega) ha1 hg50 tyX9 tyX9_ok nmX9 rfl inA_X9 1 (by decide) q_350 rfl rfl rfl rfl (Nat.le_of_ble_eq_true rfl) rfl dX9_putBytes_39 (fun g51 eg52 => ?_)
  have hg53 := up_s eg52
  refine z_iinc (z := -8) (lv' := [(2, .int (zI (-8))), (0, .ref (ad i)), (1, .int (zI (z)))]) (j := 0) C dX9_putBytes_42 rfl (congrArg zI (by omega)) (by decide) rfl ?_
  refine z_goto (tgt := 3) C dX9_putBytes_45 (by decide) ?_
  refine z_iload_n C 0 dX9_putBytes_3 rfl ?_
  refine z_if_lt (tgt := 48) C dX9_putBytes_4 (by decide) (by omega) (fun _ => ?_) (fun h => absurd h (by omega))
  have hg54 := up_n eg52 hg49 (ne_o (i := i) (c := 1) (d := 0) rfl)
  exact z_vret C hr hlk dX9_putBytes_48 (by decide) (by decide) ⟨rfl, rfl, rfl, hg53, ⟨_, hg54⟩, fun j h1 h2 => by rw [eg52, va_up_ne _ _ (by omega)]; rw [eg48, va_up_ne _ _ (by omega)]; rw [eg39, va_up_ne _ _ (by omega)]; rw [eg35, va_up_ne _ _ (by omega)]; rw [eg26, va_up_ne _ _ (by omega)]; rw [eg22, va_up_ne _ _ (by omega)]; rw [eg13, va_up_ne _ _ (by omega)]; rw [eg9, va_up_ne _ _ (by omega)]⟩

