section
-- 22.packm.lean.txt
set_option maxRecDepth 100000 in
set_option maxHeartbeats 4000000 in
theorem c_X3_wet (l : Launch) (D : va_G) (A : Nat → Prop) (cs : Nat → ClassId) (tt : Nat) (N : Nat) (ad : Nat → Nat) (g : Nat → va_E) (a : Nat) (hN : a + 2 ≤ N) (sz ro : Int) (r : Nat → Int) (hz : 0 ≤ sz ∧ sz ≤ 12) (ha : isPack cs ad g a sz ro r) (z : Int) (hzl : 0 ≤ z ∧ z ≤ 12) (z1 : Int) (hz1 : -2147483648 ≤ z1 ∧ z1 ≤ 2147483647) : zM l yX3_wet cX3_wet 3 none ({ frames := 1, cells := 0, slots := 0, locals := 60 } : Room) D A cs tt N ad g [.ref (ad a), .int (zI (z)), .int (zI (z1))] (rV0 N ad fun g' => okPack cs ad g' a ∧ ∀ j, j ≠ a → j ≠ a + 1 → g' j = g j) := by
  have hay1 : zAt ad (a) (ad a) := rfl
  have hay2 : zAt ad (a + 1) (ad (a + 1)) := rfl
  refine z_of (by decide) (Nat.le_of_ble_eq_true rfl) ?_
  intro p e s m below meth c C hr hlk hnm
  refine z_lv (lv' := [(0, .ref (ad a)), (1, .int (zI (z))), (2, .int (zI (z1)))]) [0, 1, 2] rfl ?_
  refine z_iload_n C 1 dX3_wet_0 rfl ?_
  refine z_if_le (tgt := 22) C dX3_wet_1 (by decide) (by omega) (fun hby3 => ?_) (fun hby3 => ?_)
  · refine z_aload_n C 0 dX3_wet_22 rfl ?_
    refine z_dup C dX3_wet_23 rfl ?_
    refine z_get (v := .int (zI (ro))) C (lt_A0 hN rfl) hay1 ha.1 rfl inA_X3 1 (by decide) q_159 rfl rfl dX3_wet_24 ?_
    refine z_iload_n C 2 dX3_wet_27 rfl ?_
    refine z_iadd C dX3_wet_28 ?_
    refine z_put (fs' := [.int (zI (sz)), .int (zI (ro + z1)), .ref (ad (a + 1))]) C (lt_A0 hN rfl) hay1 ha.1 tyX3 tyX3_ok nmX3 rfl inA_X3 1 (by decide) q_159 rfl rfl rfl rfl (Nat.le_of_ble_eq_true rfl) rfl dX3_wet_29 (fun gy4 egy5 => ?_)
    have hgy6 := up_s egy5
    have hgy7 := up_n egy5 ha.2 (ne_o (i := a) (c := 1) (d := 0) rfl)
    exact z_vret C hr hlk dX3_wet_32 (by decide) (by decide) ⟨rfl, rfl, rfl, ⟨_, _, _, (by omega), hgy6, hgy7⟩, fun j j1 j2 => by rw [egy5, va_up_ne _ _ (by omega)]⟩
  · refine z_aload_n C 0 dX3_wet_4 rfl ?_
    refine z_get (v := .ref (ad (a + 1))) C (lt_A0 hN rfl) hay1 ha.1 rfl inA_X3 2 (by decide) q_162 rfl rfl dX3_wet_5 ?_
    refine z_bipush (z := 24) C dX3_wet_8 (by decide) ?_
    refine z_iload_n C 1 dX3_wet_10 rfl ?_
    refine z_iadd C dX3_wet_11 ?_
    refine z_iconst (z := 1) C dX3_wet_12 rfl ?_
    refine z_isub C dX3_wet_13 ?_
    refine z_dup2 C dX3_wet_14 rfl rfl ?_
    refine z_iald C (lt_A (c := 1) hN rfl) hay2 ha.2 (((24 + z) - 1).toNat) (by omega) (by omega) (by decide) dX3_wet_15 ?_
    refine z_iload_n C 2 dX3_wet_16 rfl ?_
    refine z_iadd C dX3_wet_17 ?_
    refine z_iast C (lt_A (c := 1) hN rfl) hay2 ha.2 (((24 + z) - 1).toNat) (by omega) (by omega) (by decide) dX3_wet_18 (fun gy8 egy9 => ?_)
    have hgy10 := up_s egy9
    refine z_goto (tgt := 32) C dX3_wet_19 (by decide) ?_
    have hgy11 := up_n egy9 ha.1 (ne_o (i := a) (c := 0) (d := 1) rfl)
    exact z_vret C hr hlk dX3_wet_32 (by decide) (by decide) ⟨rfl, rfl, rfl, ⟨_, _, _, (by omega), hgy11, hgy10⟩, fun j j1 j2 => by rw [egy9, va_up_ne _ _ (by omega)]⟩

set_option maxRecDepth 100000 in
set_option maxHeartbeats 4000000 in
theorem c_X3_add (l : Launch) (D : va_G) (A : Nat → Prop) (cs : Nat → ClassId) (tt : Nat) (N : Nat) (ad : Nat → Nat) (g : Nat → va_E) (a : Nat) (hN : a + 2 ≤ N) (sz ro : Int) (r : Nat → Int) (hz : 0 ≤ sz ∧ sz ≤ 12) (ha : isPack cs ad g a sz ro r) (z : Int) (hz : -2147483648 ≤ z ∧ z ≤ 2147483647) (z1 : Int) (hz1 : -2147483648 ≤ z1 ∧ z1 ≤ 2147483647) (z2 : Int) (hz2 : -2147483648 ≤ z2 ∧ z2 ≤ 2147483647) (z3 : Int) (hz3 : -2147483648 ≤ z3 ∧ z3 ≤ 2147483647) (z4 : Int) (hz4 : -2147483648 ≤ z4 ∧ z4 ≤ 2147483647) (z5 : Int) (hz5 : -2147483648 ≤ z5 ∧ z5 ≤ 2147483647) : zM l yX3_add cX3_add 7 none ({ frames := 1, cells := 0, slots := 0, locals := 60 } : Room) D A cs tt N ad g [.ref (ad a), .int (zI (z)), .int (zI (z1)), .int (zI (z2)), .int (zI (z3)), .int (zI (z4)), .int (zI (z5))] (rV0 N ad fun g' => okPack cs ad g' a ∧ ∀ j, j ≠ a → j ≠ a + 1 → g' j = g j) := by
  have hay1 : zAt ad (a) (ad a) := rfl
  have hay2 : zAt ad (a + 1) (ad (a + 1)) := rfl
  refine z_of (by decide) (Nat.le_of_ble_eq_true rfl) ?_
  intro p e s m below meth c C hr hlk hnm
  refine z_lv (lv' := [(0, .ref (ad a)), (1, .int (zI (z))), (2, .int (zI (z1))), (3, .int (zI (z2))), (4, .int (zI (z3))), (5, .int (zI (z4))), (6, .int (zI (z5)))]) [0, 1, 2, 3, 4, 5, 6] rfl ?_
  refine z_aload_n C 0 dX3_add_0 rfl ?_
  refine z_get (v := .int (zI (sz))) C (lt_A0 hN rfl) hay1 ha.1 rfl inA_X3 0 (by decide) q_154 rfl rfl dX3_add_1 ?_
  refine z_bipush (z := 12) C dX3_add_4 (by decide) ?_
  refine z_icmp_ge (tgt := 112) C dX3_add_6 (by decide) (by omega) (by omega) (fun hby3 => ?_) (fun hby3 => ?_)
  · exact z_vret C hr hlk dX3_add_112 (by decide) (by decide) ⟨rfl, rfl, rfl, ⟨_, _, _, (by omega), ha.1, ha.2⟩, fun j j1 j2 => by rfl⟩
  · refine z_aload_n C 0 dX3_add_9 rfl ?_
    refine z_get (v := .ref (ad (a + 1))) C (lt_A0 hN rfl) hay1 ha.1 rfl inA_X3 2 (by decide) q_162 rfl rfl dX3_add_10 ?_
    refine z_iconst (z := 0) C dX3_add_13 rfl ?_
    refine z_aload_n C 0 dX3_add_14 rfl ?_
    refine z_get (v := .int (zI (sz))) C (lt_A0 hN rfl) hay1 ha.1 rfl inA_X3 0 (by decide) q_154 rfl rfl dX3_add_15 ?_
    refine z_iadd C dX3_add_18 ?_
    refine z_iload_n C 1 dX3_add_19 rfl ?_
    refine z_iast C (lt_A (c := 1) hN rfl) hay2 ha.2 ((0 + sz).toNat) (by omega) (by omega) (by decide) dX3_add_20 (fun gy4 egy5 => ?_)
    have hgy6 := up_s egy5
    refine z_aload_n C 0 dX3_add_21 rfl ?_
    have hgy7 := up_n egy5 ha.1 (ne_o (i := a) (c := 0) (d := 1) rfl)
    refine z_get (v := .ref (ad (a + 1))) C (lt_A0 hN rfl) hay1 hgy7 rfl inA_X3 2 (by decide) q_162 rfl rfl dX3_add_22 ?_
    refine z_bipush (z := 12) C dX3_add_25 (by decide) ?_
    refine z_aload_n C 0 dX3_add_27 rfl ?_
    refine z_get (v := .int (zI (sz))) C (lt_A0 hN rfl) hay1 hgy7 rfl inA_X3 0 (by decide) q_154 rfl rfl dX3_add_28 ?_
    refine z_iadd C dX3_add_31 ?_
    refine z_iload_n C 2 dX3_add_32 rfl ?_
    refine z_iast C (lt_A (c := 1) hN rfl) hay2 hgy6 ((12 + sz).toNat) (by omega) (by omega) (by decide) dX3_add_33 (fun gy8 egy9 => ?_)
    have hgy10 := up_s egy9
    refine z_aload_n C 0 dX3_add_34 rfl ?_
    have hgy11 := up_n egy9 hgy7 (ne_o (i := a) (c := 0) (d := 1) rfl)
    refine z_get (v := .ref (ad (a + 1))) C (lt_A0 hN rfl) hay1 hgy11 rfl inA_X3 2 (by decide) q_162 rfl rfl dX3_add_35 ?_
    refine z_bipush (z := 24) C dX3_add_38 (by decide) ?_
    refine z_aload_n C 0 dX3_add_40 rfl ?_
    refine z_get (v := .int (zI (sz))) C (lt_A0 hN rfl) hay1 hgy11 rfl inA_X3 0 (by decide) q_154 rfl rfl dX3_add_41 ?_
    refine z_iadd C dX3_add_44 ?_
    refine z_iload_n C 3 dX3_add_45 rfl ?_
    refine z_iast C (lt_A (c := 1) hN rfl) hay2 hgy10 ((24 + sz).toNat) (by omega) (by omega) (by decide) dX3_add_46 (fun gy12 egy13 => ?_)
    have hgy14 := up_s egy13
    refine z_aload_n C 0 dX3_add_47 rfl ?_
    have hgy15 := up_n egy13 hgy11 (ne_o (i := a) (c := 0) (d := 1) rfl)
    refine z_get (v := .ref (ad (a + 1))) C (lt_A0 hN rfl) hay1 hgy15 rfl inA_X3 2 (by decide) q_162 rfl rfl dX3_add_48 ?_
    refine z_bipush (z := 36) C dX3_add_51 (by decide) ?_
    refine z_aload_n C 0 dX3_add_53 rfl ?_
    refine z_get (v := .int (zI (sz))) C (lt_A0 hN rfl) hay1 hgy15 rfl inA_X3 0 (by decide) q_154 rfl rfl dX3_add_54 ?_
    refine z_iadd C dX3_add_57 ?_
    refine z_iload C 4 dX3_add_58 rfl ?_
    refine z_iast C (lt_A (c := 1) hN rfl) hay2 hgy14 ((36 + sz).toNat) (by omega) (by omega) (by decide) dX3_add_60 (fun gy16 egy17 => ?_)
    have hgy18 := up_s egy17
    refine z_aload_n C 0 dX3_add_61 rfl ?_
    have hgy19 := up_n egy17 hgy15 (ne_o (i := a) (c := 0) (d := 1) rfl)
    refine z_get (v := .ref (ad (a + 1))) C (lt_A0 hN rfl) hay1 hgy19 rfl inA_X3 2 (by decide) q_162 rfl rfl dX3_add_62 ?_
    refine z_bipush (z := 48) C dX3_add_65 (by decide) ?_
    refine z_aload_n C 0 dX3_add_67 rfl ?_
    refine z_get (v := .int (zI (sz))) C (lt_A0 hN rfl) hay1 hgy19 rfl inA_X3 0 (by decide) q_154 rfl rfl dX3_add_68 ?_
    refine z_iadd C dX3_add_71 ?_
    refine z_iload C 5 dX3_add_72 rfl ?_
    refine z_iast C (lt_A (c := 1) hN rfl) hay2 hgy18 ((48 + sz).toNat) (by omega) (by omega) (by decide) dX3_add_74 (fun gy20 egy21 => ?_)
    have hgy22 := up_s egy21
    refine z_aload_n C 0 dX3_add_75 rfl ?_
    have hgy23 := up_n egy21 hgy19 (ne_o (i := a) (c := 0) (d := 1) rfl)
    refine z_get (v := .ref (ad (a + 1))) C (lt_A0 hN rfl) hay1 hgy23 rfl inA_X3 2 (by decide) q_162 rfl rfl dX3_add_76 ?_
    refine z_bipush (z := 60) C dX3_add_79 (by decide) ?_
    refine z_aload_n C 0 dX3_add_81 rfl ?_
    refine z_get (v := .int (zI (sz))) C (lt_A0 hN rfl) hay1 hgy23 rfl inA_X3 0 (by decide) q_154 rfl rfl dX3_add_82 ?_
    refine z_iadd C dX3_add_85 ?_
    refine z_iconst (z := 0) C dX3_add_86 rfl ?_
    refine z_iast C (lt_A (c := 1) hN rfl) hay2 hgy22 ((60 + sz).toNat) (by omega) (by omega) (by decide) dX3_add_87 (fun gy24 egy25 => ?_)
    have hgy26 := up_s egy25
    refine z_aload_n C 0 dX3_add_88 rfl ?_
    have hgy27 := up_n egy25 hgy23 (ne_o (i := a) (c := 0) (d := 1) rfl)
    refine z_get (v := .ref (ad (a + 1))) C (lt_A0 hN rfl) hay1 hgy27 rfl inA_X3 2 (by decide) q_162 rfl rfl dX3_add_89 ?_
    refine z_bipush (z := 72) C dX3_add_92 (by decide) ?_
    refine z_aload_n C 0 dX3_add_94 rfl ?_
    refine z_get (v := .int (zI (sz))) C (lt_A0 hN rfl) hay1 hgy27 rfl inA_X3 0 (by decide) q_154 rfl rfl dX3_add_95 ?_
    refine z_iadd C dX3_add_98 ?_
    refine z_iload C 6 dX3_add_99 rfl ?_
    refine z_iast C (lt_A (c := 1) hN rfl) hay2 hgy26 ((72 + sz).toNat) (by omega) (by omega) (by decide) dX3_add_101 (fun gy28 egy29 => ?_)
    have hgy30 := up_s egy29
    refine z_aload_n C 0 dX3_add_102 rfl ?_
    refine z_dup C dX3_add_103 rfl ?_
    have hgy31 := up_n egy29 hgy27 (ne_o (i := a) (c := 0) (d := 1) rfl)
    refine z_get (v := .int (zI (sz))) C (lt_A0 hN rfl) hay1 hgy31 rfl inA_X3 0 (by decide) q_154 rfl rfl dX3_add_104 ?_
    refine z_iconst (z := 1) C dX3_add_107 rfl ?_
    refine z_iadd C dX3_add_108 ?_
    refine z_put (fs' := [.int (zI (sz + 1)), .int (zI (ro)), .ref (ad (a + 1))]) C (lt_A0 hN rfl) hay1 hgy31 tyX3 tyX3_ok nmX3 rfl inA_X3 0 (by decide) q_154 rfl rfl rfl rfl (Nat.le_of_ble_eq_true rfl) rfl dX3_add_109 (fun gy32 egy33 => ?_)
    have hgy34 := up_s egy33
    have hgy35 := up_n egy33 hgy30 (ne_o (i := a) (c := 1) (d := 0) rfl)
    exact z_vret C hr hlk dX3_add_112 (by decide) (by decide) ⟨rfl, rfl, rfl, ⟨_, _, _, (by omega), hgy34, hgy35⟩, fun j j1 j2 => by rw [egy33, va_up_ne _ _ (by omega)]; rw [egy29, va_up_ne _ _ (by omega)]; rw [egy25, va_up_ne _ _ (by omega)]; rw [egy21, va_up_ne _ _ (by omega)]; rw [egy17, va_up_ne _ _ (by omega)]; rw [egy13, va_up_ne _ _ (by omega)]; rw [egy9, va_up_ne _ _ (by omega)]; rw [egy5, va_up_ne _ _ (by omega)]⟩

set_option maxRecDepth 100000 in
set_option maxHeartbeats 4000000 in
theorem c_X3_cool (l : Launch) (D : va_G) (A : Nat → Prop) (cs : Nat → ClassId) (tt : Nat) (N : Nat) (ad : Nat → Nat) (g : Nat → va_E) (a : Nat) (hN : a + 2 ≤ N) (sz ro : Int) (r : Nat → Int) (hz : 0 ≤ sz ∧ sz ≤ 12) (ha : isPack cs ad g a sz ro r) (z : Int) (hz : -2147483648 ≤ z ∧ z ≤ 2147483647) : zM l yX3_cool cX3_cool 3 none ({ frames := 1, cells := 0, slots := 0, locals := 60 } : Room) D A cs tt N ad g [.ref (ad a), .int (zI (z))] (rV0 N ad fun g' => okPack cs ad g' a ∧ ∀ j, j ≠ a → j ≠ a + 1 → g' j = g j) := by
  have hay1 : zAt ad (a) (ad a) := rfl
  have hay2 : zAt ad (a + 1) (ad (a + 1)) := rfl
  refine z_of (by decide) (Nat.le_of_ble_eq_true rfl) ?_
  intro p e s m below meth c C hr hlk hnm
  refine z_lv (lv' := [(0, .ref (ad a)), (1, .int (zI (z)))]) [0, 1] rfl ?_
  refine z_aload_n C 0 dX3_cool_0 rfl ?_
  refine z_get (v := .int (zI (sz))) C (lt_A0 hN rfl) hay1 ha.1 rfl inA_X3 0 (by decide) q_154 rfl rfl dX3_cool_1 ?_
  refine z_if_le (tgt := 36) C dX3_cool_4 (by decide) (by omega) (fun hby3 => ?_) (fun hby3 => ?_)
  · exact z_vret C hr hlk dX3_cool_36 (by decide) (by decide) ⟨rfl, rfl, rfl, ⟨_, _, _, (by omega), ha.1, ha.2⟩, fun j j1 j2 => by rfl⟩
  · refine z_bipush (z := 48) C dX3_cool_7 (by decide) ?_
    refine z_aload_n C 0 dX3_cool_9 rfl ?_
    refine z_get (v := .int (zI (sz))) C (lt_A0 hN rfl) hay1 ha.1 rfl inA_X3 0 (by decide) q_154 rfl rfl dX3_cool_10 ?_
    refine z_iadd C dX3_cool_13 ?_
    refine z_iconst (z := 1) C dX3_cool_14 rfl ?_
    refine z_isub C dX3_cool_15 ?_
    refine z_istore_n (lv' := [(2, .int (zI ((48 + sz) - 1))), (0, .ref (ad a)), (1, .int (zI (z)))]) C dX3_cool_16 rfl (by decide) rfl ?_
    refine z_aload_n C 1 dX3_cool_17 rfl ?_
    refine z_get (v := .ref (ad (a + 1))) C (lt_A0 hN rfl) hay1 ha.1 rfl inA_X3 2 (by decide) q_162 rfl rfl dX3_cool_18 ?_
    refine z_iload_n C 0 dX3_cool_21 rfl ?_
    refine z_dup2 C dX3_cool_22 rfl rfl ?_
    refine z_iald C (lt_A (c := 1) hN rfl) hay2 ha.2 (((48 + sz) - 1).toNat) (by omega) (by omega) (by decide) dX3_cool_23 ?_
    refine z_iload_n C 2 dX3_cool_24 rfl ?_
    refine z_aload_n C 1 dX3_cool_25 rfl ?_
    refine z_get (v := .ref (ad (a + 1))) C (lt_A0 hN rfl) hay1 ha.1 rfl inA_X3 2 (by decide) q_162 rfl rfl dX3_cool_26 ?_
    refine z_iload_n C 0 dX3_cool_29 rfl ?_
    refine z_iald C (lt_A (c := 1) hN rfl) hay2 ha.2 (((48 + sz) - 1).toNat) (by omega) (by omega) (by decide) dX3_cool_30 ?_
    refine z_isub C dX3_cool_31 ?_
    refine z_iconst (z := 4) C dX3_cool_32 rfl ?_
    obtain ⟨xy4, exy5, hxy6⟩ := zI_of (zI (z - (r (((48 + sz) - 1).toNat))))
    rw [exy5]
    refine z_idiv C dX3_cool_33 (by omega) (by omega) (by omega) ?_
    refine z_iadd C dX3_cool_34 ?_
    refine z_iast C (lt_A (c := 1) hN rfl) hay2 ha.2 (((48 + sz) - 1).toNat) (by omega) (by omega) (by decide) dX3_cool_35 (fun gy7 egy8 => ?_)
    have hgy9 := up_s egy8
    have hgy10 := up_n egy8 ha.1 (ne_o (i := a) (c := 0) (d := 1) rfl)
    exact z_vret C hr hlk dX3_cool_36 (by decide) (by decide) ⟨rfl, rfl, rfl, ⟨_, _, _, (by omega), hgy10, hgy9⟩, fun j j1 j2 => by rw [egy8, va_up_ne _ _ (by omega)]⟩

set_option maxRecDepth 100000 in
set_option maxHeartbeats 4000000 in
theorem c_X3_freeze (l : Launch) (D : va_G) (A : Nat → Prop) (cs : Nat → ClassId) (tt : Nat) (N : Nat) (ad : Nat → Nat) (g : Nat → va_E) (a : Nat) (hN : a + 2 ≤ N) (sz ro : Int) (r : Nat → Int) (hz : 0 ≤ sz ∧ sz ≤ 12) (ha : isPack cs ad g a sz ro r) (z : Int) (hzl : 0 ≤ z ∧ z ≤ 11) : zM l yX3_freeze cX3_freeze 5 none ({ frames := 2, cells := 0, slots := 0, locals := 120 } : Room) D A cs tt N ad g [.ref (ad a), .int (zI (z))] (rV0 N ad fun g' => okPack cs ad g' a ∧ ∀ j, j ≠ a → j ≠ a + 1 → g' j = g j) := by
  have hay1 : zAt ad (a) (ad a) := rfl
  have hay2 : zAt ad (a + 1) (ad (a + 1)) := rfl
  refine z_of (by decide) (Nat.le_of_ble_eq_true rfl) ?_
  intro p e s m below meth c C hr hlk hnm
  refine z_lv (lv' := [(0, .ref (ad a)), (1, .int (zI (z)))]) [0, 1] rfl ?_
  refine z_aload_n C 0 dX3_freeze_0 rfl ?_
  refine z_get (v := .ref (ad (a + 1))) C (lt_A0 hN rfl) hay1 ha.1 rfl inA_X3 2 (by decide) q_162 rfl rfl dX3_freeze_1 ?_
  refine z_bipush (z := 12) C dX3_freeze_4 (by decide) ?_
  refine z_iload_n C 1 dX3_freeze_6 rfl ?_
  refine z_iadd C dX3_freeze_7 ?_
  refine z_iald C (lt_A (c := 1) hN rfl) hay2 ha.2 ((12 + z).toNat) (by omega) (by omega) (by decide) dX3_freeze_8 ?_
  refine z_istore_n (lv' := [(2, .int (zI (r ((12 + z).toNat)))), (0, .ref (ad a)), (1, .int (zI (z)))]) C dX3_freeze_9 rfl (by decide) rfl ?_
  refine z_aload_n C 1 dX3_freeze_10 rfl ?_
  refine z_get (v := .ref (ad (a + 1))) C (lt_A0 hN rfl) hay1 ha.1 rfl inA_X3 2 (by decide) q_162 rfl rfl dX3_freeze_11 ?_
  refine z_bipush (z := 48) C dX3_freeze_14 (by decide) ?_
  refine z_iload_n C 2 dX3_freeze_16 rfl ?_
  refine z_iadd C dX3_freeze_17 ?_
  refine z_iald C (lt_A (c := 1) hN rfl) hay2 ha.2 ((48 + z).toNat) (by omega) (by omega) (by decide) dX3_freeze_18 ?_
  refine z_ineg C dX3_freeze_19 ?_
  refine z_istore_n (lv' := [(3, .int (zI (-(r ((48 + z).toNat))))), (2, .int (zI (r ((12 + z).toNat)))), (0, .ref (ad a)), (1, .int (zI (z)))]) C dX3_freeze_20 rfl (by decide) rfl ?_
  refine z_iload_n C 1 dX3_freeze_21 rfl ?_
  obtain ⟨xy3, exy4, hxy5⟩ := zI_of (zI (r ((12 + z).toNat)))
  rw [exy4]
  refine z_i2l C dX3_freeze_22 (by omega) ?_
  refine z_iload_n C 0 dX3_freeze_23 rfl ?_
  obtain ⟨xy6, exy7, hxy8⟩ := zI_of (zI (-(r ((48 + z).toNat))))
  rw [exy7]
  refine z_i2l C dX3_freeze_24 (by omega) ?_
  refine z_lmul C dX3_freeze_25 ?_
  refine z_ldc2 (z := 100) C dX3_freeze_26 q_501 (by decide) ?_
  obtain ⟨xy9, exy10, hxy11⟩ := zJ_of (zJ (xy3 * xy6))
  rw [exy10]
  refine z_cSN (As := [.long (zJ (xy9)), .long (zJ (100))]) (rest := []) C (c_X9_part l D A cs tt N ad _ (xy9) (100) (by omega) (by omega)) ms_yX9_part n_466 hd_yX9_part (by decide) (Nat.le_of_ble_eq_true rfl) (by decide) dX3_freeze_29 rfl (kI0 fun vy12 gvy12 hvy12 => ?_)
  obtain ⟨hvy12, rfl⟩ := hvy12
  refine z_aload_n C 2 dX3_freeze_32 rfl ?_
  refine z_get (v := .ref (ad (a + 1))) C (lt_A0 hN rfl) hay1 ha.1 rfl inA_X3 2 (by decide) q_162 rfl rfl dX3_freeze_33 ?_
  refine z_bipush (z := 24) C dX3_freeze_36 (by decide) ?_
  refine z_iload_n C 3 dX3_freeze_38 rfl ?_
  refine z_iadd C dX3_freeze_39 ?_
  refine z_iald C (lt_A (c := 1) hN rfl) hay2 ha.2 ((24 + z).toNat) (by omega) (by omega) (by decide) dX3_freeze_40 ?_
  obtain ⟨xy13, exy14, hxy15⟩ := zI_of (zI (r ((24 + z).toNat)))
  rw [exy14]
  refine z_mmin C q_483 q_473 q_20 q_474 (by omega) (by omega) (by decide) (Nat.le_of_ble_eq_true rfl) (by decide) (by decide) dX3_freeze_41 ?_
  obtain ⟨xy16, exy17, hxy18⟩ := mm_min (vy12) (xy13)
  rw [exy17]
  refine z_istore (lv' := [(4, .int (zI (xy16))), (3, .int (zI (xy6))), (2, .int (zI (xy3))), (0, .ref (ad a)), (1, .int (zI (z)))]) C dX3_freeze_44 (by decide) rfl ?_
  refine z_aload_n C 3 dX3_freeze_46 rfl ?_
  refine z_get (v := .ref (ad (a + 1))) C (lt_A0 hN rfl) hay1 ha.1 rfl inA_X3 2 (by decide) q_162 rfl rfl dX3_freeze_47 ?_
  refine z_bipush (z := 12) C dX3_freeze_50 (by decide) ?_
  refine z_iload_n C 4 dX3_freeze_52 rfl ?_
  refine z_iadd C dX3_freeze_53 ?_
  refine z_dup2 C dX3_freeze_54 rfl rfl ?_
  refine z_iald C (lt_A (c := 1) hN rfl) hay2 ha.2 ((12 + z).toNat) (by omega) (by omega) (by decide) dX3_freeze_55 ?_
  refine z_iload C 0 dX3_freeze_56 rfl ?_
  refine z_iadd C dX3_freeze_58 ?_
  refine z_iast C (lt_A (c := 1) hN rfl) hay2 ha.2 ((12 + z).toNat) (by omega) (by omega) (by decide) dX3_freeze_59 (fun gy19 egy20 => ?_)
  have hgy21 := up_s egy20
  refine z_aload_n C 3 dX3_freeze_60 rfl ?_
  have hgy22 := up_n egy20 ha.1 (ne_o (i := a) (c := 0) (d := 1) rfl)
  refine z_get (v := .ref (ad (a + 1))) C (lt_A0 hN rfl) hay1 hgy22 rfl inA_X3 2 (by decide) q_162 rfl rfl dX3_freeze_61 ?_
  refine z_bipush (z := 24) C dX3_freeze_64 (by decide) ?_
  refine z_iload_n C 4 dX3_freeze_66 rfl ?_
  refine z_iadd C dX3_freeze_67 ?_
  refine z_dup2 C dX3_freeze_68 rfl rfl ?_
  refine z_iald C (lt_A (c := 1) hN rfl) hay2 hgy21 ((24 + z).toNat) (by omega) (by omega) (by decide) dX3_freeze_69 ?_
  refine z_iload C 0 dX3_freeze_70 rfl ?_
  refine z_isub C dX3_freeze_72 ?_
  refine z_iast C (lt_A (c := 1) hN rfl) hay2 hgy21 ((24 + z).toNat) (by omega) (by omega) (by decide) dX3_freeze_73 (fun gy23 egy24 => ?_)
  have hgy25 := up_s egy24
  refine z_aload_n C 3 dX3_freeze_74 rfl ?_
  have hgy26 := up_n egy24 hgy22 (ne_o (i := a) (c := 0) (d := 1) rfl)
  refine z_get (v := .ref (ad (a + 1))) C (lt_A0 hN rfl) hay1 hgy26 rfl inA_X3 2 (by decide) q_162 rfl rfl dX3_freeze_75 ?_
  refine z_bipush (z := 24) C dX3_freeze_78 (by decide) ?_
  refine z_iload_n C 4 dX3_freeze_80 rfl ?_
  refine z_iadd C dX3_freeze_81 ?_
  refine z_iald C (lt_A (c := 1) hN rfl) hay2 hgy25 ((24 + z).toNat) (by omega) (by omega) (by decide) dX3_freeze_82 ?_
  obtain ⟨xy27, exy28, hxy29⟩ := zI_of (zI ((uZ (uZ (r) ((12 + z).toNat) ((r ((12 + z).toNat)) + xy16)) ((24 + z).toNat) (((uZ (r) ((12 + z).toNat) ((r ((12 + z).toNat)) + xy16)) ((24 + z).toNat)) - xy16)) ((24 + z).toNat)))
  rw [exy28]
  refine z_if_le (tgt := 99) C dX3_freeze_83 (by decide) (by omega) (fun hby30 => ?_) (fun hby30 => ?_)
  · refine z_aload_n C 3 dX3_freeze_99 rfl ?_
    refine z_get (v := .ref (ad (a + 1))) C (lt_A0 hN rfl) hay1 hgy26 rfl inA_X3 2 (by decide) q_162 rfl rfl dX3_freeze_100 ?_
    refine z_bipush (z := 48) C dX3_freeze_103 (by decide) ?_
    refine z_iload_n C 4 dX3_freeze_105 rfl ?_
    refine z_iadd C dX3_freeze_106 ?_
    refine z_ldc2 (z := 100) C dX3_freeze_107 q_501 (by decide) ?_
    refine z_iload C 0 dX3_freeze_110 rfl ?_
    refine z_i2l C dX3_freeze_112 (by omega) ?_
    refine z_lmul C dX3_freeze_113 ?_
    refine z_iload_n C 2 dX3_freeze_114 rfl ?_
    refine z_i2l C dX3_freeze_115 (by omega) ?_
    refine z_cSN (As := [.long (zJ (100 * xy16)), .long (zJ (xy3))]) (rest := [.int (zI (48 + z)), .ref (ad (a + 1))]) C (c_X9_part l D A cs tt N ad _ (100 * xy16) (xy3) (by omega) (by omega)) ms_yX9_part n_466 hd_yX9_part (by decide) (Nat.le_of_ble_eq_true rfl) (by decide) dX3_freeze_116 rfl (kI0 fun vy31 gvy31 hvy31 => ?_)
    obtain ⟨hvy31, rfl⟩ := hvy31
    refine z_iload_n C 1 dX3_freeze_119 rfl ?_
    refine z_isub C dX3_freeze_120 ?_
    refine z_iconst (z := 0) C dX3_freeze_121 rfl ?_
    obtain ⟨xy32, exy33, hxy34⟩ := zI_of (zI (vy31 - xy6))
    rw [exy33]
    refine z_mmin C q_483 q_473 q_20 q_474 (by omega) (by omega) (by decide) (Nat.le_of_ble_eq_true rfl) (by decide) (by decide) dX3_freeze_122 ?_
    obtain ⟨xy35, exy36, hxy37⟩ := mm_min (xy32) (0)
    rw [exy36]
    refine z_iast C (lt_A (c := 1) hN rfl) hay2 hgy25 ((48 + z).toNat) (by omega) (by omega) (by decide) dX3_freeze_125 (fun gy38 egy39 => ?_)
    have hgy40 := up_s egy39
    refine z_iload C 0 dX3_freeze_126 rfl ?_
    refine z_if_le (tgt := 140) C dX3_freeze_128 (by decide) (by omega) (fun hby41 => ?_) (fun hby41 => ?_)
    · have hgy42 := up_n egy39 hgy26 (ne_o (i := a) (c := 0) (d := 1) rfl)
      exact z_vret C hr hlk dX3_freeze_140 (by decide) (by decide) ⟨rfl, rfl, rfl, ⟨_, _, _, (by omega), hgy42, hgy40⟩, fun j j1 j2 => by rw [egy39, va_up_ne _ _ (by omega)]; rw [egy24, va_up_ne _ _ (by omega)]; rw [egy20, va_up_ne _ _ (by omega)]⟩
    · refine z_aload_n C 3 dX3_freeze_131 rfl ?_
      have hgy43 := up_n egy39 hgy26 (ne_o (i := a) (c := 0) (d := 1) rfl)
      refine z_get (v := .ref (ad (a + 1))) C (lt_A0 hN rfl) hay1 hgy43 rfl inA_X3 2 (by decide) q_162 rfl rfl dX3_freeze_132 ?_
      refine z_iconst (z := 0) C dX3_freeze_135 rfl ?_
      refine z_iload_n C 4 dX3_freeze_136 rfl ?_
      refine z_iadd C dX3_freeze_137 ?_
      refine z_iconst (z := 3) C dX3_freeze_138 rfl ?_
      refine z_iast C (lt_A (c := 1) hN rfl) hay2 hgy40 ((0 + z).toNat) (by omega) (by omega) (by decide) dX3_freeze_139 (fun gy44 egy45 => ?_)
      have hgy46 := up_s egy45
      have hgy47 := up_n egy45 hgy43 (ne_o (i := a) (c := 0) (d := 1) rfl)
      exact z_vret C hr hlk dX3_freeze_140 (by decide) (by decide) ⟨rfl, rfl, rfl, ⟨_, _, _, (by omega), hgy47, hgy46⟩, fun j j1 j2 => by rw [egy45, va_up_ne _ _ (by omega)]; rw [egy39, va_up_ne _ _ (by omega)]; rw [egy24, va_up_ne _ _ (by omega)]; rw [egy20, va_up_ne _ _ (by omega)]⟩
  · refine z_aload_n C 3 dX3_freeze_86 rfl ?_
    refine z_get (v := .ref (ad (a + 1))) C (lt_A0 hN rfl) hay1 hgy26 rfl inA_X3 2 (by decide) q_162 rfl rfl dX3_freeze_87 ?_
    refine z_bipush (z := 48) C dX3_freeze_90 (by decide) ?_
    refine z_iload_n C 4 dX3_freeze_92 rfl ?_
    refine z_iadd C dX3_freeze_93 ?_
    refine z_iconst (z := 0) C dX3_freeze_94 rfl ?_
    refine z_iast C (lt_A (c := 1) hN rfl) hay2 hgy25 ((48 + z).toNat) (by omega) (by omega) (by decide) dX3_freeze_95 (fun gy48 egy49 => ?_)
    have hgy50 := up_s egy49
    refine z_goto (tgt := 126) C dX3_freeze_96 (by decide) ?_
    refine z_iload C 0 dX3_freeze_126 rfl ?_
    refine z_if_le (tgt := 140) C dX3_freeze_128 (by decide) (by omega) (fun hby51 => ?_) (fun hby51 => ?_)
    · have hgy52 := up_n egy49 hgy26 (ne_o (i := a) (c := 0) (d := 1) rfl)
      exact z_vret C hr hlk dX3_freeze_140 (by decide) (by decide) ⟨rfl, rfl, rfl, ⟨_, _, _, (by omega), hgy52, hgy50⟩, fun j j1 j2 => by rw [egy49, va_up_ne _ _ (by omega)]; rw [egy24, va_up_ne _ _ (by omega)]; rw [egy20, va_up_ne _ _ (by omega)]⟩
    · refine z_aload_n C 3 dX3_freeze_131 rfl ?_
      have hgy53 := up_n egy49 hgy26 (ne_o (i := a) (c := 0) (d := 1) rfl)
      refine z_get (v := .ref (ad (a + 1))) C (lt_A0 hN rfl) hay1 hgy53 rfl inA_X3 2 (by decide) q_162 rfl rfl dX3_freeze_132 ?_
      refine z_iconst (z := 0) C dX3_freeze_135 rfl ?_
      refine z_iload_n C 4 dX3_freeze_136 rfl ?_
      refine z_iadd C dX3_freeze_137 ?_
      refine z_iconst (z := 3) C dX3_freeze_138 rfl ?_
      refine z_iast C (lt_A (c := 1) hN rfl) hay2 hgy50 ((0 + z).toNat) (by omega) (by omega) (by decide) dX3_freeze_139 (fun gy54 egy55 => ?_)
      have hgy56 := up_s egy55
      have hgy57 := up_n egy55 hgy53 (ne_o (i := a) (c := 0) (d := 1) rfl)
      exact z_vret C hr hlk dX3_freeze_140 (by decide) (by decide) ⟨rfl, rfl, rfl, ⟨_, _, _, (by omega), hgy57, hgy56⟩, fun j j1 j2 => by rw [egy55, va_up_ne _ _ (by omega)]; rw [egy49, va_up_ne _ _ (by omega)]; rw [egy24, va_up_ne _ _ (by omega)]; rw [egy20, va_up_ne _ _ (by omega)]⟩

set_option maxRecDepth 100000 in
set_option maxHeartbeats 4000000 in
theorem c_X3_nextKind (l : Launch) (D : va_G) (A : Nat → Prop) (cs : Nat → ClassId) (tt : Nat) (N : Nat) (ad : Nat → Nat) (g : Nat → va_E) (a : Nat) (hN : a + 2 ≤ N) (sz ro : Int) (r : Nat → Int) (hz : 0 ≤ sz ∧ sz ≤ 12) (ha : isPack cs ad g a sz ro r) (z : Int) (hzl : 0 ≤ z ∧ z ≤ 11) (z1 : Int) (hz1 : -2147483648 ≤ z1 ∧ z1 ≤ 2147483647) : zM l yX3_nextKind cX3_nextKind 5 (some .int) ({ frames := 1, cells := 0, slots := 0, locals := 60 } : Room) D A cs tt N ad g [.ref (ad a), .int (zI (z)), .int (zI (z1))] (rI0 N ad fun r g' => (-2147483648 ≤ r ∧ r ≤ 2147483647) ∧ g = g') := by
  have hay1 : zAt ad (a) (ad a) := rfl
  have hay2 : zAt ad (a + 1) (ad (a + 1)) := rfl
  refine z_of (by decide) (Nat.le_of_ble_eq_true rfl) ?_
  intro p e s m below meth c C hr hlk hnm
  refine z_lv (lv' := [(0, .ref (ad a)), (1, .int (zI (z))), (2, .int (zI (z1)))]) [0, 1, 2] rfl ?_
  refine z_aload_n C 0 dX3_nextKind_0 rfl ?_
  refine z_get (v := .ref (ad (a + 1))) C (lt_A0 hN rfl) hay1 ha.1 rfl inA_X3 2 (by decide) q_162 rfl rfl dX3_nextKind_1 ?_
  refine z_iconst (z := 0) C dX3_nextKind_4 rfl ?_
  refine z_iload_n C 1 dX3_nextKind_5 rfl ?_
  refine z_iadd C dX3_nextKind_6 ?_
  refine z_iald C (lt_A (c := 1) hN rfl) hay2 ha.2 ((0 + z).toNat) (by omega) (by omega) (by decide) dX3_nextKind_7 ?_
  refine z_istore_n (lv' := [(3, .int (zI (r ((0 + z).toNat)))), (0, .ref (ad a)), (1, .int (zI (z))), (2, .int (zI (z1)))]) C dX3_nextKind_8 rfl (by decide) rfl ?_
  refine z_iload_n C 0 dX3_nextKind_9 rfl ?_
  obtain ⟨xy3, exy4, hxy5⟩ := zI_of (zI (r ((0 + z).toNat)))
  rw [exy4]
  refine z_if_eq (tgt := 18) C dX3_nextKind_10 (by decide) (by omega) (fun hby6 => ?_) (fun hby6 => ?_)
  · refine z_iconst (z := 1) C dX3_nextKind_18 rfl ?_
    refine z_goto (tgt := 23) C dX3_nextKind_19 (by decide) ?_
    refine z_istore (lv' := [(4, .int (zI (1))), (3, .int (zI (xy3))), (0, .ref (ad a)), (1, .int (zI (z))), (2, .int (zI (z1)))]) C dX3_nextKind_23 (by decide) rfl ?_
    refine z_aload_n C 2 dX3_nextKind_25 rfl ?_
    refine z_get (v := .ref (ad (a + 1))) C (lt_A0 hN rfl) hay1 ha.1 rfl inA_X3 2 (by decide) q_162 rfl rfl dX3_nextKind_26 ?_
    refine z_bipush (z := 24) C dX3_nextKind_29 (by decide) ?_
    refine z_iload_n C 3 dX3_nextKind_31 rfl ?_
    refine z_iadd C dX3_nextKind_32 ?_
    refine z_iald C (lt_A (c := 1) hN rfl) hay2 ha.2 ((24 + z).toNat) (by omega) (by omega) (by decide) dX3_nextKind_33 ?_
    obtain ⟨xy7, exy8, hxy9⟩ := zI_of (zI (r ((24 + z).toNat)))
    rw [exy8]
    refine z_if_le (tgt := 53) C dX3_nextKind_34 (by decide) (by omega) (fun hby10 => ?_) (fun hby10 => ?_)
    · refine z_iload_n C 4 dX3_nextKind_53 rfl ?_
      refine z_bipush (z := 20) C dX3_nextKind_54 (by decide) ?_
      refine z_icmp_lt (tgt := 74) C dX3_nextKind_56 (by decide) (by omega) (by omega) (fun hby11 => ?_) (fun hby11 => ?_)
      · refine z_iload C 0 dX3_nextKind_74 rfl ?_
        refine z_if_eq (tgt := 97) C dX3_nextKind_76 (by decide) (by omega) (fun h => absurd h (by omega)) (fun _ => ?_)
        refine z_aload_n C 2 dX3_nextKind_79 rfl ?_
        refine z_get (v := .ref (ad (a + 1))) C (lt_A0 hN rfl) hay1 ha.1 rfl inA_X3 2 (by decide) q_162 rfl rfl dX3_nextKind_80 ?_
        refine z_bipush (z := 60) C dX3_nextKind_83 (by decide) ?_
        refine z_iload_n C 3 dX3_nextKind_85 rfl ?_
        refine z_iadd C dX3_nextKind_86 ?_
        refine z_iald C (lt_A (c := 1) hN rfl) hay2 ha.2 ((60 + z).toNat) (by omega) (by omega) (by decide) dX3_nextKind_87 ?_
        refine z_bipush (z := 24) C dX3_nextKind_88 (by decide) ?_
        obtain ⟨xy12, exy13, hxy14⟩ := zI_of (zI (r ((60 + z).toNat)))
        rw [exy13]
        refine z_icmp_lt (tgt := 97) C dX3_nextKind_90 (by decide) (by omega) (by omega) (fun hby15 => ?_) (fun hby15 => ?_)
        · refine z_iload_n C 1 dX3_nextKind_97 rfl ?_
          exact z_iret C hr hlk dX3_nextKind_98 (by decide) (by decide) ⟨xy3, rfl, rfl, rfl, by omega, rfl⟩
        · refine z_iconst (z := 1) C dX3_nextKind_93 rfl ?_
          refine z_goto (tgt := 98) C dX3_nextKind_94 (by decide) ?_
          exact z_iret C hr hlk dX3_nextKind_98 (by decide) (by decide) ⟨1, rfl, rfl, rfl, by omega, rfl⟩
      · refine z_iload_n C 1 dX3_nextKind_59 rfl ?_
        refine z_if_eq (tgt := 68) C dX3_nextKind_60 (by decide) (by omega) (fun hby16 => ?_) (fun hby16 => ?_)
        · refine z_iconst (z := 2) C dX3_nextKind_68 rfl ?_
          refine z_goto (tgt := 73) C dX3_nextKind_69 (by decide) ?_
          exact z_iret C hr hlk dX3_nextKind_73 (by decide) (by decide) ⟨2, rfl, rfl, rfl, by omega, rfl⟩
        · refine z_iload_n C 1 dX3_nextKind_63 rfl ?_
          refine z_iconst (z := 1) C dX3_nextKind_64 rfl ?_
          refine z_icmp_ne (tgt := 72) C dX3_nextKind_65 (by decide) (by omega) (by omega) (fun hby17 => ?_) (fun hby17 => ?_)
          · refine z_iload_n C 1 dX3_nextKind_72 rfl ?_
            exact z_iret C hr hlk dX3_nextKind_73 (by decide) (by decide) ⟨xy3, rfl, rfl, rfl, by omega, rfl⟩
          · refine z_iconst (z := 2) C dX3_nextKind_68 rfl ?_
            refine z_goto (tgt := 73) C dX3_nextKind_69 (by decide) ?_
            exact z_iret C hr hlk dX3_nextKind_73 (by decide) (by decide) ⟨2, rfl, rfl, rfl, by omega, rfl⟩
    · refine z_iload C 0 dX3_nextKind_37 rfl ?_
      refine z_if_ne (tgt := 47) C dX3_nextKind_39 (by decide) (by omega) (fun _ => ?_) (fun h => absurd h (by omega))
      refine z_iconst (z := 1) C dX3_nextKind_47 rfl ?_
      refine z_goto (tgt := 52) C dX3_nextKind_48 (by decide) ?_
      exact z_iret C hr hlk dX3_nextKind_52 (by decide) (by decide) ⟨1, rfl, rfl, rfl, by omega, rfl⟩
  · refine z_iload_n C 0 dX3_nextKind_13 rfl ?_
    refine z_iconst (z := 2) C dX3_nextKind_14 rfl ?_
    refine z_icmp_ne (tgt := 22) C dX3_nextKind_15 (by decide) (by omega) (by omega) (fun hby18 => ?_) (fun hby18 => ?_)
    · refine z_iconst (z := 0) C dX3_nextKind_22 rfl ?_
      refine z_istore (lv' := [(4, .int (zI (0))), (3, .int (zI (xy3))), (0, .ref (ad a)), (1, .int (zI (z))), (2, .int (zI (z1)))]) C dX3_nextKind_23 (by decide) rfl ?_
      refine z_aload_n C 2 dX3_nextKind_25 rfl ?_
      refine z_get (v := .ref (ad (a + 1))) C (lt_A0 hN rfl) hay1 ha.1 rfl inA_X3 2 (by decide) q_162 rfl rfl dX3_nextKind_26 ?_
      refine z_bipush (z := 24) C dX3_nextKind_29 (by decide) ?_
      refine z_iload_n C 3 dX3_nextKind_31 rfl ?_
      refine z_iadd C dX3_nextKind_32 ?_
      refine z_iald C (lt_A (c := 1) hN rfl) hay2 ha.2 ((24 + z).toNat) (by omega) (by omega) (by decide) dX3_nextKind_33 ?_
      obtain ⟨xy19, exy20, hxy21⟩ := zI_of (zI (r ((24 + z).toNat)))
      rw [exy20]
      refine z_if_le (tgt := 53) C dX3_nextKind_34 (by decide) (by omega) (fun hby22 => ?_) (fun hby22 => ?_)
      · refine z_iload_n C 4 dX3_nextKind_53 rfl ?_
        refine z_bipush (z := 20) C dX3_nextKind_54 (by decide) ?_
        refine z_icmp_lt (tgt := 74) C dX3_nextKind_56 (by decide) (by omega) (by omega) (fun hby23 => ?_) (fun hby23 => ?_)
        · refine z_iload C 0 dX3_nextKind_74 rfl ?_
          refine z_if_eq (tgt := 97) C dX3_nextKind_76 (by decide) (by omega) (fun _ => ?_) (fun h => absurd h (by omega))
          refine z_iload_n C 1 dX3_nextKind_97 rfl ?_
          exact z_iret C hr hlk dX3_nextKind_98 (by decide) (by decide) ⟨xy3, rfl, rfl, rfl, by omega, rfl⟩
        · refine z_iload_n C 1 dX3_nextKind_59 rfl ?_
          refine z_if_eq (tgt := 68) C dX3_nextKind_60 (by decide) (by omega) (fun hby24 => ?_) (fun hby24 => ?_)
          · refine z_iconst (z := 2) C dX3_nextKind_68 rfl ?_
            refine z_goto (tgt := 73) C dX3_nextKind_69 (by decide) ?_
            exact z_iret C hr hlk dX3_nextKind_73 (by decide) (by decide) ⟨2, rfl, rfl, rfl, by omega, rfl⟩
          · refine z_iload_n C 1 dX3_nextKind_63 rfl ?_
            refine z_iconst (z := 1) C dX3_nextKind_64 rfl ?_
            refine z_icmp_ne (tgt := 72) C dX3_nextKind_65 (by decide) (by omega) (by omega) (fun hby25 => ?_) (fun hby25 => ?_)
            · refine z_iload_n C 1 dX3_nextKind_72 rfl ?_
              exact z_iret C hr hlk dX3_nextKind_73 (by decide) (by decide) ⟨xy3, rfl, rfl, rfl, by omega, rfl⟩
            · refine z_iconst (z := 2) C dX3_nextKind_68 rfl ?_
              refine z_goto (tgt := 73) C dX3_nextKind_69 (by decide) ?_
              exact z_iret C hr hlk dX3_nextKind_73 (by decide) (by decide) ⟨2, rfl, rfl, rfl, by omega, rfl⟩
      · refine z_iload C 0 dX3_nextKind_37 rfl ?_
        refine z_if_ne (tgt := 47) C dX3_nextKind_39 (by decide) (by omega) (fun h => absurd h (by omega)) (fun _ => ?_)
        refine z_iload_n C 1 dX3_nextKind_42 rfl ?_
        refine z_iconst (z := 4) C dX3_nextKind_43 rfl ?_
        refine z_icmp_ne (tgt := 51) C dX3_nextKind_44 (by decide) (by omega) (by omega) (fun hby26 => ?_) (fun hby26 => ?_)
        · refine z_iload_n C 1 dX3_nextKind_51 rfl ?_
          exact z_iret C hr hlk dX3_nextKind_52 (by decide) (by decide) ⟨xy3, rfl, rfl, rfl, by omega, rfl⟩
        · refine z_iconst (z := 1) C dX3_nextKind_47 rfl ?_
          refine z_goto (tgt := 52) C dX3_nextKind_48 (by decide) ?_
          exact z_iret C hr hlk dX3_nextKind_52 (by decide) (by decide) ⟨1, rfl, rfl, rfl, by omega, rfl⟩
    · refine z_iconst (z := 1) C dX3_nextKind_18 rfl ?_
      refine z_goto (tgt := 23) C dX3_nextKind_19 (by decide) ?_
      refine z_istore (lv' := [(4, .int (zI (1))), (3, .int (zI (xy3))), (0, .ref (ad a)), (1, .int (zI (z))), (2, .int (zI (z1)))]) C dX3_nextKind_23 (by decide) rfl ?_
      refine z_aload_n C 2 dX3_nextKind_25 rfl ?_
      refine z_get (v := .ref (ad (a + 1))) C (lt_A0 hN rfl) hay1 ha.1 rfl inA_X3 2 (by decide) q_162 rfl rfl dX3_nextKind_26 ?_
      refine z_bipush (z := 24) C dX3_nextKind_29 (by decide) ?_
      refine z_iload_n C 3 dX3_nextKind_31 rfl ?_
      refine z_iadd C dX3_nextKind_32 ?_
      refine z_iald C (lt_A (c := 1) hN rfl) hay2 ha.2 ((24 + z).toNat) (by omega) (by omega) (by decide) dX3_nextKind_33 ?_
      obtain ⟨xy27, exy28, hxy29⟩ := zI_of (zI (r ((24 + z).toNat)))
      rw [exy28]
      refine z_if_le (tgt := 53) C dX3_nextKind_34 (by decide) (by omega) (fun hby30 => ?_) (fun hby30 => ?_)
      · refine z_iload_n C 4 dX3_nextKind_53 rfl ?_
        refine z_bipush (z := 20) C dX3_nextKind_54 (by decide) ?_
        refine z_icmp_lt (tgt := 74) C dX3_nextKind_56 (by decide) (by omega) (by omega) (fun hby31 => ?_) (fun hby31 => ?_)
        · refine z_iload C 0 dX3_nextKind_74 rfl ?_
          refine z_if_eq (tgt := 97) C dX3_nextKind_76 (by decide) (by omega) (fun h => absurd h (by omega)) (fun _ => ?_)
          refine z_aload_n C 2 dX3_nextKind_79 rfl ?_
          refine z_get (v := .ref (ad (a + 1))) C (lt_A0 hN rfl) hay1 ha.1 rfl inA_X3 2 (by decide) q_162 rfl rfl dX3_nextKind_80 ?_
          refine z_bipush (z := 60) C dX3_nextKind_83 (by decide) ?_
          refine z_iload_n C 3 dX3_nextKind_85 rfl ?_
          refine z_iadd C dX3_nextKind_86 ?_
          refine z_iald C (lt_A (c := 1) hN rfl) hay2 ha.2 ((60 + z).toNat) (by omega) (by omega) (by decide) dX3_nextKind_87 ?_
          refine z_bipush (z := 24) C dX3_nextKind_88 (by decide) ?_
          obtain ⟨xy32, exy33, hxy34⟩ := zI_of (zI (r ((60 + z).toNat)))
          rw [exy33]
          refine z_icmp_lt (tgt := 97) C dX3_nextKind_90 (by decide) (by omega) (by omega) (fun hby35 => ?_) (fun hby35 => ?_)
          · refine z_iload_n C 1 dX3_nextKind_97 rfl ?_
            exact z_iret C hr hlk dX3_nextKind_98 (by decide) (by decide) ⟨xy3, rfl, rfl, rfl, by omega, rfl⟩
          · refine z_iconst (z := 1) C dX3_nextKind_93 rfl ?_
            refine z_goto (tgt := 98) C dX3_nextKind_94 (by decide) ?_
            exact z_iret C hr hlk dX3_nextKind_98 (by decide) (by decide) ⟨1, rfl, rfl, rfl, by omega, rfl⟩
        · refine z_iload_n C 1 dX3_nextKind_59 rfl ?_
          refine z_if_eq (tgt := 68) C dX3_nextKind_60 (by decide) (by omega) (fun hby36 => ?_) (fun hby36 => ?_)
          · refine z_iconst (z := 2) C dX3_nextKind_68 rfl ?_
            refine z_goto (tgt := 73) C dX3_nextKind_69 (by decide) ?_
            exact z_iret C hr hlk dX3_nextKind_73 (by decide) (by decide) ⟨2, rfl, rfl, rfl, by omega, rfl⟩
          · refine z_iload_n C 1 dX3_nextKind_63 rfl ?_
            refine z_iconst (z := 1) C dX3_nextKind_64 rfl ?_
            refine z_icmp_ne (tgt := 72) C dX3_nextKind_65 (by decide) (by omega) (by omega) (fun hby37 => ?_) (fun hby37 => ?_)
            · refine z_iload_n C 1 dX3_nextKind_72 rfl ?_
              exact z_iret C hr hlk dX3_nextKind_73 (by decide) (by decide) ⟨xy3, rfl, rfl, rfl, by omega, rfl⟩
            · refine z_iconst (z := 2) C dX3_nextKind_68 rfl ?_
              refine z_goto (tgt := 73) C dX3_nextKind_69 (by decide) ?_
              exact z_iret C hr hlk dX3_nextKind_73 (by decide) (by decide) ⟨2, rfl, rfl, rfl, by omega, rfl⟩
      · refine z_iload C 0 dX3_nextKind_37 rfl ?_
        refine z_if_ne (tgt := 47) C dX3_nextKind_39 (by decide) (by omega) (fun _ => ?_) (fun h => absurd h (by omega))
        refine z_iconst (z := 1) C dX3_nextKind_47 rfl ?_
        refine z_goto (tgt := 52) C dX3_nextKind_48 (by decide) ?_
        exact z_iret C hr hlk dX3_nextKind_52 (by decide) (by decide) ⟨1, rfl, rfl, rfl, by omega, rfl⟩

set_option maxRecDepth 100000 in
set_option maxHeartbeats 4000000 in
theorem c_X3_melt (l : Launch) (D : va_G) (A : Nat → Prop) (cs : Nat → ClassId) (tt : Nat) (N : Nat) (ad : Nat → Nat) (g : Nat → va_E) (a : Nat) (hN : a + 2 ≤ N) (sz ro : Int) (r : Nat → Int) (hz : 0 ≤ sz ∧ sz ≤ 12) (ha : isPack cs ad g a sz ro r) (z : Int) (hz : -2147483648 ≤ z ∧ z ≤ 2147483647) : zM l yX3_melt cX3_melt 7 none ({ frames := 2, cells := 0, slots := 0, locals := 120 } : Room) D A cs tt N ad g [.ref (ad a), .int (zI (z))] (rV0 N ad fun g' => okPack cs ad g' a ∧ ∀ j, j ≠ a → j ≠ a + 1 → g' j = g j) := by
  have hay1 : zAt ad (a) (ad a) := rfl
  have hay2 : zAt ad (a + 1) (ad (a + 1)) := rfl
  refine z_of (by decide) (Nat.le_of_ble_eq_true rfl) ?_
  intro p e s m below meth c C hr hlk hnm
  refine z_lv (lv' := [(0, .ref (ad a)), (1, .int (zI (z)))]) [0, 1] rfl ?_
  have lp : ∀ (n9 : Nat) (i : Int) (le : Int) (s9 : Int) (o9 : Int) (r9 : Nat → Int) (g1 : Nat → va_E), (i + 1).toNat = n9 → (g1 a = oC 5 [.int (zI s9), .int (zI o9), .ref (ad (a + 1))]) → (g1 (a + 1) = iA cs 84 r9) → (∀ j, j ≠ a → j ≠ a + 1 → g1 j = g j) → (-1 ≤ i ∧ i ≤ 11) → (-2147483648 ≤ le ∧ le ≤ 2147483647) → (0 ≤ s9 ∧ s9 ≤ 12) → zV p l e ({ frames := 2, cells := 0, slots := 0, locals := 120 } : Room) s m ([.ref (ad a), .int (zI (z))] : List Value).toArray below meth c (MQ below (zPost D A (rV0 N ad fun g' => okPack cs ad g' a ∧ ∀ j, j ≠ a → j ≠ a + 1 → g' j = g j)) ([.ref (ad a), .int (zI (z))] : List Value).toArray s ({ frames := 2, cells := 0, slots := 0, locals := 120 } : Room).cells ({ frames := 2, cells := 0, slots := 0, locals := 120 } : Room).slots A) D A 7 (N) ad g1 (0) (0) 9 [(3, .int (zI (i))), (2, .int (zI (le))), (0, .ref (ad a)), (1, .int (zI (z)))] [] := by
    intro n9
    induction n9 using Nat.strongRecOn with
    | ind n9 ih =>
      intro i le s9 o9 r9 g1 hm9 f1 f2 f3 hv0 hv1 hv2
      have hay3 : zAt ad (a) (ad a) := rfl
      have hay4 : zAt ad (a + 1) (ad (a + 1)) := rfl
      refine z_iload_n C 0 dX3_melt_9 rfl ?_
      refine z_if_lt (tgt := 173) C dX3_melt_10 (by decide) (by omega) (fun hby5 => ?_) (fun hby5 => ?_)
      · exact z_vret C hr hlk dX3_melt_173 (by decide) (by decide) ⟨rfl, rfl, rfl, ⟨_, _, _, (by omega), f1, f2⟩, fun j j1 j2 => by exact f3 j j1 j2⟩
      · refine z_iload_n C 1 dX3_melt_13 rfl ?_
        refine z_if_le (tgt := 173) C dX3_melt_14 (by decide) (by omega) (fun hby6 => ?_) (fun hby6 => ?_)
        · exact z_vret C hr hlk dX3_melt_173 (by decide) (by decide) ⟨rfl, rfl, rfl, ⟨_, _, _, (by omega), f1, f2⟩, fun j j1 j2 => by exact f3 j j1 j2⟩
        · refine z_aload_n C 2 dX3_melt_17 rfl ?_
          refine z_get (v := .ref (ad (a + 1))) C (lt_A0 hN rfl) hay3 f1 rfl inA_X3 2 (by decide) q_162 rfl rfl dX3_melt_18 ?_
          refine z_bipush (z := 12) C dX3_melt_21 (by decide) ?_
          refine z_iload_n C 0 dX3_melt_23 rfl ?_
          refine z_iadd C dX3_melt_24 ?_
          refine z_iald C (lt_A (c := 1) hN rfl) hay4 f2 ((12 + i).toNat) (by omega) (by omega) (by decide) dX3_melt_25 ?_
          refine z_istore (lv' := [(4, .int (zI (r9 ((12 + i).toNat)))), (3, .int (zI (i))), (2, .int (zI (le))), (0, .ref (ad a)), (1, .int (zI (z)))]) C dX3_melt_26 (by decide) rfl ?_
          refine z_iload_n C 2 dX3_melt_28 rfl ?_
          refine z_i2l C dX3_melt_29 (by omega) ?_
          refine z_iload C 0 dX3_melt_30 rfl ?_
          obtain ⟨xy7, exy8, hxy9⟩ := zI_of (zI (r9 ((12 + i).toNat)))
          rw [exy8]
          refine z_i2l C dX3_melt_32 (by omega) ?_
          refine z_cSN (As := [.long (zJ (le)), .long (zJ (xy7))]) (rest := []) C (c_X9_part l D A cs tt N ad _ (le) (xy7) (by omega) (by omega)) ms_yX9_part n_466 hd_yX9_part (by decide) (Nat.le_of_ble_eq_true rfl) (by decide) dX3_melt_33 rfl (kI0 fun vy10 gvy10 hvy10 => ?_)
          obtain ⟨hvy10, rfl⟩ := hvy10
          refine z_aload_n C 3 dX3_melt_36 rfl ?_
          refine z_get (v := .ref (ad (a + 1))) C (lt_A0 hN rfl) hay3 f1 rfl inA_X3 2 (by decide) q_162 rfl rfl dX3_melt_37 ?_
          refine z_bipush (z := 48) C dX3_melt_40 (by decide) ?_
          refine z_iload_n C 1 dX3_melt_42 rfl ?_
          refine z_iadd C dX3_melt_43 ?_
          refine z_iald C (lt_A (c := 1) hN rfl) hay4 f2 ((48 + i).toNat) (by omega) (by omega) (by decide) dX3_melt_44 ?_
          refine z_ineg C dX3_melt_45 ?_
          obtain ⟨xy11, exy12, hxy13⟩ := zI_of (zI (-(r9 ((48 + i).toNat))))
          rw [exy12]
          refine z_mmin C q_483 q_473 q_20 q_474 (by omega) (by omega) (by decide) (Nat.le_of_ble_eq_true rfl) (by decide) (by decide) dX3_melt_46 ?_
          obtain ⟨xy14, exy15, hxy16⟩ := mm_min (vy10) (xy11)
          rw [exy15]
          refine z_istore (lv' := [(5, .int (zI (xy14))), (4, .int (zI (xy7))), (3, .int (zI (i))), (2, .int (zI (le))), (0, .ref (ad a)), (1, .int (zI (z)))]) C dX3_melt_49 (by decide) rfl ?_
          refine z_aload_n C 4 dX3_melt_51 rfl ?_
          refine z_get (v := .ref (ad (a + 1))) C (lt_A0 hN rfl) hay3 f1 rfl inA_X3 2 (by decide) q_162 rfl rfl dX3_melt_52 ?_
          refine z_bipush (z := 48) C dX3_melt_55 (by decide) ?_
          refine z_iload_n C 2 dX3_melt_57 rfl ?_
          refine z_iadd C dX3_melt_58 ?_
          refine z_dup2 C dX3_melt_59 rfl rfl ?_
          refine z_iald C (lt_A (c := 1) hN rfl) hay4 f2 ((48 + i).toNat) (by omega) (by omega) (by decide) dX3_melt_60 ?_
          refine z_iload C 0 dX3_melt_61 rfl ?_
          refine z_iadd C dX3_melt_63 ?_
          refine z_iast C (lt_A (c := 1) hN rfl) hay4 f2 ((48 + i).toNat) (by omega) (by omega) (by decide) dX3_melt_64 (fun gy17 egy18 => ?_)
          have hgy19 := up_s egy18
          refine z_iload_n C 3 dX3_melt_65 rfl ?_
          refine z_iload C 0 dX3_melt_66 rfl ?_
          refine z_iload C 1 dX3_melt_68 rfl ?_
          refine z_imul C dX3_melt_70 ?_
          refine z_isub C dX3_melt_71 ?_
          refine z_istore_n (lv' := [(2, .int (zI (le - (xy14 * xy7)))), (5, .int (zI (xy14))), (4, .int (zI (xy7))), (3, .int (zI (i))), (0, .ref (ad a)), (1, .int (zI (z)))]) C dX3_melt_72 rfl (by decide) rfl ?_
          refine z_aload_n C 4 dX3_melt_73 rfl ?_
          have hgy20 := up_n egy18 f1 (ne_o (i := a) (c := 0) (d := 1) rfl)
          refine z_get (v := .ref (ad (a + 1))) C (lt_A0 hN rfl) hay3 hgy20 rfl inA_X3 2 (by decide) q_162 rfl rfl dX3_melt_74 ?_
          refine z_bipush (z := 48) C dX3_melt_77 (by decide) ?_
          refine z_iload_n C 3 dX3_melt_79 rfl ?_
          refine z_iadd C dX3_melt_80 ?_
          refine z_iald C (lt_A (c := 1) hN rfl) hay4 hgy19 ((48 + i).toNat) (by omega) (by omega) (by decide) dX3_melt_81 ?_
          obtain ⟨xy21, exy22, hxy23⟩ := zI_of (zI ((uZ (r9) ((48 + i).toNat) ((r9 ((48 + i).toNat)) + xy14)) ((48 + i).toNat)))
          rw [exy22]
          refine z_if_ne (tgt := 132) C dX3_melt_82 (by decide) (by omega) (fun hby24 => ?_) (fun hby24 => ?_)
          · refine z_aload_n C 4 dX3_melt_132 rfl ?_
            refine z_get (v := .ref (ad (a + 1))) C (lt_A0 hN rfl) hay3 hgy20 rfl inA_X3 2 (by decide) q_162 rfl rfl dX3_melt_133 ?_
            refine z_bipush (z := 12) C dX3_melt_136 (by decide) ?_
            refine z_iload_n C 3 dX3_melt_138 rfl ?_
            refine z_iadd C dX3_melt_139 ?_
            refine z_iald C (lt_A (c := 1) hN rfl) hay4 hgy19 ((12 + i).toNat) (by omega) (by omega) (by decide) dX3_melt_140 ?_
            obtain ⟨xy25, exy26, hxy27⟩ := zI_of (zI ((uZ (r9) ((48 + i).toNat) ((r9 ((48 + i).toNat)) + xy14)) ((12 + i).toNat)))
            rw [exy26]
            refine z_if_le (tgt := 145) C dX3_melt_141 (by decide) (by omega) (fun hby28 => ?_) (fun hby28 => ?_)
            · refine z_aload_n C 4 dX3_melt_145 rfl ?_
              refine z_iload_n C 3 dX3_melt_146 rfl ?_
              refine z_put (fs' := [.int (zI (i)), .int (zI (o9)), .ref (ad (a + 1))]) C (lt_A0 hN rfl) hay3 hgy20 tyX3 tyX3_ok nmX3 rfl inA_X3 0 (by decide) q_154 rfl rfl rfl rfl (Nat.le_of_ble_eq_true rfl) rfl dX3_melt_147 (fun gy29 egy30 => ?_)
              have hgy31 := up_s egy30
              refine z_aload_n C 4 dX3_melt_150 rfl ?_
              refine z_aload_n C 4 dX3_melt_151 rfl ?_
              refine z_get (v := .int (zI (i))) C (lt_A0 hN rfl) hay3 hgy31 rfl inA_X3 0 (by decide) q_154 rfl rfl dX3_melt_152 ?_
              refine z_aload_n C 4 dX3_melt_155 rfl ?_
              refine z_get (v := .ref (ad (a + 1))) C (lt_A0 hN rfl) hay3 hgy31 rfl inA_X3 2 (by decide) q_162 rfl rfl dX3_melt_156 ?_
              refine z_bipush (z := 24) C dX3_melt_159 (by decide) ?_
              refine z_iload_n C 3 dX3_melt_161 rfl ?_
              refine z_iadd C dX3_melt_162 ?_
              have hgy32 := up_n egy30 hgy19 (ne_o (i := a) (c := 1) (d := 0) rfl)
              refine z_iald C (lt_A (c := 1) hN rfl) hay4 hgy32 ((24 + i).toNat) (by omega) (by omega) (by decide) dX3_melt_163 ?_
              obtain ⟨xy33, exy34, hxy35⟩ := zI_of (zI ((uZ (r9) ((48 + i).toNat) ((r9 ((48 + i).toNat)) + xy14)) ((24 + i).toNat)))
              rw [exy34]
              refine z_cV (As := [.int (zI (i)), .int (zI (xy33))]) (rest := []) (ci := 5) C (c_X3_wet l D A cs tt N ad _ (a) (by omega) _ _ _ (by omega) ⟨hgy31, hgy32⟩  (i) (by omega) (xy33) (by omega)) (lt_A0 hN rfl) hay3 hgy31 rfl rfl mv_yX3_wet q_484 hd_yX3_wet (by decide) (Nat.le_of_ble_eq_true rfl) (by decide) dX3_melt_164 rfl (kV0 fun gvy36 hvy36 => ?_)
              obtain ⟨⟨svy36, ovy36, rvy36, hsvy36, hpvy36⟩, hfvy36⟩ := hvy36
              refine z_iinc (z := i - 1) (lv' := [(3, .int (zI (i - 1))), (2, .int (zI (le - (xy14 * xy7)))), (5, .int (zI (xy14))), (4, .int (zI (xy7))), (0, .ref (ad a)), (1, .int (zI (z)))]) (j := 3) C dX3_melt_167 rfl (congrArg zI (by omega)) (by decide) rfl ?_
              refine z_goto (tgt := 9) C dX3_melt_170 (by decide) ?_
              obtain ⟨xy37, exy38, hxy39⟩ := zI_of (zI (le - (xy14 * xy7)))
              rw [exy38]
              refine z_lv (lv' := [(3, .int (zI (i - 1))), (2, .int (zI (xy37))), (0, .ref (ad a)), (1, .int (zI (z)))]) [0, 1, 4, 5] rfl ?_
              exact ih _ (by omega) (i - 1) (xy37) _ _ _ gvy36 rfl hpvy36.1 hpvy36.2 (fun j j1 j2 => by rw [hfvy36 _ (by omega) (by omega)]; rw [egy30, va_up_ne _ _ (by omega)]; rw [egy18, va_up_ne _ _ (by omega)]; exact f3 j j1 j2) (by omega) (by omega) (by omega)
            · exact z_vret C hr hlk dX3_melt_144 (by decide) (by decide) ⟨rfl, rfl, rfl, ⟨_, _, _, (by omega), hgy20, hgy19⟩, fun j j1 j2 => by rw [egy18, va_up_ne _ _ (by omega)]; exact f3 j j1 j2⟩
          · refine z_iload_n C 0 dX3_melt_85 rfl ?_
            refine z_bipush (z := 100) C dX3_melt_86 (by decide) ?_
            obtain ⟨xy40, exy41, hxy42⟩ := zI_of (zI (le - (xy14 * xy7)))
            rw [exy41]
            refine z_idiv C dX3_melt_88 (by omega) (by omega) (by omega) ?_
            refine z_iload C 2 dX3_melt_89 rfl ?_
            obtain ⟨xy43, exy44, hxy45⟩ := zI_of (zI (xy40.tdiv 100))
            rw [exy44]
            refine z_mmin C q_483 q_473 q_20 q_474 (by omega) (by omega) (by decide) (Nat.le_of_ble_eq_true rfl) (by decide) (by decide) dX3_melt_91 ?_
            obtain ⟨xy46, exy47, hxy48⟩ := mm_min (xy43) (xy7)
            rw [exy47]
            refine z_istore (lv' := [(6, .int (zI (xy46))), (2, .int (zI (xy40))), (5, .int (zI (xy14))), (4, .int (zI (xy7))), (3, .int (zI (i))), (0, .ref (ad a)), (1, .int (zI (z)))]) C dX3_melt_94 (by decide) rfl ?_
            refine z_aload_n C 5 dX3_melt_96 rfl ?_
            refine z_get (v := .ref (ad (a + 1))) C (lt_A0 hN rfl) hay3 hgy20 rfl inA_X3 2 (by decide) q_162 rfl rfl dX3_melt_97 ?_
            refine z_bipush (z := 12) C dX3_melt_100 (by decide) ?_
            refine z_iload_n C 4 dX3_melt_102 rfl ?_
            refine z_iadd C dX3_melt_103 ?_
            refine z_dup2 C dX3_melt_104 rfl rfl ?_
            refine z_iald C (lt_A (c := 1) hN rfl) hay4 hgy19 ((12 + i).toNat) (by omega) (by omega) (by decide) dX3_melt_105 ?_
            refine z_iload C 0 dX3_melt_106 rfl ?_
            refine z_isub C dX3_melt_108 ?_
            refine z_iast C (lt_A (c := 1) hN rfl) hay4 hgy19 ((12 + i).toNat) (by omega) (by omega) (by decide) dX3_melt_109 (fun gy49 egy50 => ?_)
            have hgy51 := up_s egy50
            refine z_aload_n C 5 dX3_melt_110 rfl ?_
            have hgy52 := up_n egy50 hgy20 (ne_o (i := a) (c := 0) (d := 1) rfl)
            refine z_get (v := .ref (ad (a + 1))) C (lt_A0 hN rfl) hay3 hgy52 rfl inA_X3 2 (by decide) q_162 rfl rfl dX3_melt_111 ?_
            refine z_bipush (z := 24) C dX3_melt_114 (by decide) ?_
            refine z_iload_n C 4 dX3_melt_116 rfl ?_
            refine z_iadd C dX3_melt_117 ?_
            refine z_dup2 C dX3_melt_118 rfl rfl ?_
            refine z_iald C (lt_A (c := 1) hN rfl) hay4 hgy51 ((24 + i).toNat) (by omega) (by omega) (by decide) dX3_melt_119 ?_
            refine z_iload C 0 dX3_melt_120 rfl ?_
            refine z_iadd C dX3_melt_122 ?_
            refine z_iast C (lt_A (c := 1) hN rfl) hay4 hgy51 ((24 + i).toNat) (by omega) (by omega) (by decide) dX3_melt_123 (fun gy53 egy54 => ?_)
            have hgy55 := up_s egy54
            refine z_iload_n C 1 dX3_melt_124 rfl ?_
            refine z_bipush (z := 100) C dX3_melt_125 (by decide) ?_
            refine z_iload C 0 dX3_melt_127 rfl ?_
            refine z_imul C dX3_melt_129 ?_
            refine z_isub C dX3_melt_130 ?_
            refine z_istore_n (lv' := [(2, .int (zI (xy40 - (100 * xy46)))), (6, .int (zI (xy46))), (5, .int (zI (xy14))), (4, .int (zI (xy7))), (3, .int (zI (i))), (0, .ref (ad a)), (1, .int (zI (z)))]) C dX3_melt_131 rfl (by decide) rfl ?_
            refine z_aload_n C 5 dX3_melt_132 rfl ?_
            have hgy56 := up_n egy54 hgy52 (ne_o (i := a) (c := 0) (d := 1) rfl)
            refine z_get (v := .ref (ad (a + 1))) C (lt_A0 hN rfl) hay3 hgy56 rfl inA_X3 2 (by decide) q_162 rfl rfl dX3_melt_133 ?_
            refine z_bipush (z := 12) C dX3_melt_136 (by decide) ?_
            refine z_iload_n C 4 dX3_melt_138 rfl ?_
            refine z_iadd C dX3_melt_139 ?_
            refine z_iald C (lt_A (c := 1) hN rfl) hay4 hgy55 ((12 + i).toNat) (by omega) (by omega) (by decide) dX3_melt_140 ?_
            obtain ⟨xy57, exy58, hxy59⟩ := zI_of (zI ((uZ (uZ (uZ (r9) ((48 + i).toNat) ((r9 ((48 + i).toNat)) + xy14)) ((12 + i).toNat) (((uZ (r9) ((48 + i).toNat) ((r9 ((48 + i).toNat)) + xy14)) ((12 + i).toNat)) - xy46)) ((24 + i).toNat) (((uZ (uZ (r9) ((48 + i).toNat) ((r9 ((48 + i).toNat)) + xy14)) ((12 + i).toNat) (((uZ (r9) ((48 + i).toNat) ((r9 ((48 + i).toNat)) + xy14)) ((12 + i).toNat)) - xy46)) ((24 + i).toNat)) + xy46)) ((12 + i).toNat)))
            rw [exy58]
            refine z_if_le (tgt := 145) C dX3_melt_141 (by decide) (by omega) (fun hby60 => ?_) (fun hby60 => ?_)
            · refine z_aload_n C 5 dX3_melt_145 rfl ?_
              refine z_iload_n C 4 dX3_melt_146 rfl ?_
              refine z_put (fs' := [.int (zI (i)), .int (zI (o9)), .ref (ad (a + 1))]) C (lt_A0 hN rfl) hay3 hgy56 tyX3 tyX3_ok nmX3 rfl inA_X3 0 (by decide) q_154 rfl rfl rfl rfl (Nat.le_of_ble_eq_true rfl) rfl dX3_melt_147 (fun gy61 egy62 => ?_)
              have hgy63 := up_s egy62
              refine z_aload_n C 5 dX3_melt_150 rfl ?_
              refine z_aload_n C 5 dX3_melt_151 rfl ?_
              refine z_get (v := .int (zI (i))) C (lt_A0 hN rfl) hay3 hgy63 rfl inA_X3 0 (by decide) q_154 rfl rfl dX3_melt_152 ?_
              refine z_aload_n C 5 dX3_melt_155 rfl ?_
              refine z_get (v := .ref (ad (a + 1))) C (lt_A0 hN rfl) hay3 hgy63 rfl inA_X3 2 (by decide) q_162 rfl rfl dX3_melt_156 ?_
              refine z_bipush (z := 24) C dX3_melt_159 (by decide) ?_
              refine z_iload_n C 4 dX3_melt_161 rfl ?_
              refine z_iadd C dX3_melt_162 ?_
              have hgy64 := up_n egy62 hgy55 (ne_o (i := a) (c := 1) (d := 0) rfl)
              refine z_iald C (lt_A (c := 1) hN rfl) hay4 hgy64 ((24 + i).toNat) (by omega) (by omega) (by decide) dX3_melt_163 ?_
              obtain ⟨xy65, exy66, hxy67⟩ := zI_of (zI ((uZ (uZ (uZ (r9) ((48 + i).toNat) ((r9 ((48 + i).toNat)) + xy14)) ((12 + i).toNat) (((uZ (r9) ((48 + i).toNat) ((r9 ((48 + i).toNat)) + xy14)) ((12 + i).toNat)) - xy46)) ((24 + i).toNat) (((uZ (uZ (r9) ((48 + i).toNat) ((r9 ((48 + i).toNat)) + xy14)) ((12 + i).toNat) (((uZ (r9) ((48 + i).toNat) ((r9 ((48 + i).toNat)) + xy14)) ((12 + i).toNat)) - xy46)) ((24 + i).toNat)) + xy46)) ((24 + i).toNat)))
              rw [exy66]
              refine z_cV (As := [.int (zI (i)), .int (zI (xy65))]) (rest := []) (ci := 5) C (c_X3_wet l D A cs tt N ad _ (a) (by omega) _ _ _ (by omega) ⟨hgy63, hgy64⟩  (i) (by omega) (xy65) (by omega)) (lt_A0 hN rfl) hay3 hgy63 rfl rfl mv_yX3_wet q_484 hd_yX3_wet (by decide) (Nat.le_of_ble_eq_true rfl) (by decide) dX3_melt_164 rfl (kV0 fun gvy68 hvy68 => ?_)
              obtain ⟨⟨svy68, ovy68, rvy68, hsvy68, hpvy68⟩, hfvy68⟩ := hvy68
              refine z_iinc (z := i - 1) (lv' := [(3, .int (zI (i - 1))), (2, .int (zI (xy40 - (100 * xy46)))), (6, .int (zI (xy46))), (5, .int (zI (xy14))), (4, .int (zI (xy7))), (0, .ref (ad a)), (1, .int (zI (z)))]) (j := 4) C dX3_melt_167 rfl (congrArg zI (by omega)) (by decide) rfl ?_
              refine z_goto (tgt := 9) C dX3_melt_170 (by decide) ?_
              obtain ⟨xy69, exy70, hxy71⟩ := zI_of (zI (xy40 - (100 * xy46)))
              rw [exy70]
              refine z_lv (lv' := [(3, .int (zI (i - 1))), (2, .int (zI (xy69))), (0, .ref (ad a)), (1, .int (zI (z)))]) [0, 1, 5, 6] rfl ?_
              exact ih _ (by omega) (i - 1) (xy69) _ _ _ gvy68 rfl hpvy68.1 hpvy68.2 (fun j j1 j2 => by rw [hfvy68 _ (by omega) (by omega)]; rw [egy62, va_up_ne _ _ (by omega)]; rw [egy54, va_up_ne _ _ (by omega)]; rw [egy50, va_up_ne _ _ (by omega)]; rw [egy18, va_up_ne _ _ (by omega)]; exact f3 j j1 j2) (by omega) (by omega) (by omega)
            · exact z_vret C hr hlk dX3_melt_144 (by decide) (by decide) ⟨rfl, rfl, rfl, ⟨_, _, _, (by omega), hgy56, hgy55⟩, fun j j1 j2 => by rw [egy54, va_up_ne _ _ (by omega)]; rw [egy50, va_up_ne _ _ (by omega)]; rw [egy18, va_up_ne _ _ (by omega)]; exact f3 j j1 j2⟩
  refine z_iload_n C 1 dX3_melt_0 rfl ?_
  refine z_istore_n (lv' := [(2, .int (zI (z))), (0, .ref (ad a)), (1, .int (zI (z)))]) C dX3_melt_1 rfl (by decide) rfl ?_
  refine z_aload_n C 1 dX3_melt_2 rfl ?_
  refine z_get (v := .int (zI (sz))) C (lt_A0 hN rfl) hay1 ha.1 rfl inA_X3 0 (by decide) q_154 rfl rfl dX3_melt_3 ?_
  refine z_iconst (z := 1) C dX3_melt_6 rfl ?_
  refine z_isub C dX3_melt_7 ?_
  refine z_istore_n (lv' := [(3, .int (zI (sz - 1))), (2, .int (zI (z))), (0, .ref (ad a)), (1, .int (zI (z)))]) C dX3_melt_8 rfl (by decide) rfl ?_
  refine z_lv (lv' := [(3, .int (zI (sz - 1))), (2, .int (zI (z))), (0, .ref (ad a)), (1, .int (zI (z)))]) [0, 1, 2, 3] rfl ?_
  exact lp _ (sz - 1) (z) _ _ _ g rfl ha.1 ha.2 (fun j j1 j2 => by rfl) (by omega) (by omega) (by omega)

set_option maxRecDepth 100000 in
set_option maxHeartbeats 4000000 in
theorem c_X3_evenTemps (l : Launch) (D : va_G) (A : Nat → Prop) (cs : Nat → ClassId) (tt : Nat) (N : Nat) (ad : Nat → Nat) (g : Nat → va_E) (a : Nat) (hN : a + 2 ≤ N) (sz ro : Int) (r : Nat → Int) (hz : 0 ≤ sz ∧ sz ≤ 12) (ha : isPack cs ad g a sz ro r) : zM l yX3_evenTemps cX3_evenTemps 5 none ({ frames := 2, cells := 0, slots := 0, locals := 120 } : Room) D A cs tt N ad g [.ref (ad a)] (rV0 N ad fun g' => okPack cs ad g' a ∧ ∀ j, j ≠ a → j ≠ a + 1 → g' j = g j) := by
  have hay1 : zAt ad (a) (ad a) := rfl
  have hay2 : zAt ad (a + 1) (ad (a + 1)) := rfl
  refine z_of (by decide) (Nat.le_of_ble_eq_true rfl) ?_
  intro p e s m below meth c C hr hlk hnm
  refine z_lv (lv' := [(0, .ref (ad a))]) [0] rfl ?_
  have lp : ∀ (n9 : Nat) (i : Int) (dn : Int) (s9 : Int) (o9 : Int) (r9 : Nat → Int) (g1 : Nat → va_E), (12 - i).toNat = n9 → (g1 a = oC 5 [.int (zI s9), .int (zI o9), .ref (ad (a + 1))]) → (g1 (a + 1) = iA cs 84 r9) → (∀ j, j ≠ a → j ≠ a + 1 → g1 j = g j) → (0 ≤ i ∧ i ≤ 12) → (-2147483648 ≤ dn ∧ dn ≤ 2147483647) → (0 ≤ s9 ∧ s9 ≤ 12) → zV p l e ({ frames := 2, cells := 0, slots := 0, locals := 120 } : Room) s m ([.ref (ad a)] : List Value).toArray below meth c (MQ below (zPost D A (rV0 N ad fun g' => okPack cs ad g' a ∧ ∀ j, j ≠ a → j ≠ a + 1 → g' j = g j)) ([.ref (ad a)] : List Value).toArray s ({ frames := 2, cells := 0, slots := 0, locals := 120 } : Room).cells ({ frames := 2, cells := 0, slots := 0, locals := 120 } : Room).slots A) D A 5 (N) ad g1 (0) (0) 24 [(2, .int (zI (i))), (1, .int (zI (dn))), (0, .ref (ad a))] [] := by
    intro n9
    induction n9 using Nat.strongRecOn with
    | ind n9 ih =>
      intro i dn s9 o9 r9 g1 hm9 f1 f2 f3 hv0 hv1 hv2
      have hay3 : zAt ad (a) (ad a) := rfl
      have hay4 : zAt ad (a + 1) (ad (a + 1)) := rfl
      refine z_iload_n C 0 dX3_evenTemps_24 rfl ?_
      refine z_aload_n C 2 dX3_evenTemps_25 rfl ?_
      refine z_get (v := .int (zI (s9))) C (lt_A0 hN rfl) hay3 f1 rfl inA_X3 0 (by decide) q_154 rfl rfl dX3_evenTemps_26 ?_
      refine z_icmp_ge (tgt := 102) C dX3_evenTemps_29 (by decide) (by omega) (by omega) (fun hby5 => ?_) (fun hby5 => ?_)
      · exact z_vret C hr hlk dX3_evenTemps_102 (by decide) (by decide) ⟨rfl, rfl, rfl, ⟨_, _, _, (by omega), f1, f2⟩, fun j j1 j2 => by exact f3 j j1 j2⟩
      · refine z_aload_n C 2 dX3_evenTemps_32 rfl ?_
        refine z_get (v := .ref (ad (a + 1))) C (lt_A0 hN rfl) hay3 f1 rfl inA_X3 2 (by decide) q_162 rfl rfl dX3_evenTemps_33 ?_
        refine z_bipush (z := 48) C dX3_evenTemps_36 (by decide) ?_
        refine z_iload_n C 0 dX3_evenTemps_38 rfl ?_
        refine z_iadd C dX3_evenTemps_39 ?_
        refine z_iald C (lt_A (c := 1) hN rfl) hay4 f2 ((48 + i).toNat) (by omega) (by omega) (by decide) dX3_evenTemps_40 ?_
        refine z_istore_n (lv' := [(3, .int (zI (r9 ((48 + i).toNat)))), (2, .int (zI (i))), (1, .int (zI (dn))), (0, .ref (ad a))]) C dX3_evenTemps_41 rfl (by decide) rfl ?_
        refine z_iload_n C 1 dX3_evenTemps_42 rfl ?_
        refine z_iconst (z := 1) C dX3_evenTemps_43 rfl ?_
        refine z_iadd C dX3_evenTemps_44 ?_
        refine z_aload_n C 3 dX3_evenTemps_45 rfl ?_
        refine z_get (v := .int (zI (s9))) C (lt_A0 hN rfl) hay3 f1 rfl inA_X3 0 (by decide) q_154 rfl rfl dX3_evenTemps_46 ?_
        refine z_icmp_ge (tgt := 71) C dX3_evenTemps_49 (by decide) (by omega) (by omega) (fun hby6 => ?_) (fun hby6 => ?_)
        · refine z_iconst (z := 0) C dX3_evenTemps_71 rfl ?_
          refine z_istore (lv' := [(4, .int (zI (0))), (3, .int (zI (r9 ((48 + i).toNat)))), (2, .int (zI (i))), (1, .int (zI (dn))), (0, .ref (ad a))]) C dX3_evenTemps_72 (by decide) rfl ?_
          refine z_aload_n C 4 dX3_evenTemps_74 rfl ?_
          refine z_get (v := .ref (ad (a + 1))) C (lt_A0 hN rfl) hay3 f1 rfl inA_X3 2 (by decide) q_162 rfl rfl dX3_evenTemps_75 ?_
          refine z_bipush (z := 48) C dX3_evenTemps_78 (by decide) ?_
          refine z_iload_n C 2 dX3_evenTemps_80 rfl ?_
          refine z_iadd C dX3_evenTemps_81 ?_
          refine z_iload_n C 1 dX3_evenTemps_82 rfl ?_
          refine z_iload_n C 3 dX3_evenTemps_83 rfl ?_
          refine z_isub C dX3_evenTemps_84 ?_
          refine z_iload C 0 dX3_evenTemps_85 rfl ?_
          refine z_iadd C dX3_evenTemps_87 ?_
          refine z_iconst (z := 0) C dX3_evenTemps_88 rfl ?_
          obtain ⟨xy7, exy8, hxy9⟩ := zI_of (zI (((r9 ((48 + i).toNat)) - dn) + 0))
          rw [exy8]
          refine z_mmin C q_483 q_473 q_20 q_474 (by omega) (by omega) (by decide) (Nat.le_of_ble_eq_true rfl) (by decide) (by decide) dX3_evenTemps_89 ?_
          obtain ⟨xy10, exy11, hxy12⟩ := mm_min (xy7) (0)
          rw [exy11]
          refine z_iast C (lt_A (c := 1) hN rfl) hay4 f2 ((48 + i).toNat) (by omega) (by omega) (by decide) dX3_evenTemps_92 (fun gy13 egy14 => ?_)
          have hgy15 := up_s egy14
          refine z_iload C 0 dX3_evenTemps_93 rfl ?_
          refine z_istore_n (lv' := [(1, .int (zI (0))), (4, .int (zI (0))), (3, .int (zI (r9 ((48 + i).toNat)))), (2, .int (zI (i))), (0, .ref (ad a))]) C dX3_evenTemps_95 rfl (by decide) rfl ?_
          refine z_iinc (z := i + 1) (lv' := [(2, .int (zI (i + 1))), (1, .int (zI (0))), (4, .int (zI (0))), (3, .int (zI (r9 ((48 + i).toNat)))), (0, .ref (ad a))]) (j := 3) C dX3_evenTemps_96 rfl rfl (by decide) rfl ?_
          refine z_goto (tgt := 24) C dX3_evenTemps_99 (by decide) ?_
          refine z_lv (lv' := [(2, .int (zI (i + 1))), (1, .int (zI (0))), (0, .ref (ad a))]) [0, 1, 4] rfl ?_
          have hgy16 := up_n egy14 f1 (ne_o (i := a) (c := 0) (d := 1) rfl)
          exact ih _ (by omega) (i + 1) (0) _ _ _ gy13 rfl hgy16 hgy15 (fun j j1 j2 => by rw [egy14, va_up_ne _ _ (by omega)]; exact f3 j j1 j2) (by omega) (by omega) (by omega)
        · refine z_aload_n C 3 dX3_evenTemps_52 rfl ?_
          refine z_get (v := .ref (ad (a + 1))) C (lt_A0 hN rfl) hay3 f1 rfl inA_X3 2 (by decide) q_162 rfl rfl dX3_evenTemps_53 ?_
          refine z_bipush (z := 48) C dX3_evenTemps_56 (by decide) ?_
          refine z_iload_n C 1 dX3_evenTemps_58 rfl ?_
          refine z_iadd C dX3_evenTemps_59 ?_
          refine z_iconst (z := 1) C dX3_evenTemps_60 rfl ?_
          refine z_iadd C dX3_evenTemps_61 ?_
          refine z_iald C (lt_A (c := 1) hN rfl) hay4 f2 (((48 + i) + 1).toNat) (by omega) (by omega) (by decide) dX3_evenTemps_62 ?_
          refine z_iload_n C 0 dX3_evenTemps_63 rfl ?_
          refine z_isub C dX3_evenTemps_64 ?_
          refine z_bipush (z := 8) C dX3_evenTemps_65 (by decide) ?_
          obtain ⟨xy17, exy18, hxy19⟩ := zI_of (zI ((r9 (((48 + i) + 1).toNat)) - (r9 ((48 + i).toNat))))
          rw [exy18]
          refine z_idiv C dX3_evenTemps_67 (by omega) (by omega) (by omega) ?_
          refine z_goto (tgt := 72) C dX3_evenTemps_68 (by decide) ?_
          refine z_istore (lv' := [(4, .int (zI (xy17.tdiv 8))), (3, .int (zI (r9 ((48 + i).toNat)))), (2, .int (zI (i))), (1, .int (zI (dn))), (0, .ref (ad a))]) C dX3_evenTemps_72 (by decide) rfl ?_
          refine z_aload_n C 4 dX3_evenTemps_74 rfl ?_
          refine z_get (v := .ref (ad (a + 1))) C (lt_A0 hN rfl) hay3 f1 rfl inA_X3 2 (by decide) q_162 rfl rfl dX3_evenTemps_75 ?_
          refine z_bipush (z := 48) C dX3_evenTemps_78 (by decide) ?_
          refine z_iload_n C 2 dX3_evenTemps_80 rfl ?_
          refine z_iadd C dX3_evenTemps_81 ?_
          refine z_iload_n C 1 dX3_evenTemps_82 rfl ?_
          refine z_iload_n C 3 dX3_evenTemps_83 rfl ?_
          refine z_isub C dX3_evenTemps_84 ?_
          refine z_iload C 0 dX3_evenTemps_85 rfl ?_
          refine z_iadd C dX3_evenTemps_87 ?_
          refine z_iconst (z := 0) C dX3_evenTemps_88 rfl ?_
          obtain ⟨xy20, exy21, hxy22⟩ := zI_of (zI (((r9 ((48 + i).toNat)) - dn) + (xy17.tdiv 8)))
          rw [exy21]
          refine z_mmin C q_483 q_473 q_20 q_474 (by omega) (by omega) (by decide) (Nat.le_of_ble_eq_true rfl) (by decide) (by decide) dX3_evenTemps_89 ?_
          obtain ⟨xy23, exy24, hxy25⟩ := mm_min (xy20) (0)
          rw [exy24]
          refine z_iast C (lt_A (c := 1) hN rfl) hay4 f2 ((48 + i).toNat) (by omega) (by omega) (by decide) dX3_evenTemps_92 (fun gy26 egy27 => ?_)
          have hgy28 := up_s egy27
          refine z_iload C 0 dX3_evenTemps_93 rfl ?_
          refine z_istore_n (lv' := [(1, .int (zI (xy17.tdiv 8))), (4, .int (zI (xy17.tdiv 8))), (3, .int (zI (r9 ((48 + i).toNat)))), (2, .int (zI (i))), (0, .ref (ad a))]) C dX3_evenTemps_95 rfl (by decide) rfl ?_
          refine z_iinc (z := i + 1) (lv' := [(2, .int (zI (i + 1))), (1, .int (zI (xy17.tdiv 8))), (4, .int (zI (xy17.tdiv 8))), (3, .int (zI (r9 ((48 + i).toNat)))), (0, .ref (ad a))]) (j := 3) C dX3_evenTemps_96 rfl rfl (by decide) rfl ?_
          refine z_goto (tgt := 24) C dX3_evenTemps_99 (by decide) ?_
          obtain ⟨xy29, exy30, hxy31⟩ := zI_of (zI (xy17.tdiv 8))
          rw [exy30]
          refine z_lv (lv' := [(2, .int (zI (i + 1))), (1, .int (zI (xy29))), (0, .ref (ad a))]) [0, 1, 4] rfl ?_
          have hgy32 := up_n egy27 f1 (ne_o (i := a) (c := 0) (d := 1) rfl)
          exact ih _ (by omega) (i + 1) (xy29) _ _ _ gy26 rfl hgy32 hgy28 (fun j j1 j2 => by rw [egy27, va_up_ne _ _ (by omega)]; exact f3 j j1 j2) (by omega) (by omega) (by omega)
  refine z_aload_n C 0 dX3_evenTemps_0 rfl ?_
  refine z_get (v := .int (zI (sz))) C (lt_A0 hN rfl) hay1 ha.1 rfl inA_X3 0 (by decide) q_154 rfl rfl dX3_evenTemps_1 ?_
  refine z_if_le (tgt := 20) C dX3_evenTemps_4 (by decide) (by omega) (fun hby33 => ?_) (fun hby33 => ?_)
  · refine z_iconst (z := 0) C dX3_evenTemps_20 rfl ?_
    refine z_istore_n (lv' := [(1, .int (zI (0))), (0, .ref (ad a))]) C dX3_evenTemps_21 rfl (by decide) rfl ?_
    refine z_iconst (z := 0) C dX3_evenTemps_22 rfl ?_
    refine z_istore_n (lv' := [(2, .int (zI (0))), (1, .int (zI (0))), (0, .ref (ad a))]) C dX3_evenTemps_23 rfl (by decide) rfl ?_
    refine z_lv (lv' := [(2, .int (zI (0))), (1, .int (zI (0))), (0, .ref (ad a))]) [0, 1, 2] rfl ?_
    exact lp _ (0) (0) _ _ _ g rfl ha.1 ha.2 (fun j j1 j2 => by rfl) (by omega) (by omega) (by omega)
  · refine z_aload_n C 0 dX3_evenTemps_7 rfl ?_
    refine z_get (v := .ref (ad (a + 1))) C (lt_A0 hN rfl) hay1 ha.1 rfl inA_X3 2 (by decide) q_162 rfl rfl dX3_evenTemps_8 ?_
    refine z_bipush (z := 48) C dX3_evenTemps_11 (by decide) ?_
    refine z_iald C (lt_A (c := 1) hN rfl) hay2 ha.2 (48) (by omega) (by omega) (by decide) dX3_evenTemps_13 ?_
    refine z_bipush (z := 8) C dX3_evenTemps_14 (by decide) ?_
    obtain ⟨xy34, exy35, hxy36⟩ := zI_of (zI (r (48)))
    rw [exy35]
    refine z_idiv C dX3_evenTemps_16 (by omega) (by omega) (by omega) ?_
    refine z_goto (tgt := 21) C dX3_evenTemps_17 (by decide) ?_
    refine z_istore_n (lv' := [(1, .int (zI (xy34.tdiv 8))), (0, .ref (ad a))]) C dX3_evenTemps_21 rfl (by decide) rfl ?_
    refine z_iconst (z := 0) C dX3_evenTemps_22 rfl ?_
    refine z_istore_n (lv' := [(2, .int (zI (0))), (1, .int (zI (xy34.tdiv 8))), (0, .ref (ad a))]) C dX3_evenTemps_23 rfl (by decide) rfl ?_
    obtain ⟨xy37, exy38, hxy39⟩ := zI_of (zI (xy34.tdiv 8))
    rw [exy38]
    refine z_lv (lv' := [(2, .int (zI (0))), (1, .int (zI (xy37))), (0, .ref (ad a))]) [0, 1, 2] rfl ?_
    exact lp _ (0) (xy37) _ _ _ g rfl ha.1 ha.2 (fun j j1 j2 => by rfl) (by omega) (by omega) (by omega)

set_option maxRecDepth 100000 in
set_option maxHeartbeats 4000000 in
theorem c_X3_freezeAndSink (l : Launch) (D : va_G) (A : Nat → Prop) (cs : Nat → ClassId) (tt : Nat) (N : Nat) (ad : Nat → Nat) (g : Nat → va_E) (a : Nat) (hN : a + 2 ≤ N) (sz ro : Int) (r : Nat → Int) (hz : 0 ≤ sz ∧ sz ≤ 12) (ha : isPack cs ad g a sz ro r) (b : Nat) (hNb : b + 7 ≤ N) (sl ho ua : Int) (st op ai fa mu tb : Nat → Int) (hb : isPlan cs ad g b sl ho ua st op ai fa mu tb) (hab : b + 7 ≤ a ∨ a + 2 ≤ b) : zM l yX3_freezeAndSink cX3_freezeAndSink 5 none ({ frames := 3, cells := 0, slots := 0, locals := 180 } : Room) D A cs tt N ad g [.ref (ad a), .ref (ad b)] (rV0 N ad fun g' => okPack cs ad g' a ∧ ∀ j, j ≠ a → j ≠ a + 1 → g' j = g j) := by
  have hay1 : zAt ad (a) (ad a) := rfl
  have hay2 : zAt ad (a + 1) (ad (a + 1)) := rfl
  have hay3 : zAt ad (b) (ad b) := rfl
  have hay4 : zAt ad (b + 1) (ad (b + 1)) := rfl
  have hay5 : zAt ad (b + 2) (ad (b + 2)) := rfl
  have hay6 : zAt ad (b + 3) (ad (b + 3)) := rfl
  have hay7 : zAt ad (b + 4) (ad (b + 4)) := rfl
  have hay8 : zAt ad (b + 5) (ad (b + 5)) := rfl
  have hay9 : zAt ad (b + 6) (ad (b + 6)) := rfl
  refine z_of (by decide) (Nat.le_of_ble_eq_true rfl) ?_
  intro p e s m below meth c C hr hlk hnm
  refine z_lv (lv' := [(0, .ref (ad a)), (1, .ref (ad b))]) [0, 1] rfl ?_
  have lp : ∀ (n9 : Nat) (i : Int) (s9 : Int) (o9 : Int) (r9 : Nat → Int) (g1 : Nat → va_E), (i + 1).toNat = n9 → (g1 a = oC 5 [.int (zI s9), .int (zI o9), .ref (ad (a + 1))]) → (g1 (a + 1) = iA cs 84 r9) → (∀ j, j ≠ a → j ≠ a + 1 → g1 j = g j) → (-1 ≤ i ∧ i ≤ 11) → (0 ≤ s9 ∧ s9 ≤ 12) → zV p l e ({ frames := 3, cells := 0, slots := 0, locals := 180 } : Room) s m ([.ref (ad a), .ref (ad b)] : List Value).toArray below meth c (MQ below (zPost D A (rV0 N ad fun g' => okPack cs ad g' a ∧ ∀ j, j ≠ a → j ≠ a + 1 → g' j = g j)) ([.ref (ad a), .ref (ad b)] : List Value).toArray s ({ frames := 3, cells := 0, slots := 0, locals := 180 } : Room).cells ({ frames := 3, cells := 0, slots := 0, locals := 180 } : Room).slots A) D A 5 (N) ad g1 (0) (0) 7 [(2, .int (zI (i))), (0, .ref (ad a)), (1, .ref (ad b))] [] := by
    intro n9
    induction n9 using Nat.strongRecOn with
    | ind n9 ih =>
      intro i s9 o9 r9 g1 hm9 f1 f2 f3 hv0 hv1
      have hay10 : zAt ad (a) (ad a) := rfl
      have hay11 : zAt ad (a + 1) (ad (a + 1)) := rfl
      have hay12 : zAt ad (b) (ad b) := rfl
      have hay13 : zAt ad (b + 1) (ad (b + 1)) := rfl
      have hay14 : zAt ad (b + 2) (ad (b + 2)) := rfl
      have hay15 : zAt ad (b + 3) (ad (b + 3)) := rfl
      have hay16 : zAt ad (b + 4) (ad (b + 4)) := rfl
      have hay17 : zAt ad (b + 5) (ad (b + 5)) := rfl
      have hay18 : zAt ad (b + 6) (ad (b + 6)) := rfl
      refine z_iload_n C 0 dX3_freezeAndSink_7 rfl ?_
      refine z_if_lt (tgt := 113) C dX3_freezeAndSink_8 (by decide) (by omega) (fun hby19 => ?_) (fun hby19 => ?_)
      · exact z_vret C hr hlk dX3_freezeAndSink_113 (by decide) (by decide) ⟨rfl, rfl, rfl, ⟨_, _, _, (by omega), f1, f2⟩, fun j j1 j2 => by exact f3 j j1 j2⟩
      · refine z_aload_n C 1 dX3_freezeAndSink_11 rfl ?_
        refine z_get (v := .ref (ad (a + 1))) C (lt_A0 hN rfl) hay10 f1 rfl inA_X3 2 (by decide) q_162 rfl rfl dX3_freezeAndSink_12 ?_
        refine z_bipush (z := 24) C dX3_freezeAndSink_15 (by decide) ?_
        refine z_iload_n C 0 dX3_freezeAndSink_17 rfl ?_
        refine z_iadd C dX3_freezeAndSink_18 ?_
        refine z_iald C (lt_A (c := 1) hN rfl) hay11 f2 ((24 + i).toNat) (by omega) (by omega) (by decide) dX3_freezeAndSink_19 ?_
        obtain ⟨xy20, exy21, hxy22⟩ := zI_of (zI (r9 ((24 + i).toNat)))
        rw [exy21]
        refine z_if_le (tgt := 40) C dX3_freezeAndSink_20 (by decide) (by omega) (fun hby23 => ?_) (fun hby23 => ?_)
        · refine z_aload_n C 1 dX3_freezeAndSink_40 rfl ?_
          refine z_get (v := .ref (ad (a + 1))) C (lt_A0 hN rfl) hay10 f1 rfl inA_X3 2 (by decide) q_162 rfl rfl dX3_freezeAndSink_41 ?_
          refine z_bipush (z := 12) C dX3_freezeAndSink_44 (by decide) ?_
          refine z_iload_n C 0 dX3_freezeAndSink_46 rfl ?_
          refine z_iadd C dX3_freezeAndSink_47 ?_
          refine z_iald C (lt_A (c := 1) hN rfl) hay11 f2 ((12 + i).toNat) (by omega) (by omega) (by decide) dX3_freezeAndSink_48 ?_
          obtain ⟨xy24, exy25, hxy26⟩ := zI_of (zI (r9 ((12 + i).toNat)))
          rw [exy25]
          refine z_i2l C dX3_freezeAndSink_49 (by omega) ?_
          refine z_aload_n C 2 dX3_freezeAndSink_50 rfl ?_
          refine z_iconst (z := 5) C dX3_freezeAndSink_51 rfl ?_
          refine z_aload_n C 1 dX3_freezeAndSink_52 rfl ?_
          refine z_get (v := .ref (ad (a + 1))) C (lt_A0 hN rfl) hay10 f1 rfl inA_X3 2 (by decide) q_162 rfl rfl dX3_freezeAndSink_53 ?_
          refine z_iconst (z := 0) C dX3_freezeAndSink_56 rfl ?_
          refine z_iload_n C 0 dX3_freezeAndSink_57 rfl ?_
          refine z_iadd C dX3_freezeAndSink_58 ?_
          refine z_iald C (lt_A (c := 1) hN rfl) hay11 f2 ((0 + i).toNat) (by omega) (by omega) (by decide) dX3_freezeAndSink_59 ?_
          obtain ⟨xy27, exy28, hxy29⟩ := zI_of (zI (r9 ((0 + i).toNat)))
          rw [exy28]
          refine z_cV (As := [.int (zI (5)), .int (zI (xy27))]) (rest := [.long (zJ (xy24))]) (ci := 7) C (c_X5_of l D A cs tt N ad _ (b) (by omega) _ _ _ _ _ _ _ _ _ ⟨((f3 _ (by omega) (by omega)).trans hb.1), ((f3 _ (by omega) (by omega)).trans hb.2.1), ((f3 _ (by omega) (by omega)).trans hb.2.2.1), ((f3 _ (by omega) (by omega)).trans hb.2.2.2.1), ((f3 _ (by omega) (by omega)).trans hb.2.2.2.2.1), ((f3 _ (by omega) (by omega)).trans hb.2.2.2.2.2.1), ((f3 _ (by omega) (by omega)).trans hb.2.2.2.2.2.2)⟩ (5) (xy27) (by omega) (by omega)) (by omega) hay12 ((f3 _ (by omega) (by omega)).trans hb.1) rfl rfl mv_yX5_of q_502 hd_yX5_of (by decide) (Nat.le_of_ble_eq_true rfl) (by decide) dX3_freezeAndSink_60 rfl (kI0 fun vy30 gvy30 hvy30 => ?_)
          obtain ⟨hvy30, rfl⟩ := hvy30
          refine z_i2l C dX3_freezeAndSink_63 (by omega) ?_
          refine z_lmul C dX3_freezeAndSink_64 ?_
          refine z_ldc2 (z := 100) C dX3_freezeAndSink_65 q_501 (by decide) ?_
          obtain ⟨xy31, exy32, hxy33⟩ := zJ_of (zJ (xy24 * vy30))
          rw [exy32]
          refine z_cSN (As := [.long (zJ (xy31)), .long (zJ (100))]) (rest := []) C (c_X9_part l D A cs tt N ad _ (xy31) (100) (by omega) (by omega)) ms_yX9_part n_466 hd_yX9_part (by decide) (Nat.le_of_ble_eq_true rfl) (by decide) dX3_freezeAndSink_68 rfl (kI0 fun vy34 gvy34 hvy34 => ?_)
          obtain ⟨hvy34, rfl⟩ := hvy34
          refine z_istore_n (lv' := [(3, .int (zI (vy34))), (2, .int (zI (i))), (0, .ref (ad a)), (1, .ref (ad b))]) C dX3_freezeAndSink_71 rfl (by decide) rfl ?_
          refine z_aload_n C 2 dX3_freezeAndSink_72 rfl ?_
          refine z_get (v := .ref (ad (a + 1))) C (lt_A0 hN rfl) hay10 f1 rfl inA_X3 2 (by decide) q_162 rfl rfl dX3_freezeAndSink_73 ?_
          refine z_bipush (z := 24) C dX3_freezeAndSink_76 (by decide) ?_
          refine z_iload_n C 1 dX3_freezeAndSink_78 rfl ?_
          refine z_iadd C dX3_freezeAndSink_79 ?_
          refine z_iald C (lt_A (c := 1) hN rfl) hay11 f2 ((24 + i).toNat) (by omega) (by omega) (by decide) dX3_freezeAndSink_80 ?_
          refine z_iload_n C 0 dX3_freezeAndSink_81 rfl ?_
          refine z_isub C dX3_freezeAndSink_82 ?_
          refine z_istore (lv' := [(4, .int (zI ((r9 ((24 + i).toNat)) - vy34))), (3, .int (zI (vy34))), (2, .int (zI (i))), (0, .ref (ad a)), (1, .ref (ad b))]) C dX3_freezeAndSink_83 (by decide) rfl ?_
          refine z_iload C 0 dX3_freezeAndSink_85 rfl ?_
          obtain ⟨xy35, exy36, hxy37⟩ := zI_of (zI ((r9 ((24 + i).toNat)) - vy34))
          rw [exy36]
          refine z_if_le (tgt := 107) C dX3_freezeAndSink_87 (by decide) (by omega) (fun hby38 => ?_) (fun hby38 => ?_)
          · refine z_iinc (z := i - 1) (lv' := [(2, .int (zI (i - 1))), (4, .int (zI (xy35))), (3, .int (zI (vy34))), (0, .ref (ad a)), (1, .ref (ad b))]) (j := 2) C dX3_freezeAndSink_107 rfl (congrArg zI (by omega)) (by decide) rfl ?_
            refine z_goto (tgt := 7) C dX3_freezeAndSink_110 (by decide) ?_
            refine z_lv (lv' := [(2, .int (zI (i - 1))), (0, .ref (ad a)), (1, .ref (ad b))]) [0, 3, 4] rfl ?_
            exact ih _ (by omega) (i - 1) _ _ _ g1 rfl f1 f2 (fun j j1 j2 => by exact f3 j j1 j2) (by omega) (by omega)
          · refine z_aload_n C 3 dX3_freezeAndSink_90 rfl ?_
            refine z_get (v := .ref (ad (a + 1))) C (lt_A0 hN rfl) hay10 f1 rfl inA_X3 2 (by decide) q_162 rfl rfl dX3_freezeAndSink_91 ?_
            refine z_bipush (z := 24) C dX3_freezeAndSink_94 (by decide) ?_
            refine z_iload_n C 2 dX3_freezeAndSink_96 rfl ?_
            refine z_iadd C dX3_freezeAndSink_97 ?_
            refine z_iload_n C 1 dX3_freezeAndSink_98 rfl ?_
            refine z_iast C (lt_A (c := 1) hN rfl) hay11 f2 ((24 + i).toNat) (by omega) (by omega) (by decide) dX3_freezeAndSink_99 (fun gy39 egy40 => ?_)
            have hgy41 := up_s egy40
            refine z_aload_n C 3 dX3_freezeAndSink_100 rfl ?_
            refine z_iload_n C 2 dX3_freezeAndSink_101 rfl ?_
            refine z_iload C 0 dX3_freezeAndSink_102 rfl ?_
            have hgy43 := up_n egy40 f1 (ne_o (i := a) (c := 0) (d := 1) rfl)
            refine z_cV (As := [.int (zI (i)), .int (zI (xy35))]) (rest := []) (ci := 5) C (c_X3_wet l D A cs tt N ad _ (a) (by omega) _ _ _ (by omega) ⟨hgy43, hgy41⟩  (i) (by omega) (xy35) (by omega)) (lt_A0 hN rfl) hay10 hgy43 rfl rfl mv_yX3_wet q_484 hd_yX3_wet (by decide) (Nat.le_of_ble_eq_true rfl) (by decide) dX3_freezeAndSink_104 rfl (kV0 fun gvy42 hvy42 => ?_)
            obtain ⟨⟨svy42, ovy42, rvy42, hsvy42, hpvy42⟩, hfvy42⟩ := hvy42
            refine z_iinc (z := i - 1) (lv' := [(2, .int (zI (i - 1))), (4, .int (zI (xy35))), (3, .int (zI (vy34))), (0, .ref (ad a)), (1, .ref (ad b))]) (j := 2) C dX3_freezeAndSink_107 rfl (congrArg zI (by omega)) (by decide) rfl ?_
            refine z_goto (tgt := 7) C dX3_freezeAndSink_110 (by decide) ?_
            refine z_lv (lv' := [(2, .int (zI (i - 1))), (0, .ref (ad a)), (1, .ref (ad b))]) [0, 3, 4] rfl ?_
            exact ih _ (by omega) (i - 1) _ _ _ gvy42 rfl hpvy42.1 hpvy42.2 (fun j j1 j2 => by rw [hfvy42 _ (by omega) (by omega)]; rw [egy40, va_up_ne _ _ (by omega)]; exact f3 j j1 j2) (by omega) (by omega)
        · refine z_aload_n C 1 dX3_freezeAndSink_23 rfl ?_
          refine z_get (v := .ref (ad (a + 1))) C (lt_A0 hN rfl) hay10 f1 rfl inA_X3 2 (by decide) q_162 rfl rfl dX3_freezeAndSink_24 ?_
          refine z_bipush (z := 48) C dX3_freezeAndSink_27 (by decide) ?_
          refine z_iload_n C 0 dX3_freezeAndSink_29 rfl ?_
          refine z_iadd C dX3_freezeAndSink_30 ?_
          refine z_iald C (lt_A (c := 1) hN rfl) hay11 f2 ((48 + i).toNat) (by omega) (by omega) (by decide) dX3_freezeAndSink_31 ?_
          obtain ⟨xy44, exy45, hxy46⟩ := zI_of (zI (r9 ((48 + i).toNat)))
          rw [exy45]
          refine z_if_ge (tgt := 40) C dX3_freezeAndSink_32 (by decide) (by omega) (fun hby47 => ?_) (fun hby47 => ?_)
          · refine z_aload_n C 1 dX3_freezeAndSink_40 rfl ?_
            refine z_get (v := .ref (ad (a + 1))) C (lt_A0 hN rfl) hay10 f1 rfl inA_X3 2 (by decide) q_162 rfl rfl dX3_freezeAndSink_41 ?_
            refine z_bipush (z := 12) C dX3_freezeAndSink_44 (by decide) ?_
            refine z_iload_n C 0 dX3_freezeAndSink_46 rfl ?_
            refine z_iadd C dX3_freezeAndSink_47 ?_
            refine z_iald C (lt_A (c := 1) hN rfl) hay11 f2 ((12 + i).toNat) (by omega) (by omega) (by decide) dX3_freezeAndSink_48 ?_
            obtain ⟨xy48, exy49, hxy50⟩ := zI_of (zI (r9 ((12 + i).toNat)))
            rw [exy49]
            refine z_i2l C dX3_freezeAndSink_49 (by omega) ?_
            refine z_aload_n C 2 dX3_freezeAndSink_50 rfl ?_
            refine z_iconst (z := 5) C dX3_freezeAndSink_51 rfl ?_
            refine z_aload_n C 1 dX3_freezeAndSink_52 rfl ?_
            refine z_get (v := .ref (ad (a + 1))) C (lt_A0 hN rfl) hay10 f1 rfl inA_X3 2 (by decide) q_162 rfl rfl dX3_freezeAndSink_53 ?_
            refine z_iconst (z := 0) C dX3_freezeAndSink_56 rfl ?_
            refine z_iload_n C 0 dX3_freezeAndSink_57 rfl ?_
            refine z_iadd C dX3_freezeAndSink_58 ?_
            refine z_iald C (lt_A (c := 1) hN rfl) hay11 f2 ((0 + i).toNat) (by omega) (by omega) (by decide) dX3_freezeAndSink_59 ?_
            obtain ⟨xy51, exy52, hxy53⟩ := zI_of (zI (r9 ((0 + i).toNat)))
            rw [exy52]
            refine z_cV (As := [.int (zI (5)), .int (zI (xy51))]) (rest := [.long (zJ (xy48))]) (ci := 7) C (c_X5_of l D A cs tt N ad _ (b) (by omega) _ _ _ _ _ _ _ _ _ ⟨((f3 _ (by omega) (by omega)).trans hb.1), ((f3 _ (by omega) (by omega)).trans hb.2.1), ((f3 _ (by omega) (by omega)).trans hb.2.2.1), ((f3 _ (by omega) (by omega)).trans hb.2.2.2.1), ((f3 _ (by omega) (by omega)).trans hb.2.2.2.2.1), ((f3 _ (by omega) (by omega)).trans hb.2.2.2.2.2.1), ((f3 _ (by omega) (by omega)).trans hb.2.2.2.2.2.2)⟩ (5) (xy51) (by omega) (by omega)) (by omega) hay12 ((f3 _ (by omega) (by omega)).trans hb.1) rfl rfl mv_yX5_of q_502 hd_yX5_of (by decide) (Nat.le_of_ble_eq_true rfl) (by decide) dX3_freezeAndSink_60 rfl (kI0 fun vy54 gvy54 hvy54 => ?_)
            obtain ⟨hvy54, rfl⟩ := hvy54
            refine z_i2l C dX3_freezeAndSink_63 (by omega) ?_
            refine z_lmul C dX3_freezeAndSink_64 ?_
            refine z_ldc2 (z := 100) C dX3_freezeAndSink_65 q_501 (by decide) ?_
            obtain ⟨xy55, exy56, hxy57⟩ := zJ_of (zJ (xy48 * vy54))
            rw [exy56]
            refine z_cSN (As := [.long (zJ (xy55)), .long (zJ (100))]) (rest := []) C (c_X9_part l D A cs tt N ad _ (xy55) (100) (by omega) (by omega)) ms_yX9_part n_466 hd_yX9_part (by decide) (Nat.le_of_ble_eq_true rfl) (by decide) dX3_freezeAndSink_68 rfl (kI0 fun vy58 gvy58 hvy58 => ?_)
            obtain ⟨hvy58, rfl⟩ := hvy58
            refine z_istore_n (lv' := [(3, .int (zI (vy58))), (2, .int (zI (i))), (0, .ref (ad a)), (1, .ref (ad b))]) C dX3_freezeAndSink_71 rfl (by decide) rfl ?_
            refine z_aload_n C 2 dX3_freezeAndSink_72 rfl ?_
            refine z_get (v := .ref (ad (a + 1))) C (lt_A0 hN rfl) hay10 f1 rfl inA_X3 2 (by decide) q_162 rfl rfl dX3_freezeAndSink_73 ?_
            refine z_bipush (z := 24) C dX3_freezeAndSink_76 (by decide) ?_
            refine z_iload_n C 1 dX3_freezeAndSink_78 rfl ?_
            refine z_iadd C dX3_freezeAndSink_79 ?_
            refine z_iald C (lt_A (c := 1) hN rfl) hay11 f2 ((24 + i).toNat) (by omega) (by omega) (by decide) dX3_freezeAndSink_80 ?_
            refine z_iload_n C 0 dX3_freezeAndSink_81 rfl ?_
            refine z_isub C dX3_freezeAndSink_82 ?_
            refine z_istore (lv' := [(4, .int (zI ((r9 ((24 + i).toNat)) - vy58))), (3, .int (zI (vy58))), (2, .int (zI (i))), (0, .ref (ad a)), (1, .ref (ad b))]) C dX3_freezeAndSink_83 (by decide) rfl ?_
            refine z_iload C 0 dX3_freezeAndSink_85 rfl ?_
            obtain ⟨xy59, exy60, hxy61⟩ := zI_of (zI ((r9 ((24 + i).toNat)) - vy58))
            rw [exy60]
            refine z_if_le (tgt := 107) C dX3_freezeAndSink_87 (by decide) (by omega) (fun hby62 => ?_) (fun hby62 => ?_)
            · refine z_iinc (z := i - 1) (lv' := [(2, .int (zI (i - 1))), (4, .int (zI (xy59))), (3, .int (zI (vy58))), (0, .ref (ad a)), (1, .ref (ad b))]) (j := 2) C dX3_freezeAndSink_107 rfl (congrArg zI (by omega)) (by decide) rfl ?_
              refine z_goto (tgt := 7) C dX3_freezeAndSink_110 (by decide) ?_
              refine z_lv (lv' := [(2, .int (zI (i - 1))), (0, .ref (ad a)), (1, .ref (ad b))]) [0, 3, 4] rfl ?_
              exact ih _ (by omega) (i - 1) _ _ _ g1 rfl f1 f2 (fun j j1 j2 => by exact f3 j j1 j2) (by omega) (by omega)
            · refine z_aload_n C 3 dX3_freezeAndSink_90 rfl ?_
              refine z_get (v := .ref (ad (a + 1))) C (lt_A0 hN rfl) hay10 f1 rfl inA_X3 2 (by decide) q_162 rfl rfl dX3_freezeAndSink_91 ?_
              refine z_bipush (z := 24) C dX3_freezeAndSink_94 (by decide) ?_
              refine z_iload_n C 2 dX3_freezeAndSink_96 rfl ?_
              refine z_iadd C dX3_freezeAndSink_97 ?_
              refine z_iload_n C 1 dX3_freezeAndSink_98 rfl ?_
              refine z_iast C (lt_A (c := 1) hN rfl) hay11 f2 ((24 + i).toNat) (by omega) (by omega) (by decide) dX3_freezeAndSink_99 (fun gy63 egy64 => ?_)
              have hgy65 := up_s egy64
              refine z_aload_n C 3 dX3_freezeAndSink_100 rfl ?_
              refine z_iload_n C 2 dX3_freezeAndSink_101 rfl ?_
              refine z_iload C 0 dX3_freezeAndSink_102 rfl ?_
              have hgy67 := up_n egy64 f1 (ne_o (i := a) (c := 0) (d := 1) rfl)
              refine z_cV (As := [.int (zI (i)), .int (zI (xy59))]) (rest := []) (ci := 5) C (c_X3_wet l D A cs tt N ad _ (a) (by omega) _ _ _ (by omega) ⟨hgy67, hgy65⟩  (i) (by omega) (xy59) (by omega)) (lt_A0 hN rfl) hay10 hgy67 rfl rfl mv_yX3_wet q_484 hd_yX3_wet (by decide) (Nat.le_of_ble_eq_true rfl) (by decide) dX3_freezeAndSink_104 rfl (kV0 fun gvy66 hvy66 => ?_)
              obtain ⟨⟨svy66, ovy66, rvy66, hsvy66, hpvy66⟩, hfvy66⟩ := hvy66
              refine z_iinc (z := i - 1) (lv' := [(2, .int (zI (i - 1))), (4, .int (zI (xy59))), (3, .int (zI (vy58))), (0, .ref (ad a)), (1, .ref (ad b))]) (j := 2) C dX3_freezeAndSink_107 rfl (congrArg zI (by omega)) (by decide) rfl ?_
              refine z_goto (tgt := 7) C dX3_freezeAndSink_110 (by decide) ?_
              refine z_lv (lv' := [(2, .int (zI (i - 1))), (0, .ref (ad a)), (1, .ref (ad b))]) [0, 3, 4] rfl ?_
              exact ih _ (by omega) (i - 1) _ _ _ gvy66 rfl hpvy66.1 hpvy66.2 (fun j j1 j2 => by rw [hfvy66 _ (by omega) (by omega)]; rw [egy64, va_up_ne _ _ (by omega)]; exact f3 j j1 j2) (by omega) (by omega)
          · refine z_aload_n C 1 dX3_freezeAndSink_35 rfl ?_
            refine z_iload_n C 0 dX3_freezeAndSink_36 rfl ?_
            refine z_cV (As := [.int (zI (i))]) (rest := []) (ci := 5) C (c_X3_freeze l D A cs tt N ad _ (a) (by omega) _ _ _ (by omega) ⟨f1, f2⟩  (i) (by omega)) (lt_A0 hN rfl) hay10 f1 rfl rfl mv_yX3_freeze q_497 hd_yX3_freeze (by decide) (Nat.le_of_ble_eq_true rfl) (by decide) dX3_freezeAndSink_37 rfl (kV0 fun gvy68 hvy68 => ?_)
            obtain ⟨⟨svy68, ovy68, rvy68, hsvy68, hpvy68⟩, hfvy68⟩ := hvy68
            refine z_aload_n C 1 dX3_freezeAndSink_40 rfl ?_
            refine z_get (v := .ref (ad (a + 1))) C (lt_A0 hN rfl) hay10 hpvy68.1 rfl inA_X3 2 (by decide) q_162 rfl rfl dX3_freezeAndSink_41 ?_
            refine z_bipush (z := 12) C dX3_freezeAndSink_44 (by decide) ?_
            refine z_iload_n C 0 dX3_freezeAndSink_46 rfl ?_
            refine z_iadd C dX3_freezeAndSink_47 ?_
            refine z_iald C (lt_A (c := 1) hN rfl) hay11 hpvy68.2 ((12 + i).toNat) (by omega) (by omega) (by decide) dX3_freezeAndSink_48 ?_
            obtain ⟨xy69, exy70, hxy71⟩ := zI_of (zI (rvy68 ((12 + i).toNat)))
            rw [exy70]
            refine z_i2l C dX3_freezeAndSink_49 (by omega) ?_
            refine z_aload_n C 2 dX3_freezeAndSink_50 rfl ?_
            refine z_iconst (z := 5) C dX3_freezeAndSink_51 rfl ?_
            refine z_aload_n C 1 dX3_freezeAndSink_52 rfl ?_
            refine z_get (v := .ref (ad (a + 1))) C (lt_A0 hN rfl) hay10 hpvy68.1 rfl inA_X3 2 (by decide) q_162 rfl rfl dX3_freezeAndSink_53 ?_
            refine z_iconst (z := 0) C dX3_freezeAndSink_56 rfl ?_
            refine z_iload_n C 0 dX3_freezeAndSink_57 rfl ?_
            refine z_iadd C dX3_freezeAndSink_58 ?_
            refine z_iald C (lt_A (c := 1) hN rfl) hay11 hpvy68.2 ((0 + i).toNat) (by omega) (by omega) (by decide) dX3_freezeAndSink_59 ?_
            obtain ⟨xy72, exy73, hxy74⟩ := zI_of (zI (rvy68 ((0 + i).toNat)))
            rw [exy73]
            have hgy76 := (hfvy68 (b) (by omega) (by omega)).trans ((f3 _ (by omega) (by omega)).trans hb.1)
            have hgy77 := (hfvy68 (b + 1) (by omega) (by omega)).trans ((f3 _ (by omega) (by omega)).trans hb.2.1)
            have hgy78 := (hfvy68 (b + 2) (by omega) (by omega)).trans ((f3 _ (by omega) (by omega)).trans hb.2.2.1)
            have hgy79 := (hfvy68 (b + 3) (by omega) (by omega)).trans ((f3 _ (by omega) (by omega)).trans hb.2.2.2.1)
            have hgy80 := (hfvy68 (b + 4) (by omega) (by omega)).trans ((f3 _ (by omega) (by omega)).trans hb.2.2.2.2.1)
            have hgy81 := (hfvy68 (b + 5) (by omega) (by omega)).trans ((f3 _ (by omega) (by omega)).trans hb.2.2.2.2.2.1)
            have hgy82 := (hfvy68 (b + 6) (by omega) (by omega)).trans ((f3 _ (by omega) (by omega)).trans hb.2.2.2.2.2.2)
            refine z_cV (As := [.int (zI (5)), .int (zI (xy72))]) (rest := [.long (zJ (xy69))]) (ci := 7) C (c_X5_of l D A cs tt N ad _ (b) (by omega) _ _ _ _ _ _ _ _ _ ⟨hgy76, hgy77, hgy78, hgy79, hgy80, hgy81, hgy82⟩ (5) (xy72) (by omega) (by omega)) (by omega) hay12 hgy76 rfl rfl mv_yX5_of q_502 hd_yX5_of (by decide) (Nat.le_of_ble_eq_true rfl) (by decide) dX3_freezeAndSink_60 rfl (kI0 fun vy75 gvy75 hvy75 => ?_)
            obtain ⟨hvy75, rfl⟩ := hvy75
            refine z_i2l C dX3_freezeAndSink_63 (by omega) ?_
            refine z_lmul C dX3_freezeAndSink_64 ?_
            refine z_ldc2 (z := 100) C dX3_freezeAndSink_65 q_501 (by decide) ?_
            obtain ⟨xy83, exy84, hxy85⟩ := zJ_of (zJ (xy69 * vy75))
            rw [exy84]
            refine z_cSN (As := [.long (zJ (xy83)), .long (zJ (100))]) (rest := []) C (c_X9_part l D A cs tt N ad _ (xy83) (100) (by omega) (by omega)) ms_yX9_part n_466 hd_yX9_part (by decide) (Nat.le_of_ble_eq_true rfl) (by decide) dX3_freezeAndSink_68 rfl (kI0 fun vy86 gvy86 hvy86 => ?_)
            obtain ⟨hvy86, rfl⟩ := hvy86
            refine z_istore_n (lv' := [(3, .int (zI (vy86))), (2, .int (zI (i))), (0, .ref (ad a)), (1, .ref (ad b))]) C dX3_freezeAndSink_71 rfl (by decide) rfl ?_
            refine z_aload_n C 2 dX3_freezeAndSink_72 rfl ?_
            refine z_get (v := .ref (ad (a + 1))) C (lt_A0 hN rfl) hay10 hpvy68.1 rfl inA_X3 2 (by decide) q_162 rfl rfl dX3_freezeAndSink_73 ?_
            refine z_bipush (z := 24) C dX3_freezeAndSink_76 (by decide) ?_
            refine z_iload_n C 1 dX3_freezeAndSink_78 rfl ?_
            refine z_iadd C dX3_freezeAndSink_79 ?_
            refine z_iald C (lt_A (c := 1) hN rfl) hay11 hpvy68.2 ((24 + i).toNat) (by omega) (by omega) (by decide) dX3_freezeAndSink_80 ?_
            refine z_iload_n C 0 dX3_freezeAndSink_81 rfl ?_
            refine z_isub C dX3_freezeAndSink_82 ?_
            refine z_istore (lv' := [(4, .int (zI ((rvy68 ((24 + i).toNat)) - vy86))), (3, .int (zI (vy86))), (2, .int (zI (i))), (0, .ref (ad a)), (1, .ref (ad b))]) C dX3_freezeAndSink_83 (by decide) rfl ?_
            refine z_iload C 0 dX3_freezeAndSink_85 rfl ?_
            obtain ⟨xy87, exy88, hxy89⟩ := zI_of (zI ((rvy68 ((24 + i).toNat)) - vy86))
            rw [exy88]
            refine z_if_le (tgt := 107) C dX3_freezeAndSink_87 (by decide) (by omega) (fun hby90 => ?_) (fun hby90 => ?_)
            · refine z_iinc (z := i - 1) (lv' := [(2, .int (zI (i - 1))), (4, .int (zI (xy87))), (3, .int (zI (vy86))), (0, .ref (ad a)), (1, .ref (ad b))]) (j := 2) C dX3_freezeAndSink_107 rfl (congrArg zI (by omega)) (by decide) rfl ?_
              refine z_goto (tgt := 7) C dX3_freezeAndSink_110 (by decide) ?_
              refine z_lv (lv' := [(2, .int (zI (i - 1))), (0, .ref (ad a)), (1, .ref (ad b))]) [0, 3, 4] rfl ?_
              exact ih _ (by omega) (i - 1) _ _ _ gvy68 rfl hpvy68.1 hpvy68.2 (fun j j1 j2 => by rw [hfvy68 _ (by omega) (by omega)]; exact f3 j j1 j2) (by omega) (by omega)
            · refine z_aload_n C 3 dX3_freezeAndSink_90 rfl ?_
              refine z_get (v := .ref (ad (a + 1))) C (lt_A0 hN rfl) hay10 hpvy68.1 rfl inA_X3 2 (by decide) q_162 rfl rfl dX3_freezeAndSink_91 ?_
              refine z_bipush (z := 24) C dX3_freezeAndSink_94 (by decide) ?_
              refine z_iload_n C 2 dX3_freezeAndSink_96 rfl ?_
              refine z_iadd C dX3_freezeAndSink_97 ?_
              refine z_iload_n C 1 dX3_freezeAndSink_98 rfl ?_
              refine z_iast C (lt_A (c := 1) hN rfl) hay11 hpvy68.2 ((24 + i).toNat) (by omega) (by omega) (by decide) dX3_freezeAndSink_99 (fun gy91 egy92 => ?_)
              have hgy93 := up_s egy92
              refine z_aload_n C 3 dX3_freezeAndSink_100 rfl ?_
              refine z_iload_n C 2 dX3_freezeAndSink_101 rfl ?_
              refine z_iload C 0 dX3_freezeAndSink_102 rfl ?_
              have hgy95 := up_n egy92 hpvy68.1 (ne_o (i := a) (c := 0) (d := 1) rfl)
              refine z_cV (As := [.int (zI (i)), .int (zI (xy87))]) (rest := []) (ci := 5) C (c_X3_wet l D A cs tt N ad _ (a) (by omega) _ _ _ (by omega) ⟨hgy95, hgy93⟩  (i) (by omega) (xy87) (by omega)) (lt_A0 hN rfl) hay10 hgy95 rfl rfl mv_yX3_wet q_484 hd_yX3_wet (by decide) (Nat.le_of_ble_eq_true rfl) (by decide) dX3_freezeAndSink_104 rfl (kV0 fun gvy94 hvy94 => ?_)
              obtain ⟨⟨svy94, ovy94, rvy94, hsvy94, hpvy94⟩, hfvy94⟩ := hvy94
              refine z_iinc (z := i - 1) (lv' := [(2, .int (zI (i - 1))), (4, .int (zI (xy87))), (3, .int (zI (vy86))), (0, .ref (ad a)), (1, .ref (ad b))]) (j := 2) C dX3_freezeAndSink_107 rfl (congrArg zI (by omega)) (by decide) rfl ?_
              refine z_goto (tgt := 7) C dX3_freezeAndSink_110 (by decide) ?_
              refine z_lv (lv' := [(2, .int (zI (i - 1))), (0, .ref (ad a)), (1, .ref (ad b))]) [0, 3, 4] rfl ?_
              exact ih _ (by omega) (i - 1) _ _ _ gvy94 rfl hpvy94.1 hpvy94.2 (fun j j1 j2 => by rw [hfvy94 _ (by omega) (by omega)]; rw [egy92, va_up_ne _ _ (by omega)]; rw [hfvy68 _ (by omega) (by omega)]; exact f3 j j1 j2) (by omega) (by omega)
  refine z_aload_n C 0 dX3_freezeAndSink_0 rfl ?_
  refine z_get (v := .int (zI (sz))) C (lt_A0 hN rfl) hay1 ha.1 rfl inA_X3 0 (by decide) q_154 rfl rfl dX3_freezeAndSink_1 ?_
  refine z_iconst (z := 1) C dX3_freezeAndSink_4 rfl ?_
  refine z_isub C dX3_freezeAndSink_5 ?_
  refine z_istore_n (lv' := [(2, .int (zI (sz - 1))), (0, .ref (ad a)), (1, .ref (ad b))]) C dX3_freezeAndSink_6 rfl (by decide) rfl ?_
  refine z_lv (lv' := [(2, .int (zI (sz - 1))), (0, .ref (ad a)), (1, .ref (ad b))]) [0, 1, 2] rfl ?_
  exact lp _ (sz - 1) _ _ _ g rfl ha.1 ha.2 (fun j j1 j2 => by rfl) (by omega) (by omega)

set_option maxRecDepth 100000 in
set_option maxHeartbeats 4000000 in
theorem c_X3_press (l : Launch) (D : va_G) (A : Nat → Prop) (cs : Nat → ClassId) (tt : Nat) (N : Nat) (ad : Nat → Nat) (g : Nat → va_E) (a : Nat) (hN : a + 2 ≤ N) (sz ro : Int) (r : Nat → Int) (hz : 0 ≤ sz ∧ sz ≤ 12) (ha : isPack cs ad g a sz ro r) (b : Nat) (hNb : b + 7 ≤ N) (sl ho ua : Int) (st op ai fa mu tb : Nat → Int) (hb : isPlan cs ad g b sl ho ua st op ai fa mu tb) (hab : b + 7 ≤ a ∨ a + 2 ≤ b) : zM l yX3_press cX3_press 11 none ({ frames := 2, cells := 0, slots := 0, locals := 120 } : Room) D A cs tt N ad g [.ref (ad a), .ref (ad b)] (rV0 N ad fun g' => okPack cs ad g' a ∧ ∀ j, j ≠ a → j ≠ a + 1 → g' j = g j) := by
  have hay1 : zAt ad (a) (ad a) := rfl
  have hay2 : zAt ad (a + 1) (ad (a + 1)) := rfl
  have hay3 : zAt ad (b) (ad b) := rfl
  have hay4 : zAt ad (b + 1) (ad (b + 1)) := rfl
  have hay5 : zAt ad (b + 2) (ad (b + 2)) := rfl
  have hay6 : zAt ad (b + 3) (ad (b + 3)) := rfl
  have hay7 : zAt ad (b + 4) (ad (b + 4)) := rfl
  have hay8 : zAt ad (b + 5) (ad (b + 5)) := rfl
  have hay9 : zAt ad (b + 6) (ad (b + 6)) := rfl
  refine z_of (by decide) (Nat.le_of_ble_eq_true rfl) ?_
  intro p e s m below meth c C hr hlk hnm
  refine z_lv (lv' := [(0, .ref (ad a)), (1, .ref (ad b))]) [0, 1] rfl ?_
  have lp : ∀ (n9 : Nat) (i : Int) (ab : Int) (s9 : Int) (o9 : Int) (r9 : Nat → Int) (g1 : Nat → va_E), (i + 1).toNat = n9 → (g1 a = oC 5 [.int (zI s9), .int (zI o9), .ref (ad (a + 1))]) → (g1 (a + 1) = iA cs 84 r9) → (∀ j, j ≠ a → j ≠ a + 1 → g1 j = g j) → (-1 ≤ i ∧ i ≤ 11) → (-2147483648 ≤ ab ∧ ab ≤ 2147483647) → (0 ≤ s9 ∧ s9 ≤ 12) → zV p l e ({ frames := 2, cells := 0, slots := 0, locals := 120 } : Room) s m ([.ref (ad a), .ref (ad b)] : List Value).toArray below meth c (MQ below (zPost D A (rV0 N ad fun g' => okPack cs ad g' a ∧ ∀ j, j ≠ a → j ≠ a + 1 → g' j = g j)) ([.ref (ad a), .ref (ad b)] : List Value).toArray s ({ frames := 2, cells := 0, slots := 0, locals := 120 } : Room).cells ({ frames := 2, cells := 0, slots := 0, locals := 120 } : Room).slots A) D A 11 (N) ad g1 (0) (0) 9 [(3, .int (zI (i))), (2, .int (zI (ab))), (0, .ref (ad a)), (1, .ref (ad b))] [] := by
    intro n9
    induction n9 using Nat.strongRecOn with
    | ind n9 ih =>
      intro i ab s9 o9 r9 g1 hm9 f1 f2 f3 hv0 hv1 hv2
      have hay10 : zAt ad (a) (ad a) := rfl
      have hay11 : zAt ad (a + 1) (ad (a + 1)) := rfl
      have hay12 : zAt ad (b) (ad b) := rfl
      have hay13 : zAt ad (b + 1) (ad (b + 1)) := rfl
      have hay14 : zAt ad (b + 2) (ad (b + 2)) := rfl
      have hay15 : zAt ad (b + 3) (ad (b + 3)) := rfl
      have hay16 : zAt ad (b + 4) (ad (b + 4)) := rfl
      have hay17 : zAt ad (b + 5) (ad (b + 5)) := rfl
      have hay18 : zAt ad (b + 6) (ad (b + 6)) := rfl
      refine z_iload_n C 0 dX3_press_9 rfl ?_
      refine z_if_lt (tgt := 100) C dX3_press_10 (by decide) (by omega) (fun hby19 => ?_) (fun hby19 => ?_)
      · exact z_vret C hr hlk dX3_press_100 (by decide) (by decide) ⟨rfl, rfl, rfl, ⟨_, _, _, (by omega), f1, f2⟩, fun j j1 j2 => by exact f3 j j1 j2⟩
      · refine z_aload_n C 2 dX3_press_13 rfl ?_
        refine z_iload_n C 0 dX3_press_14 rfl ?_
        refine z_cV (As := [.int (zI (i))]) (rest := []) (ci := 5) C (c_X3_mass l D A cs tt N ad _ (a) (by omega) _ _ _ (by omega) ⟨f1, f2⟩  (i) (by omega)) (lt_A0 hN rfl) hay10 f1 rfl rfl mv_yX3_mass q_510 hd_yX3_mass (by decide) (Nat.le_of_ble_eq_true rfl) (by decide) dX3_press_15 rfl (kI0 fun vy20 gvy20 hvy20 => ?_)
        obtain ⟨hvy20, rfl⟩ := hvy20
        refine z_istore (lv' := [(4, .int (zI (vy20))), (3, .int (zI (i))), (2, .int (zI (ab))), (0, .ref (ad a)), (1, .ref (ad b))]) C dX3_press_18 (by decide) rfl ?_
        refine z_aload_n C 3 dX3_press_20 rfl ?_
        refine z_get (v := .ref (ad (a + 1))) C (lt_A0 hN rfl) hay10 f1 rfl inA_X3 2 (by decide) q_162 rfl rfl dX3_press_21 ?_
        refine z_bipush (z := 36) C dX3_press_24 (by decide) ?_
        refine z_iload_n C 1 dX3_press_26 rfl ?_
        refine z_iadd C dX3_press_27 ?_
        refine z_iald C (lt_A (c := 1) hN rfl) hay11 f2 ((36 + i).toNat) (by omega) (by omega) (by decide) dX3_press_28 ?_
        obtain ⟨xy21, exy22, hxy23⟩ := zI_of (zI (r9 ((36 + i).toNat)))
        rw [exy22]
        refine z_i2l C dX3_press_29 (by omega) ?_
        refine z_lstore (lv' := [(5, .long (zJ (xy21))), (4, .int (zI (vy20))), (3, .int (zI (i))), (2, .int (zI (ab))), (0, .ref (ad a)), (1, .ref (ad b))]) C dX3_press_30 (by decide) rfl ?_
        refine z_iload_n C 3 dX3_press_32 rfl ?_
        refine z_iload C 1 dX3_press_33 rfl ?_
        refine z_iconst (z := 2) C dX3_press_35 rfl ?_
        refine z_idiv C dX3_press_36 (by omega) (by omega) (by omega) ?_
        refine z_iadd C dX3_press_37 ?_
        obtain ⟨xy24, exy25, hxy26⟩ := zI_of (zI (ab + (vy20.tdiv 2)))
        rw [exy25]
        refine z_i2l C dX3_press_38 (by omega) ?_
        refine z_lstore (lv' := [(7, .long (zJ (xy24))), (5, .long (zJ (xy21))), (4, .int (zI (vy20))), (3, .int (zI (i))), (2, .int (zI (ab))), (0, .ref (ad a)), (1, .ref (ad b))]) C dX3_press_39 (by decide) rfl ?_
        refine z_aload_n C 6 dX3_press_41 rfl ?_
        refine z_bipush (z := 10) C dX3_press_42 (by decide) ?_
        refine z_aload_n C 5 dX3_press_44 rfl ?_
        refine z_get (v := .ref (ad (a + 1))) C (lt_A0 hN rfl) hay10 f1 rfl inA_X3 2 (by decide) q_162 rfl rfl dX3_press_45 ?_
        refine z_iconst (z := 0) C dX3_press_48 rfl ?_
        refine z_iload_n C 3 dX3_press_49 rfl ?_
        refine z_iadd C dX3_press_50 ?_
        refine z_iald C (lt_A (c := 1) hN rfl) hay11 f2 ((0 + i).toNat) (by omega) (by omega) (by decide) dX3_press_51 ?_
        obtain ⟨xy27, exy28, hxy29⟩ := zI_of (zI (r9 ((0 + i).toNat)))
        rw [exy28]
        refine z_cV (As := [.int (zI (10)), .int (zI (xy27))]) (rest := []) (ci := 7) C (c_X5_of l D A cs tt N ad _ (b) (by omega) _ _ _ _ _ _ _ _ _ ⟨((f3 _ (by omega) (by omega)).trans hb.1), ((f3 _ (by omega) (by omega)).trans hb.2.1), ((f3 _ (by omega) (by omega)).trans hb.2.2.1), ((f3 _ (by omega) (by omega)).trans hb.2.2.2.1), ((f3 _ (by omega) (by omega)).trans hb.2.2.2.2.1), ((f3 _ (by omega) (by omega)).trans hb.2.2.2.2.2.1), ((f3 _ (by omega) (by omega)).trans hb.2.2.2.2.2.2)⟩ (10) (xy27) (by omega) (by omega)) (by omega) hay12 ((f3 _ (by omega) (by omega)).trans hb.1) rfl rfl mv_yX5_of q_502 hd_yX5_of (by decide) (Nat.le_of_ble_eq_true rfl) (by decide) dX3_press_52 rfl (kI0 fun vy30 gvy30 hvy30 => ?_)
        obtain ⟨hvy30, rfl⟩ := hvy30
        refine z_iconst (z := 1) C dX3_press_55 rfl ?_
        refine z_mmax C q_469 q_470 q_20 q_471 (by omega) (by omega) (by decide) (Nat.le_of_ble_eq_true rfl) (by decide) (by decide) dX3_press_56 ?_
        obtain ⟨xy31, exy32, hxy33⟩ := mm_max (vy30) (1)
        rw [exy32]
        refine z_i2l C dX3_press_59 (by omega) ?_
        refine z_lstore (lv' := [(9, .long (zJ (xy31))), (7, .long (zJ (xy24))), (5, .long (zJ (xy21))), (4, .int (zI (vy20))), (3, .int (zI (i))), (2, .int (zI (ab))), (0, .ref (ad a)), (1, .ref (ad b))]) C dX3_press_60 (by decide) rfl ?_
        refine z_aload_n C 6 dX3_press_62 rfl ?_
        refine z_get (v := .ref (ad (a + 1))) C (lt_A0 hN rfl) hay10 f1 rfl inA_X3 2 (by decide) q_162 rfl rfl dX3_press_63 ?_
        refine z_bipush (z := 36) C dX3_press_66 (by decide) ?_
        refine z_iload_n C 4 dX3_press_68 rfl ?_
        refine z_iadd C dX3_press_69 ?_
        refine z_lload C 2 dX3_press_70 rfl ?_
        refine z_lload C 2 dX3_press_72 rfl ?_
        refine z_lload C 1 dX3_press_74 rfl ?_
        refine z_lmul C dX3_press_76 ?_
        refine z_lload C 0 dX3_press_77 rfl ?_
        obtain ⟨xy34, exy35, hxy36⟩ := zJ_of (zJ (xy21 * xy24))
        rw [exy35]
        refine z_ldiv C dX3_press_79 (by omega) (by omega) (by omega) ?_
        refine z_lsub C dX3_press_80 ?_
        refine z_iload C 3 dX3_press_81 rfl ?_
        refine z_i2l C dX3_press_83 (by omega) ?_
        obtain ⟨xy37, exy38, hxy39⟩ := zJ_of (zJ (xy21 - (xy34.tdiv xy31)))
        rw [exy38]
        refine z_lmaxx C q_514 q_515 q_20 q_516 (by omega) (by omega) (by decide) (Nat.le_of_ble_eq_true rfl) (by decide) (by decide) dX3_press_84 ?_
        obtain ⟨xy40, exy41, hxy42⟩ := mm_maxl (xy37) (vy20)
        rw [exy41]
        refine z_l2i C dX3_press_87 ?_
        refine z_iast C (lt_A (c := 1) hN rfl) hay11 f2 ((36 + i).toNat) (by omega) (by omega) (by decide) dX3_press_88 (fun gy43 egy44 => ?_)
        have hgy45 := up_s egy44
        refine z_iload_n C 5 dX3_press_89 rfl ?_
        refine z_iload C 3 dX3_press_90 rfl ?_
        refine z_iadd C dX3_press_92 ?_
        refine z_istore_n (lv' := [(2, .int (zI (ab + vy20))), (9, .long (zJ (xy31))), (7, .long (zJ (xy24))), (5, .long (zJ (xy21))), (4, .int (zI (vy20))), (3, .int (zI (i))), (0, .ref (ad a)), (1, .ref (ad b))]) C dX3_press_93 rfl (by decide) rfl ?_
        refine z_iinc (z := i - 1) (lv' := [(3, .int (zI (i - 1))), (2, .int (zI (ab + vy20))), (9, .long (zJ (xy31))), (7, .long (zJ (xy24))), (5, .long (zJ (xy21))), (4, .int (zI (vy20))), (0, .ref (ad a)), (1, .ref (ad b))]) (j := 5) C dX3_press_94 rfl (congrArg zI (by omega)) (by decide) rfl ?_
        refine z_goto (tgt := 9) C dX3_press_97 (by decide) ?_
        obtain ⟨xy46, exy47, hxy48⟩ := zI_of (zI (ab + vy20))
        rw [exy47]
        refine z_lv (lv' := [(3, .int (zI (i - 1))), (2, .int (zI (xy46))), (0, .ref (ad a)), (1, .ref (ad b))]) [0, 1, 6, 7] rfl ?_
        have hgy49 := up_n egy44 f1 (ne_o (i := a) (c := 0) (d := 1) rfl)
        exact ih _ (by omega) (i - 1) (xy46) _ _ _ gy43 rfl hgy49 hgy45 (fun j j1 j2 => by rw [egy44, va_up_ne _ _ (by omega)]; exact f3 j j1 j2) (by omega) (by omega) (by omega)
  refine z_iconst (z := 0) C dX3_press_0 rfl ?_
  refine z_istore_n (lv' := [(2, .int (zI (0))), (0, .ref (ad a)), (1, .ref (ad b))]) C dX3_press_1 rfl (by decide) rfl ?_
  refine z_aload_n C 1 dX3_press_2 rfl ?_
  refine z_get (v := .int (zI (sz))) C (lt_A0 hN rfl) hay1 ha.1 rfl inA_X3 0 (by decide) q_154 rfl rfl dX3_press_3 ?_
  refine z_iconst (z := 1) C dX3_press_6 rfl ?_
  refine z_isub C dX3_press_7 ?_
  refine z_istore_n (lv' := [(3, .int (zI (sz - 1))), (2, .int (zI (0))), (0, .ref (ad a)), (1, .ref (ad b))]) C dX3_press_8 rfl (by decide) rfl ?_
  refine z_lv (lv' := [(3, .int (zI (sz - 1))), (2, .int (zI (0))), (0, .ref (ad a)), (1, .ref (ad b))]) [0, 1, 2, 3] rfl ?_
  exact lp _ (sz - 1) (0) _ _ _ g rfl ha.1 ha.2 (fun j j1 j2 => by rfl) (by omega) (by omega) (by omega)

set_option maxRecDepth 100000 in
set_option maxHeartbeats 4000000 in
theorem c_X3_turnAndAge (l : Launch) (D : va_G) (A : Nat → Prop) (cs : Nat → ClassId) (tt : Nat) (N : Nat) (ad : Nat → Nat) (g : Nat → va_E) (a : Nat) (hN : a + 2 ≤ N) (sz ro : Int) (r : Nat → Int) (hz : 0 ≤ sz ∧ sz ≤ 12) (ha : isPack cs ad g a sz ro r) (z : Int) (hz : -2147483648 ≤ z ∧ z ≤ 2147483647) : zM l yX3_turnAndAge cX3_turnAndAge 3 none ({ frames := 3, cells := 0, slots := 0, locals := 180 } : Room) D A cs tt N ad g [.ref (ad a), .int (zI (z))] (rV0 N ad fun g' => okPack cs ad g' a ∧ ∀ j, j ≠ a → j ≠ a + 1 → g' j = g j) := by
  have hay1 : zAt ad (a) (ad a) := rfl
  have hay2 : zAt ad (a + 1) (ad (a + 1)) := rfl
  refine z_of (by decide) (Nat.le_of_ble_eq_true rfl) ?_
  intro p e s m below meth c C hr hlk hnm
  refine z_lv (lv' := [(0, .ref (ad a)), (1, .int (zI (z)))]) [0, 1] rfl ?_
  have lp : ∀ (n9 : Nat) (i : Int) (s9 : Int) (o9 : Int) (r9 : Nat → Int) (g1 : Nat → va_E), (12 - i).toNat = n9 → (g1 a = oC 5 [.int (zI s9), .int (zI o9), .ref (ad (a + 1))]) → (g1 (a + 1) = iA cs 84 r9) → (∀ j, j ≠ a → j ≠ a + 1 → g1 j = g j) → (0 ≤ i ∧ i ≤ 12) → (0 ≤ s9 ∧ s9 ≤ 12) → zV p l e ({ frames := 3, cells := 0, slots := 0, locals := 180 } : Room) s m ([.ref (ad a), .int (zI (z))] : List Value).toArray below meth c (MQ below (zPost D A (rV0 N ad fun g' => okPack cs ad g' a ∧ ∀ j, j ≠ a → j ≠ a + 1 → g' j = g j)) ([.ref (ad a), .int (zI (z))] : List Value).toArray s ({ frames := 3, cells := 0, slots := 0, locals := 180 } : Room).cells ({ frames := 3, cells := 0, slots := 0, locals := 180 } : Room).slots A) D A 3 (N) ad g1 (0) (0) 2 [(2, .int (zI (i))), (0, .ref (ad a)), (1, .int (zI (z)))] [] := by
    intro n9
    induction n9 using Nat.strongRecOn with
    | ind n9 ih =>
      intro i s9 o9 r9 g1 hm9 f1 f2 f3 hv0 hv1
      have hay3 : zAt ad (a) (ad a) := rfl
      have hay4 : zAt ad (a + 1) (ad (a + 1)) := rfl
      refine z_iload_n C 0 dX3_turnAndAge_2 rfl ?_
      refine z_aload_n C 1 dX3_turnAndAge_3 rfl ?_
      refine z_get (v := .int (zI (s9))) C (lt_A0 hN rfl) hay3 f1 rfl inA_X3 0 (by decide) q_154 rfl rfl dX3_turnAndAge_4 ?_
      refine z_icmp_ge (tgt := 48) C dX3_turnAndAge_7 (by decide) (by omega) (by omega) (fun hby5 => ?_) (fun hby5 => ?_)
      · exact z_vret C hr hlk dX3_turnAndAge_48 (by decide) (by decide) ⟨rfl, rfl, rfl, ⟨_, _, _, (by omega), f1, f2⟩, fun j j1 j2 => by exact f3 j j1 j2⟩
      · refine z_aload_n C 1 dX3_turnAndAge_10 rfl ?_
        refine z_get (v := .ref (ad (a + 1))) C (lt_A0 hN rfl) hay3 f1 rfl inA_X3 2 (by decide) q_162 rfl rfl dX3_turnAndAge_11 ?_
        refine z_iconst (z := 0) C dX3_turnAndAge_14 rfl ?_
        refine z_iload_n C 0 dX3_turnAndAge_15 rfl ?_
        refine z_iadd C dX3_turnAndAge_16 ?_
        refine z_aload_n C 1 dX3_turnAndAge_17 rfl ?_
        refine z_iload_n C 0 dX3_turnAndAge_18 rfl ?_
        refine z_aload_n C 1 dX3_turnAndAge_19 rfl ?_
        refine z_iload_n C 0 dX3_turnAndAge_20 rfl ?_
        refine z_iload_n C 2 dX3_turnAndAge_21 rfl ?_
        refine z_cV (As := [.int (zI (i)), .int (zI (z))]) (rest := [.int (zI (i)), .ref (ad a), .int (zI (0 + i)), .ref (ad (a + 1))]) (ci := 5) C (c_X3_grade l D A cs tt N ad _ (a) (by omega) _ _ _ (by omega) ⟨f1, f2⟩  (i) (by omega) (z) (by omega)) (lt_A0 hN rfl) hay3 f1 rfl rfl mv_yX3_grade q_521 hd_yX3_grade (by decide) (Nat.le_of_ble_eq_true rfl) (by decide) dX3_turnAndAge_22 rfl (kI0 fun vy6 gvy6 hvy6 => ?_)
        obtain ⟨hvy6, rfl⟩ := hvy6
        refine z_cV (As := [.int (zI (i)), .int (zI (vy6))]) (rest := [.int (zI (0 + i)), .ref (ad (a + 1))]) (ci := 5) C (c_X3_nextKind l D A cs tt N ad _ (a) (by omega) _ _ _ (by omega) ⟨f1, f2⟩  (i) (by omega) (vy6) (by omega)) (lt_A0 hN rfl) hay3 f1 rfl rfl mv_yX3_nextKind q_529 hd_yX3_nextKind (by decide) (Nat.le_of_ble_eq_true rfl) (by decide) dX3_turnAndAge_25 rfl (kI0 fun vy7 gvy7 hvy7 => ?_)
        obtain ⟨hvy7, rfl⟩ := hvy7
        refine z_iast C (lt_A (c := 1) hN rfl) hay4 f2 ((0 + i).toNat) (by omega) (by omega) (by decide) dX3_turnAndAge_28 (fun gy8 egy9 => ?_)
        have hgy10 := up_s egy9
        refine z_aload_n C 1 dX3_turnAndAge_29 rfl ?_
        have hgy11 := up_n egy9 f1 (ne_o (i := a) (c := 0) (d := 1) rfl)
        refine z_get (v := .ref (ad (a + 1))) C (lt_A0 hN rfl) hay3 hgy11 rfl inA_X3 2 (by decide) q_162 rfl rfl dX3_turnAndAge_30 ?_
        refine z_bipush (z := 60) C dX3_turnAndAge_33 (by decide) ?_
        refine z_iload_n C 0 dX3_turnAndAge_35 rfl ?_
        refine z_iadd C dX3_turnAndAge_36 ?_
        refine z_dup2 C dX3_turnAndAge_37 rfl rfl ?_
        refine z_iald C (lt_A (c := 1) hN rfl) hay4 hgy10 ((60 + i).toNat) (by omega) (by omega) (by decide) dX3_turnAndAge_38 ?_
        refine z_iconst (z := 1) C dX3_turnAndAge_39 rfl ?_
        refine z_iadd C dX3_turnAndAge_40 ?_
        refine z_iast C (lt_A (c := 1) hN rfl) hay4 hgy10 ((60 + i).toNat) (by omega) (by omega) (by decide) dX3_turnAndAge_41 (fun gy12 egy13 => ?_)
        have hgy14 := up_s egy13
        refine z_iinc (z := i + 1) (lv' := [(2, .int (zI (i + 1))), (0, .ref (ad a)), (1, .int (zI (z)))]) (j := 0) C dX3_turnAndAge_42 rfl rfl (by decide) rfl ?_
        refine z_goto (tgt := 2) C dX3_turnAndAge_45 (by decide) ?_
        refine z_lv (lv' := [(2, .int (zI (i + 1))), (0, .ref (ad a)), (1, .int (zI (z)))]) [0, 1, 2] rfl ?_
        have hgy15 := up_n egy13 hgy11 (ne_o (i := a) (c := 0) (d := 1) rfl)
        exact ih _ (by omega) (i + 1) _ _ _ gy12 rfl hgy15 hgy14 (fun j j1 j2 => by rw [egy13, va_up_ne _ _ (by omega)]; rw [egy9, va_up_ne _ _ (by omega)]; exact f3 j j1 j2) (by omega) (by omega)
  refine z_iconst (z := 0) C dX3_turnAndAge_0 rfl ?_
  refine z_istore_n (lv' := [(2, .int (zI (0))), (0, .ref (ad a)), (1, .int (zI (z)))]) C dX3_turnAndAge_1 rfl (by decide) rfl ?_
  refine z_lv (lv' := [(2, .int (zI (0))), (0, .ref (ad a)), (1, .int (zI (z)))]) [0, 1, 2] rfl ?_
  exact lp _ (0) _ _ _ g rfl ha.1 ha.2 (fun j j1 j2 => by rfl) (by omega) (by omega)

set_option maxRecDepth 100000 in
set_option maxHeartbeats 4000000 in
theorem c_X3_copyFrom (l : Launch) (D : va_G) (A : Nat → Prop) (cs : Nat → ClassId) (tt : Nat) (N : Nat) (ad : Nat → Nat) (g : Nat → va_E) (a : Nat) (hN : a + 2 ≤ N) (sz ro : Int) (r : Nat → Int) (hz : 0 ≤ sz ∧ sz ≤ 12) (ha : isPack cs ad g a sz ro r) (a2 : Nat) (hN2 : a2 + 2 ≤ N) (sz2 ro2 : Int) (r2 : Nat → Int) (hz2 : 0 ≤ sz2 ∧ sz2 ≤ 12) (ha2 : isPack cs ad g a2 sz2 ro2 r2) (hab : a + 2 ≤ a2 ∨ a2 + 2 ≤ a) : zM l yX3_copyFrom cX3_copyFrom 2 none ({ frames := 1, cells := 0, slots := 0, locals := 60 } : Room) D A cs tt N ad g [.ref (ad a), .ref (ad a2)] (rV0 N ad fun g' => isPack cs ad g' a sz2 ro2 r2 ∧ ∀ j, j ≠ a → j ≠ a + 1 → g' j = g j) := by
  have hay1 : zAt ad (a) (ad a) := rfl
  have hay2 : zAt ad (a + 1) (ad (a + 1)) := rfl
  have hay3 : zAt ad (a2) (ad a2) := rfl
  have hay4 : zAt ad (a2 + 1) (ad (a2 + 1)) := rfl
  refine z_of (by decide) (Nat.le_of_ble_eq_true rfl) ?_
  intro p e s m below meth c C hr hlk hnm
  refine z_lv (lv' := [(0, .ref (ad a)), (1, .ref (ad a2))]) [0, 1] rfl ?_
  refine z_aload_n C 0 dX3_copyFrom_0 rfl ?_
  refine z_aload_n C 1 dX3_copyFrom_1 rfl ?_
  refine z_get (v := .int (zI (sz2))) C (by omega) hay3 ha2.1 rfl inA_X3 0 (by decide) q_154 rfl rfl dX3_copyFrom_2 ?_
  refine z_put (fs' := [.int (zI (sz2)), .int (zI (ro)), .ref (ad (a + 1))]) C (lt_A0 hN rfl) hay1 ha.1 tyX3 tyX3_ok nmX3 rfl inA_X3 0 (by decide) q_154 rfl rfl rfl rfl (Nat.le_of_ble_eq_true rfl) rfl dX3_copyFrom_5 (fun gy5 egy6 => ?_)
  have hgy7 := up_s egy6
  refine z_aload_n C 0 dX3_copyFrom_8 rfl ?_
  refine z_aload_n C 1 dX3_copyFrom_9 rfl ?_
  have hgy8 := up_n egy6 ha2.1 (by omega)
  refine z_get (v := .int (zI (ro2))) C (by omega) hay3 hgy8 rfl inA_X3 1 (by decide) q_159 rfl rfl dX3_copyFrom_10 ?_
  refine z_put (fs' := [.int (zI (sz2)), .int (zI (ro2)), .ref (ad (a + 1))]) C (lt_A0 hN rfl) hay1 hgy7 tyX3 tyX3_ok nmX3 rfl inA_X3 1 (by decide) q_159 rfl rfl rfl rfl (Nat.le_of_ble_eq_true rfl) rfl dX3_copyFrom_13 (fun gy9 egy10 => ?_)
  have hgy11 := up_s egy10
  refine z_aload_n C 1 dX3_copyFrom_16 rfl ?_
  have hgy12 := up_n egy10 hgy8 (by omega)
  refine z_get (v := .ref (ad (a2 + 1))) C (by omega) hay3 hgy12 rfl inA_X3 2 (by decide) q_162 rfl rfl dX3_copyFrom_17 ?_
  refine z_iconst (z := 0) C dX3_copyFrom_20 rfl ?_
  refine z_aload_n C 0 dX3_copyFrom_21 rfl ?_
  refine z_get (v := .ref (ad (a + 1))) C (lt_A0 hN rfl) hay1 hgy11 rfl inA_X3 2 (by decide) q_162 rfl rfl dX3_copyFrom_22 ?_
  refine z_iconst (z := 0) C dX3_copyFrom_25 rfl ?_
  refine z_aload_n C 0 dX3_copyFrom_26 rfl ?_
  refine z_get (v := .ref (ad (a + 1))) C (lt_A0 hN rfl) hay1 hgy11 rfl inA_X3 2 (by decide) q_162 rfl rfl dX3_copyFrom_27 ?_
  have hgy13 := up_n egy6 ha.2 (ne_o (i := a) (c := 1) (d := 0) rfl)
  have hgy14 := up_n egy10 hgy13 (ne_o (i := a) (c := 1) (d := 0) rfl)
  refine z_alen (z := 84) C (lt_A (c := 1) hN rfl) hay2 hgy14 1 rfl rfl dX3_copyFrom_30 ?_
  have hgy15 := up_n egy6 ha2.2 (by omega)
  have hgy16 := up_n egy10 hgy15 (by omega)
  refine z_copyI C q_428 q_430 q_429 q_21 (by omega) (lt_A (c := 1) hN rfl) hay4 hay2 hgy16 hgy14 0 0 84 rfl rfl rfl (by decide) (by decide) (by decide) (by decide) (Nat.le_of_ble_eq_true rfl) dX3_copyFrom_31 (fun gy17 egy18 => ?_)
  have hgy19 := up_s egy18
  refine z_ext (r' := r2) (lt_A (c := 1) hN rfl) hgy19 (fun j hj => cZ_all hj) (fun gy20 egy21 => ?_)
  have hgy22 := up_s egy21
  have hgy23 := up_n egy18 hgy11 (ne_o (i := a) (c := 0) (d := 1) rfl)
  have hgy24 := up_n egy21 hgy23 (ne_o (i := a) (c := 0) (d := 1) rfl)
  exact z_vret C hr hlk dX3_copyFrom_34 (by decide) (by decide) ⟨rfl, rfl, rfl, ⟨hgy24, hgy22⟩, fun j j1 j2 => by rw [egy21, va_up_ne _ _ (by omega)]; rw [egy18, va_up_ne _ _ (by omega)]; rw [egy10, va_up_ne _ _ (by omega)]; rw [egy6, va_up_ne _ _ (by omega)]⟩

set_option maxRecDepth 100000 in
set_option maxHeartbeats 4000000 in
theorem c_X3_joinLowest (l : Launch) (D : va_G) (A : Nat → Prop) (cs : Nat → ClassId) (tt : Nat) (N : Nat) (ad : Nat → Nat) (g : Nat → va_E) (a : Nat) (hN : a + 2 ≤ N) (sz ro : Int) (r : Nat → Int) (hz : 0 ≤ sz ∧ sz ≤ 12) (ha : isPack cs ad g a sz ro r) (hz12 : sz = 12) : zM l yX3_joinLowest cX3_joinLowest 8 none ({ frames := 2, cells := 0, slots := 0, locals := 120 } : Room) D A cs tt N ad g [.ref (ad a)] (rV0 N ad fun g' => okPack cs ad g' a ∧ ∀ j, j ≠ a → j ≠ a + 1 → g' j = g j) := by
  have hay1 : zAt ad (a) (ad a) := rfl
  have hay2 : zAt ad (a + 1) (ad (a + 1)) := rfl
  refine z_of (by decide) (Nat.le_of_ble_eq_true rfl) ?_
  intro p e s m below meth c C hr hlk hnm
  refine z_lv (lv' := [(0, .ref (ad a))]) [0] rfl ?_
  have lpo : ∀ (n9 : Nat) (row : Int) (s9 : Int) (o9 : Int) (r9 : Nat → Int) (g1 : Nat → va_E), (84 - row).toNat = n9 → (g1 a = oC 5 [.int (zI s9), .int (zI o9), .ref (ad (a + 1))]) → (g1 (a + 1) = iA cs 84 r9) → (∀ j, j ≠ a → j ≠ a + 1 → g1 j = g j) → (0 ≤ row ∧ row ≤ 84 ∧ row % 12 = 0) → (s9 = 12) → zV p l e ({ frames := 2, cells := 0, slots := 0, locals := 120 } : Room) s m ([.ref (ad a)] : List Value).toArray below meth c (MQ below (zPost D A (rV0 N ad fun g' => okPack cs ad g' a ∧ ∀ j, j ≠ a → j ≠ a + 1 → g' j = g j)) ([.ref (ad a)] : List Value).toArray s ({ frames := 2, cells := 0, slots := 0, locals := 120 } : Room).cells ({ frames := 2, cells := 0, slots := 0, locals := 120 } : Room).slots A) D A 8 (N) ad g1 (0) (0) 175 [(6, .int (zI (row))), (0, .ref (ad a))] [] := by
    intro n9
    induction n9 using Nat.strongRecOn with
    | ind n9 ih_lpo =>
      intro row s9 o9 r9 g1 hm9 f1 f2 f3 hv0 hv1
      have hay3 : zAt ad (a) (ad a) := rfl
      have hay4 : zAt ad (a + 1) (ad (a + 1)) := rfl
      refine z_iload C 0 dX3_joinLowest_175 rfl ?_
      refine z_bipush (z := 84) C dX3_joinLowest_177 (by decide) ?_
      refine z_icmp_ge (tgt := 228) C dX3_joinLowest_179 (by decide) (by omega) (by omega) (fun hby5 => ?_) (fun hby5 => ?_)
      · refine z_aload_n C 1 dX3_joinLowest_228 rfl ?_
        refine z_dup C dX3_joinLowest_229 rfl ?_
        refine z_get (v := .int (zI (s9))) C (lt_A0 hN rfl) hay3 f1 rfl inA_X3 0 (by decide) q_154 rfl rfl dX3_joinLowest_230 ?_
        refine z_iconst (z := 1) C dX3_joinLowest_233 rfl ?_
        refine z_isub C dX3_joinLowest_234 ?_
        refine z_put (fs' := [.int (zI (s9 - 1)), .int (zI (o9)), .ref (ad (a + 1))]) C (lt_A0 hN rfl) hay3 f1 tyX3 tyX3_ok nmX3 rfl inA_X3 0 (by decide) q_154 rfl rfl rfl rfl (Nat.le_of_ble_eq_true rfl) rfl dX3_joinLowest_235 (fun gy6 egy7 => ?_)
        have hgy8 := up_s egy7
        have hgy9 := up_n egy7 f2 (ne_o (i := a) (c := 1) (d := 0) rfl)
        exact z_vret C hr hlk dX3_joinLowest_238 (by decide) (by decide) ⟨rfl, rfl, rfl, ⟨_, _, _, (by omega), hgy8, hgy9⟩, fun j j1 j2 => by rw [egy7, va_up_ne _ _ (by omega)]; exact f3 j j1 j2⟩
      · refine z_iconst (z := 2) C dX3_joinLowest_182 rfl ?_
        refine z_istore (lv' := [(7, .int (zI (2))), (6, .int (zI (row))), (0, .ref (ad a))]) C dX3_joinLowest_183 (by decide) rfl ?_
        have lpi : ∀ (n9 : Nat) (i : Int) (s9 : Int) (o9 : Int) (r9 : Nat → Int) (g1 : Nat → va_E), (12 - i).toNat = n9 → (g1 a = oC 5 [.int (zI s9), .int (zI o9), .ref (ad (a + 1))]) → (g1 (a + 1) = iA cs 84 r9) → (∀ j, j ≠ a → j ≠ a + 1 → g1 j = g j) → (2 ≤ i ∧ i ≤ 12) → (s9 = 12) → zV p l e ({ frames := 2, cells := 0, slots := 0, locals := 120 } : Room) s m ([.ref (ad a)] : List Value).toArray below meth c (MQ below (zPost D A (rV0 N ad fun g' => okPack cs ad g' a ∧ ∀ j, j ≠ a → j ≠ a + 1 → g' j = g j)) ([.ref (ad a)] : List Value).toArray s ({ frames := 2, cells := 0, slots := 0, locals := 120 } : Room).cells ({ frames := 2, cells := 0, slots := 0, locals := 120 } : Room).slots A) D A 8 (N) ad g1 (0) (0) 185 [(7, .int (zI (i))), (6, .int (zI (row))), (0, .ref (ad a))] [] := by
          intro n9
          induction n9 using Nat.strongRecOn with
          | ind n9 ih_lpi =>
            intro i s9 o9 r9 g1 hm9 f1 f2 f3 hw0 hw1
            have hay10 : zAt ad (a) (ad a) := rfl
            have hay11 : zAt ad (a + 1) (ad (a + 1)) := rfl
            refine z_iload C 0 dX3_joinLowest_185 rfl ?_
            refine z_aload_n C 2 dX3_joinLowest_187 rfl ?_
            refine z_get (v := .int (zI (s9))) C (lt_A0 hN rfl) hay10 f1 rfl inA_X3 0 (by decide) q_154 rfl rfl dX3_joinLowest_188 ?_
            refine z_icmp_ge (tgt := 222) C dX3_joinLowest_191 (by decide) (by omega) (by omega) (fun hby12 => ?_) (fun hby12 => ?_)
            · refine z_iinc (z := row + 12) (lv' := [(6, .int (zI (row + 12))), (7, .int (zI (i))), (0, .ref (ad a))]) (j := 1) C dX3_joinLowest_222 rfl rfl (by decide) rfl ?_
              refine z_goto (tgt := 175) C dX3_joinLowest_225 (by decide) ?_
              refine z_lv (lv' := [(6, .int (zI (row + 12))), (0, .ref (ad a))]) [0, 2] rfl ?_
              exact ih_lpo _ (by omega) (row + 12) _ _ _ g1 rfl f1 f2 (fun j j1 j2 => by exact f3 j j1 j2) (by omega) (by omega)
            · refine z_aload_n C 2 dX3_joinLowest_194 rfl ?_
              refine z_get (v := .ref (ad (a + 1))) C (lt_A0 hN rfl) hay10 f1 rfl inA_X3 2 (by decide) q_162 rfl rfl dX3_joinLowest_195 ?_
              refine z_iload C 1 dX3_joinLowest_198 rfl ?_
              refine z_iload C 0 dX3_joinLowest_200 rfl ?_
              refine z_iadd C dX3_joinLowest_202 ?_
              refine z_iconst (z := 1) C dX3_joinLowest_203 rfl ?_
              refine z_isub C dX3_joinLowest_204 ?_
              refine z_aload_n C 2 dX3_joinLowest_205 rfl ?_
              refine z_get (v := .ref (ad (a + 1))) C (lt_A0 hN rfl) hay10 f1 rfl inA_X3 2 (by decide) q_162 rfl rfl dX3_joinLowest_206 ?_
              refine z_iload C 1 dX3_joinLowest_209 rfl ?_
              refine z_iload C 0 dX3_joinLowest_211 rfl ?_
              refine z_iadd C dX3_joinLowest_213 ?_
              refine z_iald C (lt_A (c := 1) hN rfl) hay11 f2 ((row + i).toNat) (by omega) (by omega) (by decide) dX3_joinLowest_214 ?_
              refine z_iast C (lt_A (c := 1) hN rfl) hay11 f2 (((row + i) - 1).toNat) (by omega) (by omega) (by decide) dX3_joinLowest_215 (fun gy13 egy14 => ?_)
              have hgy15 := up_s egy14
              refine z_iinc (z := i + 1) (lv' := [(7, .int (zI (i + 1))), (6, .int (zI (row))), (0, .ref (ad a))]) (j := 0) C dX3_joinLowest_216 rfl rfl (by decide) rfl ?_
              refine z_goto (tgt := 185) C dX3_joinLowest_219 (by decide) ?_
              refine z_lv (lv' := [(7, .int (zI (i + 1))), (6, .int (zI (row))), (0, .ref (ad a))]) [0, 1, 2] rfl ?_
              have hgy16 := up_n egy14 f1 (ne_o (i := a) (c := 0) (d := 1) rfl)
              exact ih_lpi _ (by omega) (i + 1) _ _ _ gy13 rfl hgy16 hgy15 (fun j j1 j2 => by rw [egy14, va_up_ne _ _ (by omega)]; exact f3 j j1 j2) (by omega) (by omega)
        refine z_lv (lv' := [(7, .int (zI (2))), (6, .int (zI (row))), (0, .ref (ad a))]) [0, 1, 2] rfl ?_
        exact lpi _ (2) _ _ _ g1 rfl f1 f2 (fun j j1 j2 => by exact f3 j j1 j2) (by omega) (by omega)
  refine z_aload_n C 0 dX3_joinLowest_0 rfl ?_
  refine z_get (v := .ref (ad (a + 1))) C (lt_A0 hN rfl) hay1 ha.1 rfl inA_X3 2 (by decide) q_162 rfl rfl dX3_joinLowest_1 ?_
  refine z_bipush (z := 12) C dX3_joinLowest_4 (by decide) ?_
  refine z_iald C (lt_A (c := 1) hN rfl) hay2 ha.2 (12) (by omega) (by omega) (by decide) dX3_joinLowest_6 ?_
  obtain ⟨xy17, exy18, hxy19⟩ := zI_of (zI (r (12)))
  rw [exy18]
  refine z_i2l C dX3_joinLowest_7 (by omega) ?_
  refine z_lstore_n (lv' := [(1, .long (zJ (xy17))), (0, .ref (ad a))]) C dX3_joinLowest_8 rfl (by decide) rfl ?_
  refine z_aload_n C 1 dX3_joinLowest_9 rfl ?_
  refine z_get (v := .ref (ad (a + 1))) C (lt_A0 hN rfl) hay1 ha.1 rfl inA_X3 2 (by decide) q_162 rfl rfl dX3_joinLowest_10 ?_
  refine z_bipush (z := 13) C dX3_joinLowest_13 (by decide) ?_
  refine z_iald C (lt_A (c := 1) hN rfl) hay2 ha.2 (13) (by omega) (by omega) (by decide) dX3_joinLowest_15 ?_
  obtain ⟨xy20, exy21, hxy22⟩ := zI_of (zI (r (13)))
  rw [exy21]
  refine z_i2l C dX3_joinLowest_16 (by omega) ?_
  refine z_lstore_n (lv' := [(3, .long (zJ (xy20))), (1, .long (zJ (xy17))), (0, .ref (ad a))]) C dX3_joinLowest_17 rfl (by decide) rfl ?_
  refine z_lload_n C 0 dX3_joinLowest_18 rfl ?_
  refine z_lload_n C 1 dX3_joinLowest_19 rfl ?_
  refine z_lcmp C dX3_joinLowest_20 (by omega) (by omega) ?_
  have hczr := cmpZ_r (a := xy20) (b := xy17)
  refine z_if_le (tgt := 28) C dX3_joinLowest_21 (by decide) (by omega) (fun hby23 => ?_) (fun hby23 => ?_)
  · have hcy24 : xy20 ≤ xy17 := cmpZ_le.mp hby23
    refine z_iconst (z := 0) C dX3_joinLowest_28 rfl ?_
    refine z_istore (lv' := [(5, .int (zI (0))), (3, .long (zJ (xy20))), (1, .long (zJ (xy17))), (0, .ref (ad a))]) C dX3_joinLowest_29 (by decide) rfl ?_
    refine z_aload_n C 3 dX3_joinLowest_31 rfl ?_
    refine z_get (v := .ref (ad (a + 1))) C (lt_A0 hN rfl) hay1 ha.1 rfl inA_X3 2 (by decide) q_162 rfl rfl dX3_joinLowest_32 ?_
    refine z_iconst (z := 0) C dX3_joinLowest_35 rfl ?_
    refine z_aload_n C 3 dX3_joinLowest_36 rfl ?_
    refine z_get (v := .ref (ad (a + 1))) C (lt_A0 hN rfl) hay1 ha.1 rfl inA_X3 2 (by decide) q_162 rfl rfl dX3_joinLowest_37 ?_
    refine z_iconst (z := 0) C dX3_joinLowest_40 rfl ?_
    refine z_iload C 0 dX3_joinLowest_41 rfl ?_
    refine z_iadd C dX3_joinLowest_43 ?_
    refine z_iald C (lt_A (c := 1) hN rfl) hay2 ha.2 (0) (by omega) (by omega) (by decide) dX3_joinLowest_44 ?_
    refine z_iast C (lt_A (c := 1) hN rfl) hay2 ha.2 (0) (by omega) (by omega) (by decide) dX3_joinLowest_45 (fun gy25 egy26 => ?_)
    have hgy27 := up_s egy26
    refine z_aload_n C 3 dX3_joinLowest_46 rfl ?_
    have hgy28 := up_n egy26 ha.1 (ne_o (i := a) (c := 0) (d := 1) rfl)
    refine z_get (v := .ref (ad (a + 1))) C (lt_A0 hN rfl) hay1 hgy28 rfl inA_X3 2 (by decide) q_162 rfl rfl dX3_joinLowest_47 ?_
    refine z_bipush (z := 72) C dX3_joinLowest_50 (by decide) ?_
    refine z_aload_n C 3 dX3_joinLowest_52 rfl ?_
    refine z_get (v := .ref (ad (a + 1))) C (lt_A0 hN rfl) hay1 hgy28 rfl inA_X3 2 (by decide) q_162 rfl rfl dX3_joinLowest_53 ?_
    refine z_bipush (z := 72) C dX3_joinLowest_56 (by decide) ?_
    refine z_iload C 0 dX3_joinLowest_58 rfl ?_
    refine z_iadd C dX3_joinLowest_60 ?_
    refine z_iald C (lt_A (c := 1) hN rfl) hay2 hgy27 (72) (by omega) (by omega) (by decide) dX3_joinLowest_61 ?_
    refine z_iast C (lt_A (c := 1) hN rfl) hay2 hgy27 (72) (by omega) (by omega) (by decide) dX3_joinLowest_62 (fun gy29 egy30 => ?_)
    have hgy31 := up_s egy30
    refine z_aload_n C 3 dX3_joinLowest_63 rfl ?_
    have hgy32 := up_n egy30 hgy28 (ne_o (i := a) (c := 0) (d := 1) rfl)
    refine z_get (v := .ref (ad (a + 1))) C (lt_A0 hN rfl) hay1 hgy32 rfl inA_X3 2 (by decide) q_162 rfl rfl dX3_joinLowest_64 ?_
    refine z_bipush (z := 48) C dX3_joinLowest_67 (by decide) ?_
    refine z_aload_n C 3 dX3_joinLowest_69 rfl ?_
    refine z_get (v := .ref (ad (a + 1))) C (lt_A0 hN rfl) hay1 hgy32 rfl inA_X3 2 (by decide) q_162 rfl rfl dX3_joinLowest_70 ?_
    refine z_bipush (z := 48) C dX3_joinLowest_73 (by decide) ?_
    refine z_iald C (lt_A (c := 1) hN rfl) hay2 hgy31 (48) (by omega) (by omega) (by decide) dX3_joinLowest_75 ?_
    obtain ⟨xy33, exy34, hxy35⟩ := zI_of (zI ((uZ (uZ (r) (0) (r (0))) (72) ((uZ (r) (0) (r (0))) (72))) (48)))
    rw [exy34]
    refine z_i2l C dX3_joinLowest_76 (by omega) ?_
    refine z_lload_n C 2 dX3_joinLowest_77 rfl ?_
    refine z_lmul C dX3_joinLowest_78 ?_
    refine z_aload_n C 3 dX3_joinLowest_79 rfl ?_
    refine z_get (v := .ref (ad (a + 1))) C (lt_A0 hN rfl) hay1 hgy32 rfl inA_X3 2 (by decide) q_162 rfl rfl dX3_joinLowest_80 ?_
    refine z_bipush (z := 49) C dX3_joinLowest_83 (by decide) ?_
    refine z_iald C (lt_A (c := 1) hN rfl) hay2 hgy31 (49) (by omega) (by omega) (by decide) dX3_joinLowest_85 ?_
    obtain ⟨xy36, exy37, hxy38⟩ := zI_of (zI ((uZ (uZ (r) (0) (r (0))) (72) ((uZ (r) (0) (r (0))) (72))) (49)))
    rw [exy37]
    refine z_i2l C dX3_joinLowest_86 (by omega) ?_
    refine z_lload_n C 1 dX3_joinLowest_87 rfl ?_
    refine z_lmul C dX3_joinLowest_88 ?_
    refine z_ladd C dX3_joinLowest_89 ?_
    refine z_lload_n C 2 dX3_joinLowest_90 rfl ?_
    refine z_lload_n C 1 dX3_joinLowest_91 rfl ?_
    refine z_ladd C dX3_joinLowest_92 ?_
    obtain ⟨xy39, exy40, hxy41⟩ := zJ_of (zJ ((xy33 * xy17) + (xy36 * xy20)))
    rw [exy40]
    refine z_cSN (As := [.long (zJ (xy39)), .long (zJ (xy17 + xy20))]) (rest := [.int (zI (48)), .ref (ad (a + 1))]) C (c_X9_part l D A cs tt N ad _ (xy39) (xy17 + xy20) (by omega) (by omega)) ms_yX9_part n_466 hd_yX9_part (by decide) (Nat.le_of_ble_eq_true rfl) (by decide) dX3_joinLowest_93 rfl (kI0 fun vy42 gvy42 hvy42 => ?_)
    obtain ⟨hvy42, rfl⟩ := hvy42
    refine z_iast C (lt_A (c := 1) hN rfl) hay2 hgy31 (48) (by omega) (by omega) (by decide) dX3_joinLowest_96 (fun gy43 egy44 => ?_)
    have hgy45 := up_s egy44
    refine z_aload_n C 3 dX3_joinLowest_97 rfl ?_
    have hgy46 := up_n egy44 hgy32 (ne_o (i := a) (c := 0) (d := 1) rfl)
    refine z_get (v := .ref (ad (a + 1))) C (lt_A0 hN rfl) hay1 hgy46 rfl inA_X3 2 (by decide) q_162 rfl rfl dX3_joinLowest_98 ?_
    refine z_bipush (z := 12) C dX3_joinLowest_101 (by decide) ?_
    refine z_dup2 C dX3_joinLowest_103 rfl rfl ?_
    refine z_iald C (lt_A (c := 1) hN rfl) hay2 hgy45 (12) (by omega) (by omega) (by decide) dX3_joinLowest_104 ?_
    refine z_aload_n C 3 dX3_joinLowest_105 rfl ?_
    refine z_get (v := .ref (ad (a + 1))) C (lt_A0 hN rfl) hay1 hgy46 rfl inA_X3 2 (by decide) q_162 rfl rfl dX3_joinLowest_106 ?_
    refine z_bipush (z := 13) C dX3_joinLowest_109 (by decide) ?_
    refine z_iald C (lt_A (c := 1) hN rfl) hay2 hgy45 (13) (by omega) (by omega) (by decide) dX3_joinLowest_111 ?_
    refine z_iadd C dX3_joinLowest_112 ?_
    refine z_iast C (lt_A (c := 1) hN rfl) hay2 hgy45 (12) (by omega) (by omega) (by decide) dX3_joinLowest_113 (fun gy47 egy48 => ?_)
    have hgy49 := up_s egy48
    refine z_aload_n C 3 dX3_joinLowest_114 rfl ?_
    have hgy50 := up_n egy48 hgy46 (ne_o (i := a) (c := 0) (d := 1) rfl)
    refine z_get (v := .ref (ad (a + 1))) C (lt_A0 hN rfl) hay1 hgy50 rfl inA_X3 2 (by decide) q_162 rfl rfl dX3_joinLowest_115 ?_
    refine z_bipush (z := 24) C dX3_joinLowest_118 (by decide) ?_
    refine z_dup2 C dX3_joinLowest_120 rfl rfl ?_
    refine z_iald C (lt_A (c := 1) hN rfl) hay2 hgy49 (24) (by omega) (by omega) (by decide) dX3_joinLowest_121 ?_
    refine z_aload_n C 3 dX3_joinLowest_122 rfl ?_
    refine z_get (v := .ref (ad (a + 1))) C (lt_A0 hN rfl) hay1 hgy50 rfl inA_X3 2 (by decide) q_162 rfl rfl dX3_joinLowest_123 ?_
    refine z_bipush (z := 25) C dX3_joinLowest_126 (by decide) ?_
    refine z_iald C (lt_A (c := 1) hN rfl) hay2 hgy49 (25) (by omega) (by omega) (by decide) dX3_joinLowest_128 ?_
    refine z_iadd C dX3_joinLowest_129 ?_
    refine z_iast C (lt_A (c := 1) hN rfl) hay2 hgy49 (24) (by omega) (by omega) (by decide) dX3_joinLowest_130 (fun gy51 egy52 => ?_)
    have hgy53 := up_s egy52
    refine z_aload_n C 3 dX3_joinLowest_131 rfl ?_
    have hgy54 := up_n egy52 hgy50 (ne_o (i := a) (c := 0) (d := 1) rfl)
    refine z_get (v := .ref (ad (a + 1))) C (lt_A0 hN rfl) hay1 hgy54 rfl inA_X3 2 (by decide) q_162 rfl rfl dX3_joinLowest_132 ?_
    refine z_bipush (z := 36) C dX3_joinLowest_135 (by decide) ?_
    refine z_dup2 C dX3_joinLowest_137 rfl rfl ?_
    refine z_iald C (lt_A (c := 1) hN rfl) hay2 hgy53 (36) (by omega) (by omega) (by decide) dX3_joinLowest_138 ?_
    refine z_aload_n C 3 dX3_joinLowest_139 rfl ?_
    refine z_get (v := .ref (ad (a + 1))) C (lt_A0 hN rfl) hay1 hgy54 rfl inA_X3 2 (by decide) q_162 rfl rfl dX3_joinLowest_140 ?_
    refine z_bipush (z := 37) C dX3_joinLowest_143 (by decide) ?_
    refine z_iald C (lt_A (c := 1) hN rfl) hay2 hgy53 (37) (by omega) (by omega) (by decide) dX3_joinLowest_145 ?_
    refine z_iadd C dX3_joinLowest_146 ?_
    refine z_iast C (lt_A (c := 1) hN rfl) hay2 hgy53 (36) (by omega) (by omega) (by decide) dX3_joinLowest_147 (fun gy55 egy56 => ?_)
    have hgy57 := up_s egy56
    refine z_aload_n C 3 dX3_joinLowest_148 rfl ?_
    have hgy58 := up_n egy56 hgy54 (ne_o (i := a) (c := 0) (d := 1) rfl)
    refine z_get (v := .ref (ad (a + 1))) C (lt_A0 hN rfl) hay1 hgy58 rfl inA_X3 2 (by decide) q_162 rfl rfl dX3_joinLowest_149 ?_
    refine z_bipush (z := 60) C dX3_joinLowest_152 (by decide) ?_
    refine z_aload_n C 3 dX3_joinLowest_154 rfl ?_
    refine z_get (v := .ref (ad (a + 1))) C (lt_A0 hN rfl) hay1 hgy58 rfl inA_X3 2 (by decide) q_162 rfl rfl dX3_joinLowest_155 ?_
    refine z_bipush (z := 60) C dX3_joinLowest_158 (by decide) ?_
    refine z_iald C (lt_A (c := 1) hN rfl) hay2 hgy57 (60) (by omega) (by omega) (by decide) dX3_joinLowest_160 ?_
    refine z_aload_n C 3 dX3_joinLowest_161 rfl ?_
    refine z_get (v := .ref (ad (a + 1))) C (lt_A0 hN rfl) hay1 hgy58 rfl inA_X3 2 (by decide) q_162 rfl rfl dX3_joinLowest_162 ?_
    refine z_bipush (z := 61) C dX3_joinLowest_165 (by decide) ?_
    refine z_iald C (lt_A (c := 1) hN rfl) hay2 hgy57 (61) (by omega) (by omega) (by decide) dX3_joinLowest_167 ?_
    obtain ⟨xy59, exy60, hxy61⟩ := zI_of (zI ((uZ (uZ (uZ (uZ (uZ (uZ (r) (0) (r (0))) (72) ((uZ (r) (0) (r (0))) (72))) (48) (vy42)) (12) (((uZ (uZ (uZ (r) (0) (r (0))) (72) ((uZ (r) (0) (r (0))) (72))) (48) (vy42)) (12)) + ((uZ (uZ (uZ (r) (0) (r (0))) (72) ((uZ (r) (0) (r (0))) (72))) (48) (vy42)) (13)))) (24) (((uZ (uZ (uZ (uZ (r) (0) (r (0))) (72) ((uZ (r) (0) (r (0))) (72))) (48) (vy42)) (12) (((uZ (uZ (uZ (r) (0) (r (0))) (72) ((uZ (r) (0) (r (0))) (72))) (48) (vy42)) (12)) + ((uZ (uZ (uZ (r) (0) (r (0))) (72) ((uZ (r) (0) (r (0))) (72))) (48) (vy42)) (13)))) (24)) + ((uZ (uZ (uZ (uZ (r) (0) (r (0))) (72) ((uZ (r) (0) (r (0))) (72))) (48) (vy42)) (12) (((uZ (uZ (uZ (r) (0) (r (0))) (72) ((uZ (r) (0) (r (0))) (72))) (48) (vy42)) (12)) + ((uZ (uZ (uZ (r) (0) (r (0))) (72) ((uZ (r) (0) (r (0))) (72))) (48) (vy42)) (13)))) (25)))) (36) (((uZ (uZ (uZ (uZ (uZ (r) (0) (r (0))) (72) ((uZ (r) (0) (r (0))) (72))) (48) (vy42)) (12) (((uZ (uZ (uZ (r) (0) (r (0))) (72) ((uZ (r) (0) (r (0))) (72))) (48) (vy42)) (12)) + ((uZ (uZ (uZ (r) (0) (r (0))) (72) ((uZ (r) (0) (r (0))) (72))) (48) (vy42)) (13)))) (24) (((uZ (uZ (uZ (uZ (r) (0) (r (0))) (72) ((uZ (r) (0) (r (0))) (72))) (48) (vy42)) (12) (((uZ (uZ (uZ (r) (0) (r (0))) (72) ((uZ (r) (0) (r (0))) (72))) (48) (vy42)) (12)) + ((uZ (uZ (uZ (r) (0) (r (0))) (72) ((uZ (r) (0) (r (0))) (72))) (48) (vy42)) (13)))) (24)) + ((uZ (uZ (uZ (uZ (r) (0) (r (0))) (72) ((uZ (r) (0) (r (0))) (72))) (48) (vy42)) (12) (((uZ (uZ (uZ (r) (0) (r (0))) (72) ((uZ (r) (0) (r (0))) (72))) (48) (vy42)) (12)) + ((uZ (uZ (uZ (r) (0) (r (0))) (72) ((uZ (r) (0) (r (0))) (72))) (48) (vy42)) (13)))) (25)))) (36)) + ((uZ (uZ (uZ (uZ (uZ (r) (0) (r (0))) (72) ((uZ (r) (0) (r (0))) (72))) (48) (vy42)) (12) (((uZ (uZ (uZ (r) (0) (r (0))) (72) ((uZ (r) (0) (r (0))) (72))) (48) (vy42)) (12)) + ((uZ (uZ (uZ (r) (0) (r (0))) (72) ((uZ (r) (0) (r (0))) (72))) (48) (vy42)) (13)))) (24) (((uZ (uZ (uZ (uZ (r) (0) (r (0))) (72) ((uZ (r) (0) (r (0))) (72))) (48) (vy42)) (12) (((uZ (uZ (uZ (r) (0) (r (0))) (72) ((uZ (r) (0) (r (0))) (72))) (48) (vy42)) (12)) + ((uZ (uZ (uZ (r) (0) (r (0))) (72) ((uZ (r) (0) (r (0))) (72))) (48) (vy42)) (13)))) (24)) + ((uZ (uZ (uZ (uZ (r) (0) (r (0))) (72) ((uZ (r) (0) (r (0))) (72))) (48) (vy42)) (12) (((uZ (uZ (uZ (r) (0) (r (0))) (72) ((uZ (r) (0) (r (0))) (72))) (48) (vy42)) (12)) + ((uZ (uZ (uZ (r) (0) (r (0))) (72) ((uZ (r) (0) (r (0))) (72))) (48) (vy42)) (13)))) (25)))) (37)))) (61)))
    rw [exy60]
    obtain ⟨xy62, exy63, hxy64⟩ := zI_of (zI ((uZ (uZ (uZ (uZ (uZ (uZ (r) (0) (r (0))) (72) ((uZ (r) (0) (r (0))) (72))) (48) (vy42)) (12) (((uZ (uZ (uZ (r) (0) (r (0))) (72) ((uZ (r) (0) (r (0))) (72))) (48) (vy42)) (12)) + ((uZ (uZ (uZ (r) (0) (r (0))) (72) ((uZ (r) (0) (r (0))) (72))) (48) (vy42)) (13)))) (24) (((uZ (uZ (uZ (uZ (r) (0) (r (0))) (72) ((uZ (r) (0) (r (0))) (72))) (48) (vy42)) (12) (((uZ (uZ (uZ (r) (0) (r (0))) (72) ((uZ (r) (0) (r (0))) (72))) (48) (vy42)) (12)) + ((uZ (uZ (uZ (r) (0) (r (0))) (72) ((uZ (r) (0) (r (0))) (72))) (48) (vy42)) (13)))) (24)) + ((uZ (uZ (uZ (uZ (r) (0) (r (0))) (72) ((uZ (r) (0) (r (0))) (72))) (48) (vy42)) (12) (((uZ (uZ (uZ (r) (0) (r (0))) (72) ((uZ (r) (0) (r (0))) (72))) (48) (vy42)) (12)) + ((uZ (uZ (uZ (r) (0) (r (0))) (72) ((uZ (r) (0) (r (0))) (72))) (48) (vy42)) (13)))) (25)))) (36) (((uZ (uZ (uZ (uZ (uZ (r) (0) (r (0))) (72) ((uZ (r) (0) (r (0))) (72))) (48) (vy42)) (12) (((uZ (uZ (uZ (r) (0) (r (0))) (72) ((uZ (r) (0) (r (0))) (72))) (48) (vy42)) (12)) + ((uZ (uZ (uZ (r) (0) (r (0))) (72) ((uZ (r) (0) (r (0))) (72))) (48) (vy42)) (13)))) (24) (((uZ (uZ (uZ (uZ (r) (0) (r (0))) (72) ((uZ (r) (0) (r (0))) (72))) (48) (vy42)) (12) (((uZ (uZ (uZ (r) (0) (r (0))) (72) ((uZ (r) (0) (r (0))) (72))) (48) (vy42)) (12)) + ((uZ (uZ (uZ (r) (0) (r (0))) (72) ((uZ (r) (0) (r (0))) (72))) (48) (vy42)) (13)))) (24)) + ((uZ (uZ (uZ (uZ (r) (0) (r (0))) (72) ((uZ (r) (0) (r (0))) (72))) (48) (vy42)) (12) (((uZ (uZ (uZ (r) (0) (r (0))) (72) ((uZ (r) (0) (r (0))) (72))) (48) (vy42)) (12)) + ((uZ (uZ (uZ (r) (0) (r (0))) (72) ((uZ (r) (0) (r (0))) (72))) (48) (vy42)) (13)))) (25)))) (36)) + ((uZ (uZ (uZ (uZ (uZ (r) (0) (r (0))) (72) ((uZ (r) (0) (r (0))) (72))) (48) (vy42)) (12) (((uZ (uZ (uZ (r) (0) (r (0))) (72) ((uZ (r) (0) (r (0))) (72))) (48) (vy42)) (12)) + ((uZ (uZ (uZ (r) (0) (r (0))) (72) ((uZ (r) (0) (r (0))) (72))) (48) (vy42)) (13)))) (24) (((uZ (uZ (uZ (uZ (r) (0) (r (0))) (72) ((uZ (r) (0) (r (0))) (72))) (48) (vy42)) (12) (((uZ (uZ (uZ (r) (0) (r (0))) (72) ((uZ (r) (0) (r (0))) (72))) (48) (vy42)) (12)) + ((uZ (uZ (uZ (r) (0) (r (0))) (72) ((uZ (r) (0) (r (0))) (72))) (48) (vy42)) (13)))) (24)) + ((uZ (uZ (uZ (uZ (r) (0) (r (0))) (72) ((uZ (r) (0) (r (0))) (72))) (48) (vy42)) (12) (((uZ (uZ (uZ (r) (0) (r (0))) (72) ((uZ (r) (0) (r (0))) (72))) (48) (vy42)) (12)) + ((uZ (uZ (uZ (r) (0) (r (0))) (72) ((uZ (r) (0) (r (0))) (72))) (48) (vy42)) (13)))) (25)))) (37)))) (60)))
    rw [exy63]
    refine z_mmax C q_469 q_470 q_20 q_471 (by omega) (by omega) (by decide) (Nat.le_of_ble_eq_true rfl) (by decide) (by decide) dX3_joinLowest_168 ?_
    obtain ⟨xy65, exy66, hxy67⟩ := mm_max (xy62) (xy59)
    rw [exy66]
    refine z_iast C (lt_A (c := 1) hN rfl) hay2 hgy57 (60) (by omega) (by omega) (by decide) dX3_joinLowest_171 (fun gy68 egy69 => ?_)
    have hgy70 := up_s egy69
    refine z_iconst (z := 0) C dX3_joinLowest_172 rfl ?_
    refine z_istore (lv' := [(6, .int (zI (0))), (5, .int (zI (0))), (3, .long (zJ (xy20))), (1, .long (zJ (xy17))), (0, .ref (ad a))]) C dX3_joinLowest_173 (by decide) rfl ?_
    refine z_lv (lv' := [(6, .int (zI (0))), (0, .ref (ad a))]) [0, 4] rfl ?_
    have hgy71 := up_n egy69 hgy58 (ne_o (i := a) (c := 0) (d := 1) rfl)
    exact lpo _ (0) _ _ _ gy68 rfl hgy71 hgy70 (fun j j1 j2 => by rw [egy69, va_up_ne _ _ (by omega)]; rw [egy56, va_up_ne _ _ (by omega)]; rw [egy52, va_up_ne _ _ (by omega)]; rw [egy48, va_up_ne _ _ (by omega)]; rw [egy44, va_up_ne _ _ (by omega)]; rw [egy30, va_up_ne _ _ (by omega)]; rw [egy26, va_up_ne _ _ (by omega)]) (by omega) (by omega)
  · have hcy24 : ¬ (xy20 ≤ xy17) := fun e9 => hby23 (cmpZ_le.mpr e9)
    refine z_iconst (z := 1) C dX3_joinLowest_24 rfl ?_
    refine z_goto (tgt := 29) C dX3_joinLowest_25 (by decide) ?_
    refine z_istore (lv' := [(5, .int (zI (1))), (3, .long (zJ (xy20))), (1, .long (zJ (xy17))), (0, .ref (ad a))]) C dX3_joinLowest_29 (by decide) rfl ?_
    refine z_aload_n C 3 dX3_joinLowest_31 rfl ?_
    refine z_get (v := .ref (ad (a + 1))) C (lt_A0 hN rfl) hay1 ha.1 rfl inA_X3 2 (by decide) q_162 rfl rfl dX3_joinLowest_32 ?_
    refine z_iconst (z := 0) C dX3_joinLowest_35 rfl ?_
    refine z_aload_n C 3 dX3_joinLowest_36 rfl ?_
    refine z_get (v := .ref (ad (a + 1))) C (lt_A0 hN rfl) hay1 ha.1 rfl inA_X3 2 (by decide) q_162 rfl rfl dX3_joinLowest_37 ?_
    refine z_iconst (z := 0) C dX3_joinLowest_40 rfl ?_
    refine z_iload C 0 dX3_joinLowest_41 rfl ?_
    refine z_iadd C dX3_joinLowest_43 ?_
    refine z_iald C (lt_A (c := 1) hN rfl) hay2 ha.2 (1) (by omega) (by omega) (by decide) dX3_joinLowest_44 ?_
    refine z_iast C (lt_A (c := 1) hN rfl) hay2 ha.2 (0) (by omega) (by omega) (by decide) dX3_joinLowest_45 (fun gy72 egy73 => ?_)
    have hgy74 := up_s egy73
    refine z_aload_n C 3 dX3_joinLowest_46 rfl ?_
    have hgy75 := up_n egy73 ha.1 (ne_o (i := a) (c := 0) (d := 1) rfl)
    refine z_get (v := .ref (ad (a + 1))) C (lt_A0 hN rfl) hay1 hgy75 rfl inA_X3 2 (by decide) q_162 rfl rfl dX3_joinLowest_47 ?_
    refine z_bipush (z := 72) C dX3_joinLowest_50 (by decide) ?_
    refine z_aload_n C 3 dX3_joinLowest_52 rfl ?_
    refine z_get (v := .ref (ad (a + 1))) C (lt_A0 hN rfl) hay1 hgy75 rfl inA_X3 2 (by decide) q_162 rfl rfl dX3_joinLowest_53 ?_
    refine z_bipush (z := 72) C dX3_joinLowest_56 (by decide) ?_
    refine z_iload C 0 dX3_joinLowest_58 rfl ?_
    refine z_iadd C dX3_joinLowest_60 ?_
    refine z_iald C (lt_A (c := 1) hN rfl) hay2 hgy74 (73) (by omega) (by omega) (by decide) dX3_joinLowest_61 ?_
    refine z_iast C (lt_A (c := 1) hN rfl) hay2 hgy74 (72) (by omega) (by omega) (by decide) dX3_joinLowest_62 (fun gy76 egy77 => ?_)
    have hgy78 := up_s egy77
    refine z_aload_n C 3 dX3_joinLowest_63 rfl ?_
    have hgy79 := up_n egy77 hgy75 (ne_o (i := a) (c := 0) (d := 1) rfl)
    refine z_get (v := .ref (ad (a + 1))) C (lt_A0 hN rfl) hay1 hgy79 rfl inA_X3 2 (by decide) q_162 rfl rfl dX3_joinLowest_64 ?_
    refine z_bipush (z := 48) C dX3_joinLowest_67 (by decide) ?_
    refine z_aload_n C 3 dX3_joinLowest_69 rfl ?_
    refine z_get (v := .ref (ad (a + 1))) C (lt_A0 hN rfl) hay1 hgy79 rfl inA_X3 2 (by decide) q_162 rfl rfl dX3_joinLowest_70 ?_
    refine z_bipush (z := 48) C dX3_joinLowest_73 (by decide) ?_
    refine z_iald C (lt_A (c := 1) hN rfl) hay2 hgy78 (48) (by omega) (by omega) (by decide) dX3_joinLowest_75 ?_
    obtain ⟨xy80, exy81, hxy82⟩ := zI_of (zI ((uZ (uZ (r) (0) (r (1))) (72) ((uZ (r) (0) (r (1))) (73))) (48)))
    rw [exy81]
    refine z_i2l C dX3_joinLowest_76 (by omega) ?_
    refine z_lload_n C 2 dX3_joinLowest_77 rfl ?_
    refine z_lmul C dX3_joinLowest_78 ?_
    refine z_aload_n C 3 dX3_joinLowest_79 rfl ?_
    refine z_get (v := .ref (ad (a + 1))) C (lt_A0 hN rfl) hay1 hgy79 rfl inA_X3 2 (by decide) q_162 rfl rfl dX3_joinLowest_80 ?_
    refine z_bipush (z := 49) C dX3_joinLowest_83 (by decide) ?_
    refine z_iald C (lt_A (c := 1) hN rfl) hay2 hgy78 (49) (by omega) (by omega) (by decide) dX3_joinLowest_85 ?_
    obtain ⟨xy83, exy84, hxy85⟩ := zI_of (zI ((uZ (uZ (r) (0) (r (1))) (72) ((uZ (r) (0) (r (1))) (73))) (49)))
    rw [exy84]
    refine z_i2l C dX3_joinLowest_86 (by omega) ?_
    refine z_lload_n C 1 dX3_joinLowest_87 rfl ?_
    refine z_lmul C dX3_joinLowest_88 ?_
    refine z_ladd C dX3_joinLowest_89 ?_
    refine z_lload_n C 2 dX3_joinLowest_90 rfl ?_
    refine z_lload_n C 1 dX3_joinLowest_91 rfl ?_
    refine z_ladd C dX3_joinLowest_92 ?_
    obtain ⟨xy86, exy87, hxy88⟩ := zJ_of (zJ ((xy80 * xy17) + (xy83 * xy20)))
    rw [exy87]
    refine z_cSN (As := [.long (zJ (xy86)), .long (zJ (xy17 + xy20))]) (rest := [.int (zI (48)), .ref (ad (a + 1))]) C (c_X9_part l D A cs tt N ad _ (xy86) (xy17 + xy20) (by omega) (by omega)) ms_yX9_part n_466 hd_yX9_part (by decide) (Nat.le_of_ble_eq_true rfl) (by decide) dX3_joinLowest_93 rfl (kI0 fun vy89 gvy89 hvy89 => ?_)
    obtain ⟨hvy89, rfl⟩ := hvy89
    refine z_iast C (lt_A (c := 1) hN rfl) hay2 hgy78 (48) (by omega) (by omega) (by decide) dX3_joinLowest_96 (fun gy90 egy91 => ?_)
    have hgy92 := up_s egy91
    refine z_aload_n C 3 dX3_joinLowest_97 rfl ?_
    have hgy93 := up_n egy91 hgy79 (ne_o (i := a) (c := 0) (d := 1) rfl)
    refine z_get (v := .ref (ad (a + 1))) C (lt_A0 hN rfl) hay1 hgy93 rfl inA_X3 2 (by decide) q_162 rfl rfl dX3_joinLowest_98 ?_
    refine z_bipush (z := 12) C dX3_joinLowest_101 (by decide) ?_
    refine z_dup2 C dX3_joinLowest_103 rfl rfl ?_
    refine z_iald C (lt_A (c := 1) hN rfl) hay2 hgy92 (12) (by omega) (by omega) (by decide) dX3_joinLowest_104 ?_
    refine z_aload_n C 3 dX3_joinLowest_105 rfl ?_
    refine z_get (v := .ref (ad (a + 1))) C (lt_A0 hN rfl) hay1 hgy93 rfl inA_X3 2 (by decide) q_162 rfl rfl dX3_joinLowest_106 ?_
    refine z_bipush (z := 13) C dX3_joinLowest_109 (by decide) ?_
    refine z_iald C (lt_A (c := 1) hN rfl) hay2 hgy92 (13) (by omega) (by omega) (by decide) dX3_joinLowest_111 ?_
    refine z_iadd C dX3_joinLowest_112 ?_
    refine z_iast C (lt_A (c := 1) hN rfl) hay2 hgy92 (12) (by omega) (by omega) (by decide) dX3_joinLowest_113 (fun gy94 egy95 => ?_)
    have hgy96 := up_s egy95
    refine z_aload_n C 3 dX3_joinLowest_114 rfl ?_
    have hgy97 := up_n egy95 hgy93 (ne_o (i := a) (c := 0) (d := 1) rfl)
    refine z_get (v := .ref (ad (a + 1))) C (lt_A0 hN rfl) hay1 hgy97 rfl inA_X3 2 (by decide) q_162 rfl rfl dX3_joinLowest_115 ?_
    refine z_bipush (z := 24) C dX3_joinLowest_118 (by decide) ?_
    refine z_dup2 C dX3_joinLowest_120 rfl rfl ?_
    refine z_iald C (lt_A (c := 1) hN rfl) hay2 hgy96 (24) (by omega) (by omega) (by decide) dX3_joinLowest_121 ?_
    refine z_aload_n C 3 dX3_joinLowest_122 rfl ?_
    refine z_get (v := .ref (ad (a + 1))) C (lt_A0 hN rfl) hay1 hgy97 rfl inA_X3 2 (by decide) q_162 rfl rfl dX3_joinLowest_123 ?_
    refine z_bipush (z := 25) C dX3_joinLowest_126 (by decide) ?_
    refine z_iald C (lt_A (c := 1) hN rfl) hay2 hgy96 (25) (by omega) (by omega) (by decide) dX3_joinLowest_128 ?_
    refine z_iadd C dX3_joinLowest_129 ?_
    refine z_iast C (lt_A (c := 1) hN rfl) hay2 hgy96 (24) (by omega) (by omega) (by decide) dX3_joinLowest_130 (fun gy98 egy99 => ?_)
    have hgy100 := up_s egy99
    refine z_aload_n C 3 dX3_joinLowest_131 rfl ?_
    have hgy101 := up_n egy99 hgy97 (ne_o (i := a) (c := 0) (d := 1) rfl)
    refine z_get (v := .ref (ad (a + 1))) C (lt_A0 hN rfl) hay1 hgy101 rfl inA_X3 2 (by decide) q_162 rfl rfl dX3_joinLowest_132 ?_
    refine z_bipush (z := 36) C dX3_joinLowest_135 (by decide) ?_
    refine z_dup2 C dX3_joinLowest_137 rfl rfl ?_
    refine z_iald C (lt_A (c := 1) hN rfl) hay2 hgy100 (36) (by omega) (by omega) (by decide) dX3_joinLowest_138 ?_
    refine z_aload_n C 3 dX3_joinLowest_139 rfl ?_
    refine z_get (v := .ref (ad (a + 1))) C (lt_A0 hN rfl) hay1 hgy101 rfl inA_X3 2 (by decide) q_162 rfl rfl dX3_joinLowest_140 ?_
    refine z_bipush (z := 37) C dX3_joinLowest_143 (by decide) ?_
    refine z_iald C (lt_A (c := 1) hN rfl) hay2 hgy100 (37) (by omega) (by omega) (by decide) dX3_joinLowest_145 ?_
    refine z_iadd C dX3_joinLowest_146 ?_
    refine z_iast C (lt_A (c := 1) hN rfl) hay2 hgy100 (36) (by omega) (by omega) (by decide) dX3_joinLowest_147 (fun gy102 egy103 => ?_)
    have hgy104 := up_s egy103
    refine z_aload_n C 3 dX3_joinLowest_148 rfl ?_
    have hgy105 := up_n egy103 hgy101 (ne_o (i := a) (c := 0) (d := 1) rfl)
    refine z_get (v := .ref (ad (a + 1))) C (lt_A0 hN rfl) hay1 hgy105 rfl inA_X3 2 (by decide) q_162 rfl rfl dX3_joinLowest_149 ?_
    refine z_bipush (z := 60) C dX3_joinLowest_152 (by decide) ?_
    refine z_aload_n C 3 dX3_joinLowest_154 rfl ?_
    refine z_get (v := .ref (ad (a + 1))) C (lt_A0 hN rfl) hay1 hgy105 rfl inA_X3 2 (by decide) q_162 rfl rfl dX3_joinLowest_155 ?_
    refine z_bipush (z := 60) C dX3_joinLowest_158 (by decide) ?_
    refine z_iald C (lt_A (c := 1) hN rfl) hay2 hgy104 (60) (by omega) (by omega) (by decide) dX3_joinLowest_160 ?_
    refine z_aload_n C 3 dX3_joinLowest_161 rfl ?_
    refine z_get (v := .ref (ad (a + 1))) C (lt_A0 hN rfl) hay1 hgy105 rfl inA_X3 2 (by decide) q_162 rfl rfl dX3_joinLowest_162 ?_
    refine z_bipush (z := 61) C dX3_joinLowest_165 (by decide) ?_
    refine z_iald C (lt_A (c := 1) hN rfl) hay2 hgy104 (61) (by omega) (by omega) (by decide) dX3_joinLowest_167 ?_
    obtain ⟨xy106, exy107, hxy108⟩ := zI_of (zI ((uZ (uZ (uZ (uZ (uZ (uZ (r) (0) (r (1))) (72) ((uZ (r) (0) (r (1))) (73))) (48) (vy89)) (12) (((uZ (uZ (uZ (r) (0) (r (1))) (72) ((uZ (r) (0) (r (1))) (73))) (48) (vy89)) (12)) + ((uZ (uZ (uZ (r) (0) (r (1))) (72) ((uZ (r) (0) (r (1))) (73))) (48) (vy89)) (13)))) (24) (((uZ (uZ (uZ (uZ (r) (0) (r (1))) (72) ((uZ (r) (0) (r (1))) (73))) (48) (vy89)) (12) (((uZ (uZ (uZ (r) (0) (r (1))) (72) ((uZ (r) (0) (r (1))) (73))) (48) (vy89)) (12)) + ((uZ (uZ (uZ (r) (0) (r (1))) (72) ((uZ (r) (0) (r (1))) (73))) (48) (vy89)) (13)))) (24)) + ((uZ (uZ (uZ (uZ (r) (0) (r (1))) (72) ((uZ (r) (0) (r (1))) (73))) (48) (vy89)) (12) (((uZ (uZ (uZ (r) (0) (r (1))) (72) ((uZ (r) (0) (r (1))) (73))) (48) (vy89)) (12)) + ((uZ (uZ (uZ (r) (0) (r (1))) (72) ((uZ (r) (0) (r (1))) (73))) (48) (vy89)) (13)))) (25)))) (36) (((uZ (uZ (uZ (uZ (uZ (r) (0) (r (1))) (72) ((uZ (r) (0) (r (1))) (73))) (48) (vy89)) (12) (((uZ (uZ (uZ (r) (0) (r (1))) (72) ((uZ (r) (0) (r (1))) (73))) (48) (vy89)) (12)) + ((uZ (uZ (uZ (r) (0) (r (1))) (72) ((uZ (r) (0) (r (1))) (73))) (48) (vy89)) (13)))) (24) (((uZ (uZ (uZ (uZ (r) (0) (r (1))) (72) ((uZ (r) (0) (r (1))) (73))) (48) (vy89)) (12) (((uZ (uZ (uZ (r) (0) (r (1))) (72) ((uZ (r) (0) (r (1))) (73))) (48) (vy89)) (12)) + ((uZ (uZ (uZ (r) (0) (r (1))) (72) ((uZ (r) (0) (r (1))) (73))) (48) (vy89)) (13)))) (24)) + ((uZ (uZ (uZ (uZ (r) (0) (r (1))) (72) ((uZ (r) (0) (r (1))) (73))) (48) (vy89)) (12) (((uZ (uZ (uZ (r) (0) (r (1))) (72) ((uZ (r) (0) (r (1))) (73))) (48) (vy89)) (12)) + ((uZ (uZ (uZ (r) (0) (r (1))) (72) ((uZ (r) (0) (r (1))) (73))) (48) (vy89)) (13)))) (25)))) (36)) + ((uZ (uZ (uZ (uZ (uZ (r) (0) (r (1))) (72) ((uZ (r) (0) (r (1))) (73))) (48) (vy89)) (12) (((uZ (uZ (uZ (r) (0) (r (1))) (72) ((uZ (r) (0) (r (1))) (73))) (48) (vy89)) (12)) + ((uZ (uZ (uZ (r) (0) (r (1))) (72) ((uZ (r) (0) (r (1))) (73))) (48) (vy89)) (13)))) (24) (((uZ (uZ (uZ (uZ (r) (0) (r (1))) (72) ((uZ (r) (0) (r (1))) (73))) (48) (vy89)) (12) (((uZ (uZ (uZ (r) (0) (r (1))) (72) ((uZ (r) (0) (r (1))) (73))) (48) (vy89)) (12)) + ((uZ (uZ (uZ (r) (0) (r (1))) (72) ((uZ (r) (0) (r (1))) (73))) (48) (vy89)) (13)))) (24)) + ((uZ (uZ (uZ (uZ (r) (0) (r (1))) (72) ((uZ (r) (0) (r (1))) (73))) (48) (vy89)) (12) (((uZ (uZ (uZ (r) (0) (r (1))) (72) ((uZ (r) (0) (r (1))) (73))) (48) (vy89)) (12)) + ((uZ (uZ (uZ (r) (0) (r (1))) (72) ((uZ (r) (0) (r (1))) (73))) (48) (vy89)) (13)))) (25)))) (37)))) (61)))
    rw [exy107]
    obtain ⟨xy109, exy110, hxy111⟩ := zI_of (zI ((uZ (uZ (uZ (uZ (uZ (uZ (r) (0) (r (1))) (72) ((uZ (r) (0) (r (1))) (73))) (48) (vy89)) (12) (((uZ (uZ (uZ (r) (0) (r (1))) (72) ((uZ (r) (0) (r (1))) (73))) (48) (vy89)) (12)) + ((uZ (uZ (uZ (r) (0) (r (1))) (72) ((uZ (r) (0) (r (1))) (73))) (48) (vy89)) (13)))) (24) (((uZ (uZ (uZ (uZ (r) (0) (r (1))) (72) ((uZ (r) (0) (r (1))) (73))) (48) (vy89)) (12) (((uZ (uZ (uZ (r) (0) (r (1))) (72) ((uZ (r) (0) (r (1))) (73))) (48) (vy89)) (12)) + ((uZ (uZ (uZ (r) (0) (r (1))) (72) ((uZ (r) (0) (r (1))) (73))) (48) (vy89)) (13)))) (24)) + ((uZ (uZ (uZ (uZ (r) (0) (r (1))) (72) ((uZ (r) (0) (r (1))) (73))) (48) (vy89)) (12) (((uZ (uZ (uZ (r) (0) (r (1))) (72) ((uZ (r) (0) (r (1))) (73))) (48) (vy89)) (12)) + ((uZ (uZ (uZ (r) (0) (r (1))) (72) ((uZ (r) (0) (r (1))) (73))) (48) (vy89)) (13)))) (25)))) (36) (((uZ (uZ (uZ (uZ (uZ (r) (0) (r (1))) (72) ((uZ (r) (0) (r (1))) (73))) (48) (vy89)) (12) (((uZ (uZ (uZ (r) (0) (r (1))) (72) ((uZ (r) (0) (r (1))) (73))) (48) (vy89)) (12)) + ((uZ (uZ (uZ (r) (0) (r (1))) (72) ((uZ (r) (0) (r (1))) (73))) (48) (vy89)) (13)))) (24) (((uZ (uZ (uZ (uZ (r) (0) (r (1))) (72) ((uZ (r) (0) (r (1))) (73))) (48) (vy89)) (12) (((uZ (uZ (uZ (r) (0) (r (1))) (72) ((uZ (r) (0) (r (1))) (73))) (48) (vy89)) (12)) + ((uZ (uZ (uZ (r) (0) (r (1))) (72) ((uZ (r) (0) (r (1))) (73))) (48) (vy89)) (13)))) (24)) + ((uZ (uZ (uZ (uZ (r) (0) (r (1))) (72) ((uZ (r) (0) (r (1))) (73))) (48) (vy89)) (12) (((uZ (uZ (uZ (r) (0) (r (1))) (72) ((uZ (r) (0) (r (1))) (73))) (48) (vy89)) (12)) + ((uZ (uZ (uZ (r) (0) (r (1))) (72) ((uZ (r) (0) (r (1))) (73))) (48) (vy89)) (13)))) (25)))) (36)) + ((uZ (uZ (uZ (uZ (uZ (r) (0) (r (1))) (72) ((uZ (r) (0) (r (1))) (73))) (48) (vy89)) (12) (((uZ (uZ (uZ (r) (0) (r (1))) (72) ((uZ (r) (0) (r (1))) (73))) (48) (vy89)) (12)) + ((uZ (uZ (uZ (r) (0) (r (1))) (72) ((uZ (r) (0) (r (1))) (73))) (48) (vy89)) (13)))) (24) (((uZ (uZ (uZ (uZ (r) (0) (r (1))) (72) ((uZ (r) (0) (r (1))) (73))) (48) (vy89)) (12) (((uZ (uZ (uZ (r) (0) (r (1))) (72) ((uZ (r) (0) (r (1))) (73))) (48) (vy89)) (12)) + ((uZ (uZ (uZ (r) (0) (r (1))) (72) ((uZ (r) (0) (r (1))) (73))) (48) (vy89)) (13)))) (24)) + ((uZ (uZ (uZ (uZ (r) (0) (r (1))) (72) ((uZ (r) (0) (r (1))) (73))) (48) (vy89)) (12) (((uZ (uZ (uZ (r) (0) (r (1))) (72) ((uZ (r) (0) (r (1))) (73))) (48) (vy89)) (12)) + ((uZ (uZ (uZ (r) (0) (r (1))) (72) ((uZ (r) (0) (r (1))) (73))) (48) (vy89)) (13)))) (25)))) (37)))) (60)))
    rw [exy110]
    refine z_mmax C q_469 q_470 q_20 q_471 (by omega) (by omega) (by decide) (Nat.le_of_ble_eq_true rfl) (by decide) (by decide) dX3_joinLowest_168 ?_
    obtain ⟨xy112, exy113, hxy114⟩ := mm_max (xy109) (xy106)
    rw [exy113]
    refine z_iast C (lt_A (c := 1) hN rfl) hay2 hgy104 (60) (by omega) (by omega) (by decide) dX3_joinLowest_171 (fun gy115 egy116 => ?_)
    have hgy117 := up_s egy116
    refine z_iconst (z := 0) C dX3_joinLowest_172 rfl ?_
    refine z_istore (lv' := [(6, .int (zI (0))), (5, .int (zI (1))), (3, .long (zJ (xy20))), (1, .long (zJ (xy17))), (0, .ref (ad a))]) C dX3_joinLowest_173 (by decide) rfl ?_
    refine z_lv (lv' := [(6, .int (zI (0))), (0, .ref (ad a))]) [0, 4] rfl ?_
    have hgy118 := up_n egy116 hgy105 (ne_o (i := a) (c := 0) (d := 1) rfl)
    exact lpo _ (0) _ _ _ gy115 rfl hgy118 hgy117 (fun j j1 j2 => by rw [egy116, va_up_ne _ _ (by omega)]; rw [egy103, va_up_ne _ _ (by omega)]; rw [egy99, va_up_ne _ _ (by omega)]; rw [egy95, va_up_ne _ _ (by omega)]; rw [egy91, va_up_ne _ _ (by omega)]; rw [egy77, va_up_ne _ _ (by omega)]; rw [egy73, va_up_ne _ _ (by omega)]) (by omega) (by omega)
end
section
-- 23.words.lean.txt
-- words of world
theorem q_1252 : (Jvm.Cond.methodLink "SnowRecorder$World" (54 : Nat) ({ cls := "SnowRecorder$Pack", name := "has", desc := "(I)Z" } : Jvm.MethodName)) ∈ AW := AW_m6 52 (by decide +kernel) (by decide +kernel)
theorem q_156 : (Jvm.Cond.fieldLink "SnowRecorder$World" (44 : Nat) "SnowRecorder$Pack" "size" "I") ∈ AW := AW_m1 156 (by decide +kernel) (by decide +kernel)
theorem q_160 : (Jvm.Cond.fieldLink "SnowRecorder$World" (47 : Nat) "SnowRecorder$Pack" "runoff" "I") ∈ AW := AW_m1 160 (by decide +kernel) (by decide +kernel)
theorem q_443 : (Jvm.Cond.methodLink "SnowRecorder$Plan" (60 : Nat) ({ cls := "java/lang/Math", name := "floorMod", desc := "(II)I" } : Jvm.MethodName)) ∈ AW := AW_m2 203 (by decide +kernel) (by decide +kernel)
theorem q_444 : (Jvm.Cond.static ({ cls := "java/lang/Math", name := "floorMod", desc := "(II)I" } : Jvm.MethodName)) ∈ AW := AW_m2 204 (by decide +kernel) (by decide +kernel)
theorem q_445 : (Jvm.Cond.code ({ cls := "java/lang/Math", name := "floorMod", desc := "(II)I" } : Jvm.MethodName) prog_22_method_50_code (3 : Nat) (Option.some Jvm.ClassFile.FieldType.int)) ∈ AW := AW_m2 205 (by decide +kernel) (by decide +kernel)
theorem q_890 : (Jvm.Cond.methodLink "SnowRecorder$World" (50 : Nat) ({ cls := "SnowRecorder$Pack", name := "sum", desc := "(I)I" } : Jvm.MethodName)) ∈ AW := AW_m4 170 (by decide +kernel) (by decide +kernel)
theorem q_891 : (Jvm.Cond.instanceMethod ({ cls := "SnowRecorder$Pack", name := "sum", desc := "(I)I" } : Jvm.MethodName)) ∈ AW := AW_m4 171 (by decide +kernel) (by decide +kernel)
theorem q_892 : (Jvm.Cond.selects "SnowRecorder$Pack" ({ cls := "SnowRecorder$Pack", name := "sum", desc := "(I)I" } : Jvm.MethodName) ({ cls := "SnowRecorder$Pack", name := "sum", desc := "(I)I" } : Jvm.MethodName)) ∈ AW := AW_m4 172 (by decide +kernel) (by decide +kernel)
theorem q_893 : (Jvm.Cond.code ({ cls := "SnowRecorder$Pack", name := "sum", desc := "(I)I" } : Jvm.MethodName) prog_5_method_4_code (4 : Nat) (Option.some Jvm.ClassFile.FieldType.int)) ∈ AW := AW_m4 173 (by decide +kernel) (by decide +kernel)
theorem hd_yJ9_floorMod_7cf53 : yJ9_floorMod_7cf53.cls ≠ "java/lang/invoke/MethodHandle" ∧ yJ9_floorMod_7cf53.cls ≠ "java/lang/invoke/VarHandle" ∧ (parseMethodDescriptor yJ9_floorMod_7cf53.desc).map (fun d => d.parameters.length) = some 2 := by decide +kernel
theorem hd_yX3_sum : yX3_sum.cls ≠ "java/lang/invoke/MethodHandle" ∧ yX3_sum.cls ≠ "java/lang/invoke/VarHandle" ∧ (parseMethodDescriptor yX3_sum.desc).map (fun d => d.parameters.length) = some 1 := by decide +kernel
theorem ms_yJ9_floorMod_7cf53 : zWs yJ9_floorMod_7cf53 cJ9_floorMod_7cf53 3 (some .int) := ⟨q_444, q_20, q_445⟩
theorem mv_yX3_sum : zWv yX3_sum cX3_sum 4 (some .int) := ⟨q_891, q_892, q_6, q_893⟩
end
section
-- 24.dec.lean.txt
-- decode rows of world
theorem dJ9_floorMod_7cf53_0 : decode cJ9_floorMod_7cf53 0 = .ok (.iload_n 0, 1) := by decide +kernel
theorem dJ9_floorMod_7cf53_1 : decode cJ9_floorMod_7cf53 1 = .ok (.iload_n 1, 1) := by decide +kernel
theorem dJ9_floorMod_7cf53_2 : decode cJ9_floorMod_7cf53 2 = .ok (.irem, 1) := by decide +kernel
theorem dJ9_floorMod_7cf53_3 : decode cJ9_floorMod_7cf53 3 = .ok (.istore_n 2, 1) := by decide +kernel
theorem dJ9_floorMod_7cf53_4 : decode cJ9_floorMod_7cf53 4 = .ok (.iload_n 0, 1) := by decide +kernel
theorem dJ9_floorMod_7cf53_5 : decode cJ9_floorMod_7cf53 5 = .ok (.iload_n 1, 1) := by decide +kernel
theorem dJ9_floorMod_7cf53_6 : decode cJ9_floorMod_7cf53 6 = .ok (.ixor, 1) := by decide +kernel
theorem dJ9_floorMod_7cf53_7 : decode cJ9_floorMod_7cf53 7 = .ok (.ifCond .ge 11, 3) := by decide +kernel
theorem dJ9_floorMod_7cf53_18 : decode cJ9_floorMod_7cf53 18 = .ok (.iload_n 2, 1) := by decide +kernel
theorem dJ9_floorMod_7cf53_19 : decode cJ9_floorMod_7cf53 19 = .ok (.ireturn, 1) := by decide +kernel
theorem dJ9_floorMod_7cf53_10 : decode cJ9_floorMod_7cf53 10 = .ok (.iload_n 2, 1) := by decide +kernel
theorem dJ9_floorMod_7cf53_11 : decode cJ9_floorMod_7cf53 11 = .ok (.ifCond .eq 7, 3) := by decide +kernel
theorem dJ9_floorMod_7cf53_14 : decode cJ9_floorMod_7cf53 14 = .ok (.iload_n 2, 1) := by decide +kernel
theorem dJ9_floorMod_7cf53_15 : decode cJ9_floorMod_7cf53 15 = .ok (.iload_n 1, 1) := by decide +kernel
theorem dJ9_floorMod_7cf53_16 : decode cJ9_floorMod_7cf53 16 = .ok (.iadd, 1) := by decide +kernel
theorem dJ9_floorMod_7cf53_17 : decode cJ9_floorMod_7cf53 17 = .ok (.ireturn, 1) := by decide +kernel
theorem dX5_airAt_0 : decode cX5_airAt 0 = .ok (.aload_n 0, 1) := by decide +kernel
theorem dX5_airAt_1 : decode cX5_airAt 1 = .ok (.getfield 15, 3) := by decide +kernel
theorem dX5_airAt_4 : decode cX5_airAt 4 = .ok (.ifCond .ne 10, 3) := by decide +kernel
theorem dX5_airAt_14 : decode cX5_airAt 14 = .ok (.aload_n 0, 1) := by decide +kernel
theorem dX5_airAt_15 : decode cX5_airAt 15 = .ok (.getfield 28, 3) := by decide +kernel
theorem dX5_airAt_18 : decode cX5_airAt 18 = .ok (.iload_n 1, 1) := by decide +kernel
theorem dX5_airAt_19 : decode cX5_airAt 19 = .ok (.aload_n 0, 1) := by decide +kernel
theorem dX5_airAt_20 : decode cX5_airAt 20 = .ok (.getfield 15, 3) := by decide +kernel
theorem dX5_airAt_23 : decode cX5_airAt 23 = .ok (.invokestatic 60, 3) := by decide +kernel
theorem dX5_airAt_26 : decode cX5_airAt 26 = .ok (.iaload, 1) := by decide +kernel
theorem dX5_airAt_27 : decode cX5_airAt 27 = .ok (.ireturn, 1) := by decide +kernel
theorem dX5_airAt_7 : decode cX5_airAt 7 = .ok (.aload_n 0, 1) := by decide +kernel
theorem dX5_airAt_8 : decode cX5_airAt 8 = .ok (.getfield 18, 3) := by decide +kernel
theorem dX5_airAt_11 : decode cX5_airAt 11 = .ok (.goto 16, 3) := by decide +kernel
theorem dX5_fallAt_0 : decode cX5_fallAt 0 = .ok (.aload_n 0, 1) := by decide +kernel
theorem dX5_fallAt_1 : decode cX5_fallAt 1 = .ok (.getfield 15, 3) := by decide +kernel
theorem dX5_fallAt_4 : decode cX5_fallAt 4 = .ok (.ifCond .ne 7, 3) := by decide +kernel
theorem dX5_fallAt_11 : decode cX5_fallAt 11 = .ok (.aload_n 0, 1) := by decide +kernel
theorem dX5_fallAt_12 : decode cX5_fallAt 12 = .ok (.getfield 31, 3) := by decide +kernel
theorem dX5_fallAt_15 : decode cX5_fallAt 15 = .ok (.iload_n 1, 1) := by decide +kernel
theorem dX5_fallAt_16 : decode cX5_fallAt 16 = .ok (.aload_n 0, 1) := by decide +kernel
theorem dX5_fallAt_17 : decode cX5_fallAt 17 = .ok (.getfield 15, 3) := by decide +kernel
theorem dX5_fallAt_20 : decode cX5_fallAt 20 = .ok (.invokestatic 60, 3) := by decide +kernel
theorem dX5_fallAt_23 : decode cX5_fallAt 23 = .ok (.iaload, 1) := by decide +kernel
theorem dX5_fallAt_24 : decode cX5_fallAt 24 = .ok (.ireturn, 1) := by decide +kernel
theorem dX5_fallAt_7 : decode cX5_fallAt 7 = .ok (.iconst 0, 1) := by decide +kernel
theorem dX5_fallAt_8 : decode cX5_fallAt 8 = .ok (.goto 16, 3) := by decide +kernel
theorem dX5_muchAt_0 : decode cX5_muchAt 0 = .ok (.aload_n 0, 1) := by decide +kernel
theorem dX5_muchAt_1 : decode cX5_muchAt 1 = .ok (.getfield 15, 3) := by decide +kernel
theorem dX5_muchAt_4 : decode cX5_muchAt 4 = .ok (.ifCond .ne 7, 3) := by decide +kernel
theorem dX5_muchAt_11 : decode cX5_muchAt 11 = .ok (.aload_n 0, 1) := by decide +kernel
theorem dX5_muchAt_12 : decode cX5_muchAt 12 = .ok (.getfield 34, 3) := by decide +kernel
theorem dX5_muchAt_15 : decode cX5_muchAt 15 = .ok (.iload_n 1, 1) := by decide +kernel
theorem dX5_muchAt_16 : decode cX5_muchAt 16 = .ok (.aload_n 0, 1) := by decide +kernel
theorem dX5_muchAt_17 : decode cX5_muchAt 17 = .ok (.getfield 15, 3) := by decide +kernel
theorem dX5_muchAt_20 : decode cX5_muchAt 20 = .ok (.invokestatic 60, 3) := by decide +kernel
theorem dX5_muchAt_23 : decode cX5_muchAt 23 = .ok (.iaload, 1) := by decide +kernel
theorem dX5_muchAt_24 : decode cX5_muchAt 24 = .ok (.ireturn, 1) := by decide +kernel
theorem dX5_muchAt_7 : decode cX5_muchAt 7 = .ok (.iconst 0, 1) := by decide +kernel
theorem dX5_muchAt_8 : decode cX5_muchAt 8 = .ok (.goto 16, 3) := by decide +kernel
theorem dX5_allSlopes_0 : decode cX5_allSlopes 0 = .ok (.iconst 1, 1) := by decide +kernel
theorem dX5_allSlopes_1 : decode cX5_allSlopes 1 = .ok (.aload_n 0, 1) := by decide +kernel
theorem dX5_allSlopes_2 : decode cX5_allSlopes 2 = .ok (.getfield 9, 3) := by decide +kernel
theorem dX5_allSlopes_5 : decode cX5_allSlopes 5 = .ok (.ishl, 1) := by decide +kernel
theorem dX5_allSlopes_6 : decode cX5_allSlopes 6 = .ok (.iconst 1, 1) := by decide +kernel
theorem dX5_allSlopes_7 : decode cX5_allSlopes 7 = .ok (.isub, 1) := by decide +kernel
theorem dX5_allSlopes_8 : decode cX5_allSlopes 8 = .ok (.ireturn, 1) := by decide +kernel
theorem dX8_layers_4 : decode cX8_layers 4 = .ok (.iload_n 2, 1) := by decide +kernel
theorem dX8_layers_5 : decode cX8_layers 5 = .ok (.aload_n 0, 1) := by decide +kernel
theorem dX8_layers_6 : decode cX8_layers 6 = .ok (.getfield 32, 3) := by decide +kernel
theorem dX8_layers_9 : decode cX8_layers 9 = .ok (.arraylength, 1) := by decide +kernel
theorem dX8_layers_10 : decode cX8_layers 10 = .ok (.if_icmp .ge 21, 3) := by decide +kernel
theorem dX8_layers_31 : decode cX8_layers 31 = .ok (.iload_n 1, 1) := by decide +kernel
theorem dX8_layers_32 : decode cX8_layers 32 = .ok (.ireturn, 1) := by decide +kernel
theorem dX8_layers_13 : decode cX8_layers 13 = .ok (.iload_n 1, 1) := by decide +kernel
theorem dX8_layers_14 : decode cX8_layers 14 = .ok (.aload_n 0, 1) := by decide +kernel
theorem dX8_layers_15 : decode cX8_layers 15 = .ok (.getfield 32, 3) := by decide +kernel
theorem dX8_layers_18 : decode cX8_layers 18 = .ok (.iload_n 2, 1) := by decide +kernel
theorem dX8_layers_19 : decode cX8_layers 19 = .ok (.aaload, 1) := by decide +kernel
theorem dX8_layers_20 : decode cX8_layers 20 = .ok (.getfield 44, 3) := by decide +kernel
theorem dX8_layers_23 : decode cX8_layers 23 = .ok (.iadd, 1) := by decide +kernel
theorem dX8_layers_24 : decode cX8_layers 24 = .ok (.istore_n 1, 1) := by decide +kernel
theorem dX8_layers_25 : decode cX8_layers 25 = .ok (.iinc 2 1, 3) := by decide +kernel
theorem dX8_layers_28 : decode cX8_layers 28 = .ok (.goto (-24), 3) := by decide +kernel
theorem dX8_layers_0 : decode cX8_layers 0 = .ok (.iconst 0, 1) := by decide +kernel
theorem dX8_layers_1 : decode cX8_layers 1 = .ok (.istore_n 1, 1) := by decide +kernel
theorem dX8_layers_2 : decode cX8_layers 2 = .ok (.iconst 0, 1) := by decide +kernel
theorem dX8_layers_3 : decode cX8_layers 3 = .ok (.istore_n 2, 1) := by decide +kernel
theorem dX8_runoff_4 : decode cX8_runoff 4 = .ok (.iload_n 2, 1) := by decide +kernel
theorem dX8_runoff_5 : decode cX8_runoff 5 = .ok (.aload_n 0, 1) := by decide +kernel
theorem dX8_runoff_6 : decode cX8_runoff 6 = .ok (.getfield 32, 3) := by decide +kernel
theorem dX8_runoff_9 : decode cX8_runoff 9 = .ok (.arraylength, 1) := by decide +kernel
theorem dX8_runoff_10 : decode cX8_runoff 10 = .ok (.if_icmp .ge 21, 3) := by decide +kernel
theorem dX8_runoff_31 : decode cX8_runoff 31 = .ok (.iload_n 1, 1) := by decide +kernel
theorem dX8_runoff_32 : decode cX8_runoff 32 = .ok (.ireturn, 1) := by decide +kernel
theorem dX8_runoff_13 : decode cX8_runoff 13 = .ok (.iload_n 1, 1) := by decide +kernel
theorem dX8_runoff_14 : decode cX8_runoff 14 = .ok (.aload_n 0, 1) := by decide +kernel
theorem dX8_runoff_15 : decode cX8_runoff 15 = .ok (.getfield 32, 3) := by decide +kernel
theorem dX8_runoff_18 : decode cX8_runoff 18 = .ok (.iload_n 2, 1) := by decide +kernel
theorem dX8_runoff_19 : decode cX8_runoff 19 = .ok (.aaload, 1) := by decide +kernel
theorem dX8_runoff_20 : decode cX8_runoff 20 = .ok (.getfield 47, 3) := by decide +kernel
theorem dX8_runoff_23 : decode cX8_runoff 23 = .ok (.iadd, 1) := by decide +kernel
theorem dX8_runoff_24 : decode cX8_runoff 24 = .ok (.istore_n 1, 1) := by decide +kernel
theorem dX8_runoff_25 : decode cX8_runoff 25 = .ok (.iinc 2 1, 3) := by decide +kernel
theorem dX8_runoff_28 : decode cX8_runoff 28 = .ok (.goto (-24), 3) := by decide +kernel
theorem dX8_runoff_0 : decode cX8_runoff 0 = .ok (.iconst 0, 1) := by decide +kernel
theorem dX8_runoff_1 : decode cX8_runoff 1 = .ok (.istore_n 1, 1) := by decide +kernel
theorem dX8_runoff_2 : decode cX8_runoff 2 = .ok (.iconst 0, 1) := by decide +kernel
theorem dX8_runoff_3 : decode cX8_runoff 3 = .ok (.istore_n 2, 1) := by decide +kernel
theorem dX8_sum_4 : decode cX8_sum 4 = .ok (.iload_n 3, 1) := by decide +kernel
theorem dX8_sum_5 : decode cX8_sum 5 = .ok (.aload_n 0, 1) := by decide +kernel
theorem dX8_sum_6 : decode cX8_sum 6 = .ok (.getfield 32, 3) := by decide +kernel
theorem dX8_sum_9 : decode cX8_sum 9 = .ok (.arraylength, 1) := by decide +kernel
theorem dX8_sum_10 : decode cX8_sum 10 = .ok (.if_icmp .ge 22, 3) := by decide +kernel
theorem dX8_sum_32 : decode cX8_sum 32 = .ok (.iload_n 2, 1) := by decide +kernel
theorem dX8_sum_33 : decode cX8_sum 33 = .ok (.ireturn, 1) := by decide +kernel
theorem dX8_sum_13 : decode cX8_sum 13 = .ok (.iload_n 2, 1) := by decide +kernel
theorem dX8_sum_14 : decode cX8_sum 14 = .ok (.aload_n 0, 1) := by decide +kernel
theorem dX8_sum_15 : decode cX8_sum 15 = .ok (.getfield 32, 3) := by decide +kernel
theorem dX8_sum_18 : decode cX8_sum 18 = .ok (.iload_n 3, 1) := by decide +kernel
theorem dX8_sum_19 : decode cX8_sum 19 = .ok (.aaload, 1) := by decide +kernel
theorem dX8_sum_20 : decode cX8_sum 20 = .ok (.iload_n 1, 1) := by decide +kernel
theorem dX8_sum_21 : decode cX8_sum 21 = .ok (.invokevirtual 50, 3) := by decide +kernel
theorem dX8_sum_24 : decode cX8_sum 24 = .ok (.iadd, 1) := by decide +kernel
theorem dX8_sum_25 : decode cX8_sum 25 = .ok (.istore_n 2, 1) := by decide +kernel
theorem dX8_sum_26 : decode cX8_sum 26 = .ok (.iinc 3 1, 3) := by decide +kernel
theorem dX8_sum_29 : decode cX8_sum 29 = .ok (.goto (-25), 3) := by decide +kernel
theorem dX8_sum_0 : decode cX8_sum 0 = .ok (.iconst 0, 1) := by decide +kernel
theorem dX8_sum_1 : decode cX8_sum 1 = .ok (.istore_n 2, 1) := by decide +kernel
theorem dX8_sum_2 : decode cX8_sum 2 = .ok (.iconst 0, 1) := by decide +kernel
theorem dX8_sum_3 : decode cX8_sum 3 = .ok (.istore_n 3, 1) := by decide +kernel
theorem dX8_has_2 : decode cX8_has 2 = .ok (.iload_n 2, 1) := by decide +kernel
theorem dX8_has_3 : decode cX8_has 3 = .ok (.aload_n 0, 1) := by decide +kernel
theorem dX8_has_4 : decode cX8_has 4 = .ok (.getfield 32, 3) := by decide +kernel
theorem dX8_has_7 : decode cX8_has 7 = .ok (.arraylength, 1) := by decide +kernel
theorem dX8_has_8 : decode cX8_has 8 = .ok (.if_icmp .ge 24, 3) := by decide +kernel
theorem dX8_has_32 : decode cX8_has 32 = .ok (.iconst 0, 1) := by decide +kernel
theorem dX8_has_33 : decode cX8_has 33 = .ok (.ireturn, 1) := by decide +kernel
theorem dX8_has_11 : decode cX8_has 11 = .ok (.aload_n 0, 1) := by decide +kernel
theorem dX8_has_12 : decode cX8_has 12 = .ok (.getfield 32, 3) := by decide +kernel
theorem dX8_has_15 : decode cX8_has 15 = .ok (.iload_n 2, 1) := by decide +kernel
theorem dX8_has_16 : decode cX8_has 16 = .ok (.aaload, 1) := by decide +kernel
theorem dX8_has_17 : decode cX8_has 17 = .ok (.iload_n 1, 1) := by decide +kernel
theorem dX8_has_18 : decode cX8_has 18 = .ok (.invokevirtual 54, 3) := by decide +kernel
theorem dX8_has_21 : decode cX8_has 21 = .ok (.ifCond .eq 5, 3) := by decide +kernel
theorem dX8_has_26 : decode cX8_has 26 = .ok (.iinc 2 1, 3) := by decide +kernel
theorem dX8_has_29 : decode cX8_has 29 = .ok (.goto (-27), 3) := by decide +kernel
theorem dX8_has_24 : decode cX8_has 24 = .ok (.iconst 1, 1) := by decide +kernel
theorem dX8_has_25 : decode cX8_has 25 = .ok (.ireturn, 1) := by decide +kernel
theorem dX8_has_0 : decode cX8_has 0 = .ok (.iconst 0, 1) := by decide +kernel
theorem dX8_has_1 : decode cX8_has 1 = .ok (.istore_n 2, 1) := by decide +kernel
end
section
-- 25.world.lean.txt
theorem xor_neg {a b : Int} (ha : -2147483648 ≤ a ∧ a ≤ 2147483647) (hb : -2147483648 ≤ b ∧ b ≤ 2147483647) {z : Int} (e : zI a ^^^ zI b = zI z) (hz : -2147483648 ≤ z ∧ z ≤ 2147483647) : z < 0 ↔ (a < 0 ↔ 0 ≤ b) := by
  have h1 : (zI z).toBitVec.msb = ((zI a).toBitVec.msb ^^ (zI b).toBitVec.msb) := by rw [← e, Int32.toBitVec_xor, BitVec.msb_xor]
  rw [BitVec.msb_eq_toInt, BitVec.msb_eq_toInt, BitVec.msb_eq_toInt] at h1
  have e1 : (zI z).toBitVec.toInt = z := zI_to hz
  have e2 : (zI a).toBitVec.toInt = a := zI_to ha
  have e3 : (zI b).toBitVec.toInt = b := zI_to hb
  rw [e1, e2, e3] at h1
  by_cases h2 : z < 0 <;> by_cases h3 : a < 0 <;> by_cases h4 : b < 0 <;> simp [h2, h3, h4] at h1 <;> omega
theorem tmod_f {a b : Int} (hb : 0 < b) : (0 ≤ a → 0 ≤ a.tmod b ∧ a.tmod b < b) ∧ (a < 0 → -b < a.tmod b ∧ a.tmod b ≤ 0) := by
  refine ⟨fun h => ?_, fun h => ?_⟩
  · rw [Int.tmod_eq_emod_of_nonneg h]; exact ⟨Int.emod_nonneg _ (by omega), Int.emod_lt_of_pos _ hb⟩
  · have h1 : a.tmod b = -((-a).tmod b) := by rw [Int.neg_tmod, Int.neg_neg]
    rw [h1, Int.tmod_eq_emod_of_nonneg (by omega)]
    have h2 := Int.emod_nonneg (-a) (show b ≠ 0 by omega); have h3 := Int.emod_lt_of_pos (-a) hb
    omega
theorem Met_ofWF {l : Launch} {y : MethodName} {ws ws' : List Cond} {rm : Room} {Pc : Array Value → State → Prop} {Qc : Array Value → State → Outcome → State → Prop} {mc ms : Nat} {free : Addr → Prop} {cc : ByteArray} {maxL : Nat} {ret : Option FieldType} (hy : plainFor y = true) (hw : ws = Cond.code y cc maxL ret :: ws')
    (body : ∀ p e s m args below meth c s₁, BodyLoose p l y (headSpec ws rm) cc maxL ret e s m args below meth c s₁ → c.maxLocals = maxL → Pc args s → W p l e (headSpec ws rm).room s m args below meth c s.heap [] 0 0 (MQ below Qc args s mc ms free) (entryFrame m args maxL)) : Met l y ws rm Pc Qc mc ms free := by
  refine MetFree.of_bodySF (code := cc) (maxLocals := maxL) (ret := ret) hy ?_ ?_
  · intro args s m h hn
    obtain ⟨meth, c, h1, h2, h3, h4, h5, h6, -, -⟩ := Cond.code_spec hn (atoms_spec (ws := ws) h _ (by rw [hw]; exact List.mem_cons_self))
    exact ⟨meth, c, h1, h2, h3, h4, h5, h6⟩
  · intro p e s m args below meth c s₁ B hml hP _
    have hh0 : s₁.heap = s.heap := by rw [B.state]; rfl
    obtain ⟨t, a1, o, b1, b2, b3⟩ := body p e s m args below meth c s₁ B hml hP s₁ hh0 (Stand.of_body B)
    exact ⟨t, o, a1, b1, b2, ⟨b3.1, b3.2⟩⟩
theorem z_ofF {l : Launch} {y : MethodName} {cc : ByteArray} {mL : Nat} {ret : Option FieldType} {rm : Room} {D : va_G} {A : Nat → Prop} {cs : Nat → ClassId} {tt N : Nat} {ad : Nat → Nat} {g : Nat → va_E} {avs : List Value} {Qr : zR} (hy : plainFor y = true) (hlen : (lg_sl avs).length ≤ mL)
    (body : ∀ (p : Program) (e : Env) (s : State) (m : MethodId) (below : List Frame) (meth : Method) (c : Code), zC p s m avs.toArray c cc mL y.cls D A cs tt → meth.sig.returnType = ret → meth.locks = false → meth.name = y.name →
      zV p l e rm s m avs.toArray below meth c (MQ below (zPost D A Qr) avs.toArray s rm.cells rm.slots A) D A mL N ad g 0 0 0 (lv_args 0 avs) []) : zM l y cc mL ret rm D A cs tt N ad g avs Qr := by
  refine Met_ofWF (cc := cc) (maxL := mL) (ret := ret) hy rfl ?_
  intro p e s m args below meth c s₁ B hml hv
  obtain ⟨rfl, hE, hP, hD⟩ := hv
  have hts := atoms_spec (ws := Cond.code y cc mL ret :: AW) B.pre
  have hl := lv_entry avs (n := mL) hlen
  rw [lg_entry_eq]
  exact body p e s m below meth c ⟨B.exec, B.bytes, hml, findClass_of_methodNamed B.named, fun w h => hts w (List.mem_cons_of_mem _ h), hE⟩ B.returns B.notSynchronized (name_of_methodNamed B.named B.method).1 s.heap [] _ hP hD va_S.rf hl
theorem pf_floorMod : plainFor yJ9_floorMod_7cf53 = true := by decide +kernel
abbrev okWorld (cs : Nat → ClassId) (ad : Nat → Nat) (g : Nat → va_E) (a : Nat) : Prop := ∃ (t z o : Nat → Int) (r : Nat → Nat → Int), (∀ k, k < 4 → 0 ≤ z k ∧ z k ≤ 12) ∧ (0 ≤ t 5 ∧ t 5 ≤ 6) ∧ isWorld cs ad g a t z o r
theorem okWorld.mv {cs : Nat → ClassId} {ad : Nat → Nat} {g g' : Nat → va_E} {a : Nat} (hG : ∀ j, a ≤ j → j < a + 10 → g' j = g j) (h : okWorld cs ad g a) : okWorld cs ad g' a := by
  obtain ⟨t, z, o, r, h1, h2, h3⟩ := h
  exact ⟨t, z, o, r, h1, h2, h3.mv (fun _ _ _ => rfl) hG⟩
theorem okWorld.pack {cs : Nat → ClassId} {ad : Nat → Nat} {g g' : Nat → va_E} {a k : Nat} (hk : k < 4) (h : okWorld cs ad g a) (hG : ∀ j, j ≠ a + 2 + 2 * k → j ≠ a + 2 + 2 * k + 1 → g' j = g j) (hp : okPack cs ad g' (a + 2 + 2 * k)) : okWorld cs ad g' a := by
  obtain ⟨t, z, o, r, h1, h2, h3, ⟨u, h4, h5⟩, h6⟩ := h
  obtain ⟨s, o', r', hs, hp⟩ := hp
  refine ⟨t, fun j => if j = k then s else z j, fun j => if j = k then o' else o j, fun j => if j = k then r' else r j, fun j hj => ?_, h2, ?_, ⟨u, ?_, h5⟩, fun j hj => ?_⟩
  · by_cases e : j = k
    · simp only [if_pos e]; exact hs
    · simp only [if_neg e]; exact h1 j hj
  · rw [hG _ (by omega) (by omega)]; exact h3
  · rw [hG _ (by omega) (by omega)]; exact h4
  · by_cases e : j = k
    · subst e; simp only [if_pos]; exact hp
    · simp only [if_neg e]; exact (h6 j hj).mv (fun _ _ _ => rfl) (fun i _ _ => hG i (by omega) (by omega))
theorem okWorld.head {cs : Nat → ClassId} {ad : Nat → Nat} {g g' : Nat → va_E} {a : Nat} (h : okWorld cs ad g a) (hG : ∀ j, j ≠ a → g' j = g j) {x0 x1 x2 x3 x4 x5 : Int} (hx : 0 ≤ x5 ∧ x5 ≤ 6) (hp : g' a = oC 10 [.int (zI x0), .int (zI x1), .int (zI x2), .int (zI x3), .int (zI x4), .int (zI x5), .ref (ad (a + 1))]) : okWorld cs ad g' a := by
  obtain ⟨t, z, o, r, h1, h2, h3, ⟨u, h4, h5⟩, h6⟩ := h
  refine ⟨fun k => [x0, x1, x2, x3, x4, x5].getD k 0, z, o, r, h1, hx, hp, ⟨u, ?_, h5⟩, fun j hj => ?_⟩
  · rw [hG _ (by omega)]; exact h4
  · exact (h6 j hj).mv (fun _ _ _ => rfl) (fun i _ _ => hG i (by omega))

set_option maxRecDepth 100000 in
set_option maxHeartbeats 4000000 in
theorem c_floorMod (l : Launch) (D : va_G) (A : Nat → Prop) (cs : Nat → ClassId) (tt : Nat) (N : Nat) (ad : Nat → Nat) (g : Nat → va_E) (z : Int) (hz : -2147483648 ≤ z ∧ z ≤ 2147483647) (z1 : Int) (hz1 : 1 ≤ z1 ∧ z1 ≤ 2147483647) : zM l yJ9_floorMod_7cf53 cJ9_floorMod_7cf53 3 (some .int) ({ frames := 1, cells := 0, slots := 0, locals := 60 } : Room) D A cs tt N ad g [.int (zI (z)), .int (zI (z1))] (rI0 N ad fun r g' => (0 ≤ r ∧ r < z1) ∧ g = g') := by
  refine z_ofF pf_floorMod (Nat.le_of_ble_eq_true rfl) ?_
  intro p e s m below meth c C hr hlk hnm
  refine z_lv (lv' := [(0, .int (zI (z))), (1, .int (zI (z1)))]) [0, 1] rfl ?_
  refine z_iload_n C 0 dJ9_floorMod_7cf53_0 rfl ?_
  refine z_iload_n C 1 dJ9_floorMod_7cf53_1 rfl ?_
  refine z_irem C dJ9_floorMod_7cf53_2 (by omega) (by omega) (by omega) ?_
  obtain ⟨md, emd, hmd⟩ : ∃ md : Int, z.tmod z1 = md ∧ ((0 ≤ z → 0 ≤ md ∧ md < z1) ∧ (z < 0 → -z1 < md ∧ md ≤ 0)) := ⟨_, rfl, tmod_f (by omega)⟩
  rw [emd]
  refine z_istore_n (lv' := [(2, .int (zI (md))), (0, .int (zI (z))), (1, .int (zI (z1)))]) C dJ9_floorMod_7cf53_3 rfl (by decide) rfl ?_
  refine z_iload_n C 1 dJ9_floorMod_7cf53_4 rfl ?_
  refine z_iload_n C 2 dJ9_floorMod_7cf53_5 rfl ?_
  obtain ⟨xx, exx, hxx⟩ := zI_of (zI (z) ^^^ zI (z1))
  have hxn := xor_neg hz (by omega) exx hxx
  refine z_ixor (z := xx) C dJ9_floorMod_7cf53_6 exx ?_
  refine z_if_ge (tgt := 18) C dJ9_floorMod_7cf53_7 (by decide) (by omega) (fun hby1 => ?_) (fun hby1 => ?_)
  · refine z_iload_n C 0 dJ9_floorMod_7cf53_18 rfl ?_
    exact z_iret C hr hlk dJ9_floorMod_7cf53_19 (by decide) (by decide) ⟨md, rfl, rfl, rfl, by omega, rfl⟩
  · refine z_iload_n C 0 dJ9_floorMod_7cf53_10 rfl ?_
    refine z_if_eq (tgt := 18) C dJ9_floorMod_7cf53_11 (by decide) (by omega) (fun hby2 => ?_) (fun hby2 => ?_)
    · refine z_iload_n C 0 dJ9_floorMod_7cf53_18 rfl ?_
      exact z_iret C hr hlk dJ9_floorMod_7cf53_19 (by decide) (by decide) ⟨md, rfl, rfl, rfl, by omega, rfl⟩
    · refine z_iload_n C 0 dJ9_floorMod_7cf53_14 rfl ?_
      refine z_iload_n C 2 dJ9_floorMod_7cf53_15 rfl ?_
      refine z_iadd C dJ9_floorMod_7cf53_16 ?_
      exact z_iret C hr hlk dJ9_floorMod_7cf53_17 (by decide) (by decide) ⟨md + z1, rfl, rfl, rfl, by omega, rfl⟩

set_option maxRecDepth 100000 in
set_option maxHeartbeats 4000000 in
theorem c_X5_airAt (l : Launch) (D : va_G) (A : Nat → Prop) (cs : Nat → ClassId) (tt : Nat) (N : Nat) (ad : Nat → Nat) (g : Nat → va_E) (b : Nat) (hNb : b + 7 ≤ N) (sl ho ua : Int) (st op ai fa mu tb : Nat → Int) (hb : isPlan cs ad g b sl ho ua st op ai fa mu tb) (hho : 0 ≤ ho ∧ ho ≤ 24) (z : Int) (hz : -2147483648 ≤ z ∧ z ≤ 2147483647) : zM l yX5_airAt cX5_airAt 2 (some .int) ({ frames := 2, cells := 0, slots := 0, locals := 120 } : Room) D A cs tt N ad g [.ref (ad b), .int (zI (z))] (rI0 N ad fun r g' => (-2147483648 ≤ r ∧ r ≤ 2147483647) ∧ g = g') := by
  have hay1 : zAt ad (b) (ad b) := rfl
  have hay2 : zAt ad (b + 1) (ad (b + 1)) := rfl
  have hay3 : zAt ad (b + 2) (ad (b + 2)) := rfl
  have hay4 : zAt ad (b + 3) (ad (b + 3)) := rfl
  have hay5 : zAt ad (b + 4) (ad (b + 4)) := rfl
  have hay6 : zAt ad (b + 5) (ad (b + 5)) := rfl
  have hay7 : zAt ad (b + 6) (ad (b + 6)) := rfl
  refine z_of (by decide) (Nat.le_of_ble_eq_true rfl) ?_
  intro p e s m below meth c C hr hlk hnm
  refine z_lv (lv' := [(0, .ref (ad b)), (1, .int (zI (z)))]) [0, 1] rfl ?_
  refine z_aload_n C 0 dX5_airAt_0 rfl ?_
  refine z_get (v := .int (zI (ho))) C (by omega) hay1 hb.1 rfl inA_X5 1 (by decide) q_92 rfl rfl dX5_airAt_1 ?_
  refine z_if_ne (tgt := 14) C dX5_airAt_4 (by decide) (by omega) (fun hby8 => ?_) (fun hby8 => ?_)
  · refine z_aload_n C 0 dX5_airAt_14 rfl ?_
    refine z_get (v := .ref (ad (b + 3))) C (by omega) hay1 hb.1 rfl inA_X5 5 (by decide) q_104 rfl rfl dX5_airAt_15 ?_
    refine z_iload_n C 1 dX5_airAt_18 rfl ?_
    refine z_aload_n C 0 dX5_airAt_19 rfl ?_
    refine z_get (v := .int (zI (ho))) C (by omega) hay1 hb.1 rfl inA_X5 1 (by decide) q_92 rfl rfl dX5_airAt_20 ?_
    refine z_cS (As := [.int (zI (z)), .int (zI (ho))]) (rest := [.ref (ad (b + 3))]) C (c_floorMod l D A cs tt N ad _ (z) (by omega) (ho) (by omega)) ms_yJ9_floorMod_7cf53 q_443 hd_yJ9_floorMod_7cf53 (by decide) (Nat.le_of_ble_eq_true rfl) (by decide) dX5_airAt_23 rfl (kI0 fun vy9 gvy9 hvy9 => ?_)
    obtain ⟨hvy9, rfl⟩ := hvy9
    refine z_iald C (by omega) hay4 hb.2.2.2.1 ((vy9).toNat) (by omega) (by omega) (by decide) dX5_airAt_26 ?_
    obtain ⟨xy10, exy11, hxy12⟩ := zI_of (zI (ai ((vy9).toNat)))
    rw [exy11]
    exact z_iret C hr hlk dX5_airAt_27 (by decide) (by decide) ⟨xy10, rfl, rfl, rfl, by omega, rfl⟩
  · refine z_aload_n C 0 dX5_airAt_7 rfl ?_
    refine z_get (v := .int (zI (ua))) C (by omega) hay1 hb.1 rfl inA_X5 2 (by decide) q_95 rfl rfl dX5_airAt_8 ?_
    refine z_goto (tgt := 27) C dX5_airAt_11 (by decide) ?_
    obtain ⟨xy13, exy14, hxy15⟩ := zI_of (zI (ua))
    rw [exy14]
    exact z_iret C hr hlk dX5_airAt_27 (by decide) (by decide) ⟨xy13, rfl, rfl, rfl, by omega, rfl⟩

set_option maxRecDepth 100000 in
set_option maxHeartbeats 4000000 in
theorem c_X5_fallAt (l : Launch) (D : va_G) (A : Nat → Prop) (cs : Nat → ClassId) (tt : Nat) (N : Nat) (ad : Nat → Nat) (g : Nat → va_E) (b : Nat) (hNb : b + 7 ≤ N) (sl ho ua : Int) (st op ai fa mu tb : Nat → Int) (hb : isPlan cs ad g b sl ho ua st op ai fa mu tb) (hho : 0 ≤ ho ∧ ho ≤ 24) (z : Int) (hz : -2147483648 ≤ z ∧ z ≤ 2147483647) : zM l yX5_fallAt cX5_fallAt 2 (some .int) ({ frames := 2, cells := 0, slots := 0, locals := 120 } : Room) D A cs tt N ad g [.ref (ad b), .int (zI (z))] (rI0 N ad fun r g' => (-2147483648 ≤ r ∧ r ≤ 2147483647) ∧ g = g') := by
  have hay1 : zAt ad (b) (ad b) := rfl
  have hay2 : zAt ad (b + 1) (ad (b + 1)) := rfl
  have hay3 : zAt ad (b + 2) (ad (b + 2)) := rfl
  have hay4 : zAt ad (b + 3) (ad (b + 3)) := rfl
  have hay5 : zAt ad (b + 4) (ad (b + 4)) := rfl
  have hay6 : zAt ad (b + 5) (ad (b + 5)) := rfl
  have hay7 : zAt ad (b + 6) (ad (b + 6)) := rfl
  refine z_of (by decide) (Nat.le_of_ble_eq_true rfl) ?_
  intro p e s m below meth c C hr hlk hnm
  refine z_lv (lv' := [(0, .ref (ad b)), (1, .int (zI (z)))]) [0, 1] rfl ?_
  refine z_aload_n C 0 dX5_fallAt_0 rfl ?_
  refine z_get (v := .int (zI (ho))) C (by omega) hay1 hb.1 rfl inA_X5 1 (by decide) q_92 rfl rfl dX5_fallAt_1 ?_
  refine z_if_ne (tgt := 11) C dX5_fallAt_4 (by decide) (by omega) (fun hby8 => ?_) (fun hby8 => ?_)
  · refine z_aload_n C 0 dX5_fallAt_11 rfl ?_
    refine z_get (v := .ref (ad (b + 4))) C (by omega) hay1 hb.1 rfl inA_X5 6 (by decide) q_107 rfl rfl dX5_fallAt_12 ?_
    refine z_iload_n C 1 dX5_fallAt_15 rfl ?_
    refine z_aload_n C 0 dX5_fallAt_16 rfl ?_
    refine z_get (v := .int (zI (ho))) C (by omega) hay1 hb.1 rfl inA_X5 1 (by decide) q_92 rfl rfl dX5_fallAt_17 ?_
    refine z_cS (As := [.int (zI (z)), .int (zI (ho))]) (rest := [.ref (ad (b + 4))]) C (c_floorMod l D A cs tt N ad _ (z) (by omega) (ho) (by omega)) ms_yJ9_floorMod_7cf53 q_443 hd_yJ9_floorMod_7cf53 (by decide) (Nat.le_of_ble_eq_true rfl) (by decide) dX5_fallAt_20 rfl (kI0 fun vy9 gvy9 hvy9 => ?_)
    obtain ⟨hvy9, rfl⟩ := hvy9
    refine z_iald C (by omega) hay5 hb.2.2.2.2.1 ((vy9).toNat) (by omega) (by omega) (by decide) dX5_fallAt_23 ?_
    obtain ⟨xy10, exy11, hxy12⟩ := zI_of (zI (fa ((vy9).toNat)))
    rw [exy11]
    exact z_iret C hr hlk dX5_fallAt_24 (by decide) (by decide) ⟨xy10, rfl, rfl, rfl, by omega, rfl⟩
  · refine z_iconst (z := 0) C dX5_fallAt_7 rfl ?_
    refine z_goto (tgt := 24) C dX5_fallAt_8 (by decide) ?_
    exact z_iret C hr hlk dX5_fallAt_24 (by decide) (by decide) ⟨0, rfl, rfl, rfl, by omega, rfl⟩

set_option maxRecDepth 100000 in
set_option maxHeartbeats 4000000 in
theorem c_X5_muchAt (l : Launch) (D : va_G) (A : Nat → Prop) (cs : Nat → ClassId) (tt : Nat) (N : Nat) (ad : Nat → Nat) (g : Nat → va_E) (b : Nat) (hNb : b + 7 ≤ N) (sl ho ua : Int) (st op ai fa mu tb : Nat → Int) (hb : isPlan cs ad g b sl ho ua st op ai fa mu tb) (hho : 0 ≤ ho ∧ ho ≤ 24) (z : Int) (hz : -2147483648 ≤ z ∧ z ≤ 2147483647) : zM l yX5_muchAt cX5_muchAt 2 (some .int) ({ frames := 2, cells := 0, slots := 0, locals := 120 } : Room) D A cs tt N ad g [.ref (ad b), .int (zI (z))] (rI0 N ad fun r g' => (-2147483648 ≤ r ∧ r ≤ 2147483647) ∧ g = g') := by
  have hay1 : zAt ad (b) (ad b) := rfl
  have hay2 : zAt ad (b + 1) (ad (b + 1)) := rfl
  have hay3 : zAt ad (b + 2) (ad (b + 2)) := rfl
  have hay4 : zAt ad (b + 3) (ad (b + 3)) := rfl
  have hay5 : zAt ad (b + 4) (ad (b + 4)) := rfl
  have hay6 : zAt ad (b + 5) (ad (b + 5)) := rfl
  have hay7 : zAt ad (b + 6) (ad (b + 6)) := rfl
  refine z_of (by decide) (Nat.le_of_ble_eq_true rfl) ?_
  intro p e s m below meth c C hr hlk hnm
  refine z_lv (lv' := [(0, .ref (ad b)), (1, .int (zI (z)))]) [0, 1] rfl ?_
  refine z_aload_n C 0 dX5_muchAt_0 rfl ?_
  refine z_get (v := .int (zI (ho))) C (by omega) hay1 hb.1 rfl inA_X5 1 (by decide) q_92 rfl rfl dX5_muchAt_1 ?_
  refine z_if_ne (tgt := 11) C dX5_muchAt_4 (by decide) (by omega) (fun hby8 => ?_) (fun hby8 => ?_)
  · refine z_aload_n C 0 dX5_muchAt_11 rfl ?_
    refine z_get (v := .ref (ad (b + 5))) C (by omega) hay1 hb.1 rfl inA_X5 7 (by decide) q_110 rfl rfl dX5_muchAt_12 ?_
    refine z_iload_n C 1 dX5_muchAt_15 rfl ?_
    refine z_aload_n C 0 dX5_muchAt_16 rfl ?_
    refine z_get (v := .int (zI (ho))) C (by omega) hay1 hb.1 rfl inA_X5 1 (by decide) q_92 rfl rfl dX5_muchAt_17 ?_
    refine z_cS (As := [.int (zI (z)), .int (zI (ho))]) (rest := [.ref (ad (b + 5))]) C (c_floorMod l D A cs tt N ad _ (z) (by omega) (ho) (by omega)) ms_yJ9_floorMod_7cf53 q_443 hd_yJ9_floorMod_7cf53 (by decide) (Nat.le_of_ble_eq_true rfl) (by decide) dX5_muchAt_20 rfl (kI0 fun vy9 gvy9 hvy9 => ?_)
    obtain ⟨hvy9, rfl⟩ := hvy9
    refine z_iald C (by omega) hay6 hb.2.2.2.2.2.1 ((vy9).toNat) (by omega) (by omega) (by decide) dX5_muchAt_23 ?_
    obtain ⟨xy10, exy11, hxy12⟩ := zI_of (zI (mu ((vy9).toNat)))
    rw [exy11]
    exact z_iret C hr hlk dX5_muchAt_24 (by decide) (by decide) ⟨xy10, rfl, rfl, rfl, by omega, rfl⟩
  · refine z_iconst (z := 0) C dX5_muchAt_7 rfl ?_
    refine z_goto (tgt := 24) C dX5_muchAt_8 (by decide) ?_
    exact z_iret C hr hlk dX5_muchAt_24 (by decide) (by decide) ⟨0, rfl, rfl, rfl, by omega, rfl⟩

set_option maxRecDepth 100000 in
set_option maxHeartbeats 4000000 in
theorem c_X5_allSlopes (l : Launch) (D : va_G) (A : Nat → Prop) (cs : Nat → ClassId) (tt : Nat) (N : Nat) (ad : Nat → Nat) (g : Nat → va_E) (b : Nat) (hNb : b + 7 ≤ N) (sl ho ua : Int) (st op ai fa mu tb : Nat → Int) (hb : isPlan cs ad g b sl ho ua st op ai fa mu tb) : zM l yX5_allSlopes cX5_allSlopes 1 (some .int) ({ frames := 1, cells := 0, slots := 0, locals := 60 } : Room) D A cs tt N ad g [.ref (ad b)] (rI0 N ad fun r g' => (-2147483648 ≤ r ∧ r ≤ 2147483647) ∧ g = g') := by
  have hay1 : zAt ad (b) (ad b) := rfl
  have hay2 : zAt ad (b + 1) (ad (b + 1)) := rfl
  have hay3 : zAt ad (b + 2) (ad (b + 2)) := rfl
  have hay4 : zAt ad (b + 3) (ad (b + 3)) := rfl
  have hay5 : zAt ad (b + 4) (ad (b + 4)) := rfl
  have hay6 : zAt ad (b + 5) (ad (b + 5)) := rfl
  have hay7 : zAt ad (b + 6) (ad (b + 6)) := rfl
  refine z_of (by decide) (Nat.le_of_ble_eq_true rfl) ?_
  intro p e s m below meth c C hr hlk hnm
  refine z_lv (lv' := [(0, .ref (ad b))]) [0] rfl ?_
  refine z_iconst (z := 1) C dX5_allSlopes_0 rfl ?_
  refine z_aload_n C 0 dX5_allSlopes_1 rfl ?_
  refine z_get (v := .int (zI (sl))) C (by omega) hay1 hb.1 rfl inA_X5 0 (by decide) q_88 rfl rfl dX5_allSlopes_2 ?_
  obtain ⟨xy8, exy9, hxy10⟩ := zI_of (zI (1) <<< (zI (sl) &&& 31))
  refine z_ishl (z := xy8) C dX5_allSlopes_5 exy9 ?_
  refine z_iconst (z := 1) C dX5_allSlopes_6 rfl ?_
  refine z_isub C dX5_allSlopes_7 ?_
  obtain ⟨xy11, exy12, hxy13⟩ := zI_of (zI (xy8 - 1))
  rw [exy12]
  exact z_iret C hr hlk dX5_allSlopes_8 (by decide) (by decide) ⟨xy11, rfl, rfl, rfl, by omega, rfl⟩

set_option maxRecDepth 100000 in
set_option maxHeartbeats 4000000 in
theorem c_X8_layers (l : Launch) (D : va_G) (A : Nat → Prop) (cs : Nat → ClassId) (tt : Nat) (N : Nat) (ad : Nat → Nat) (g : Nat → va_E) (a : Nat) (hN : a + 10 ≤ N) (hw : okWorld cs ad g a) : zM l yX8_layers cX8_layers 3 (some .int) ({ frames := 1, cells := 0, slots := 0, locals := 60 } : Room) D A cs tt N ad g [.ref (ad a)] (rI0 N ad fun r g' => (-2147483648 ≤ r ∧ r ≤ 2147483647) ∧ g = g') := by
  obtain ⟨ut, uz, uo, ur, uz4, ut5, u1, ⟨uu, u2, u3⟩, u4⟩ := id hw
  have hay1 : zAt ad (a) (ad a) := rfl
  have hay2 : zAt ad (a + 1) (ad (a + 1)) := rfl
  refine z_of (by decide) (Nat.le_of_ble_eq_true rfl) ?_
  intro p e s m below meth c C hr hlk hnm
  refine z_lv (lv' := [(0, .ref (ad a))]) [0] rfl ?_
  have lp : ∀ (n9 : Nat) (al : Int) (i : Int) (g1 : Nat → va_E), (4 - i).toNat = n9 → (g1 = g) → (-2147483648 ≤ al ∧ al ≤ 2147483647) → (0 ≤ i ∧ i ≤ 4) → zV p l e ({ frames := 1, cells := 0, slots := 0, locals := 60 } : Room) s m ([.ref (ad a)] : List Value).toArray below meth c (MQ below (zPost D A (rI0 N ad fun r g' => (-2147483648 ≤ r ∧ r ≤ 2147483647) ∧ g = g')) ([.ref (ad a)] : List Value).toArray s ({ frames := 1, cells := 0, slots := 0, locals := 60 } : Room).cells ({ frames := 1, cells := 0, slots := 0, locals := 60 } : Room).slots A) D A 3 (N) ad g1 (0) (0) 4 [(2, .int (zI (i))), (1, .int (zI (al))), (0, .ref (ad a))] [] := by
    intro n9
    induction n9 using Nat.strongRecOn with
    | ind n9 ih =>
      intro al i g1 hm9 hg1 hv0 hv1
      subst hg1
      obtain ⟨ut, uz, uo, ur, uz4, ut5, u1, ⟨uu, u2, u3⟩, u4⟩ := id hw
      have hay3 : zAt ad (a) (ad a) := rfl
      have hay4 : zAt ad (a + 1) (ad (a + 1)) := rfl
      refine z_iload_n C 0 dX8_layers_4 rfl ?_
      refine z_aload_n C 2 dX8_layers_5 rfl ?_
      refine z_get (v := .ref (ad (a + 1))) C (lt_A0 hN rfl) hay3 u1 rfl inA_X8 6 (by decide) q_188 rfl rfl dX8_layers_6 ?_
      refine z_alen (z := 4) C (lt_A (c := 1) hN rfl) hay4 u2 3 rfl rfl dX8_layers_9 ?_
      refine z_icmp_ge (tgt := 31) C dX8_layers_10 (by decide) (by omega) (by omega) (fun hby5 => ?_) (fun hby5 => ?_)
      · refine z_iload_n C 1 dX8_layers_31 rfl ?_
        exact z_iret C hr hlk dX8_layers_32 (by decide) (by decide) ⟨al, rfl, rfl, rfl, by omega, rfl⟩
      · refine z_iload_n C 1 dX8_layers_13 rfl ?_
        refine z_aload_n C 2 dX8_layers_14 rfl ?_
        refine z_get (v := .ref (ad (a + 1))) C (lt_A0 hN rfl) hay3 u1 rfl inA_X8 6 (by decide) q_188 rfl rfl dX8_layers_15 ?_
        refine z_iload_n C 0 dX8_layers_18 rfl ?_
        refine z_aald C (lt_A (c := 1) hN rfl) hay4 u2 3 rfl ((i).toNat) (by omega) (by omega) (by decide) (u3 (i).toNat (by omega)) dX8_layers_19 ?_
        have hay6 : zAt ad (a + 2 + 2 * (i).toNat) (ad (a + 2 + 2 * (i).toNat)) := rfl
        have hay7 : zAt ad (a + 2 + 2 * (i).toNat + 1) (ad (a + 2 + 2 * (i).toNat + 1)) := rfl
        have hpy8 := u4 (i).toNat (by omega)
        have hqy9 := uz4 (i).toNat (by omega)
        refine z_get (v := .int (zI (uz (i).toNat))) C (by omega) hay6 hpy8.1 rfl inA_X3 0 (by decide) q_156 rfl rfl dX8_layers_20 ?_
        refine z_iadd C dX8_layers_23 ?_
        refine z_istore_n (lv' := [(1, .int (zI (al + (uz (i).toNat)))), (2, .int (zI (i))), (0, .ref (ad a))]) C dX8_layers_24 rfl (by decide) rfl ?_
        refine z_iinc (z := i + 1) (lv' := [(2, .int (zI (i + 1))), (1, .int (zI (al + (uz (i).toNat)))), (0, .ref (ad a))]) (j := 1) C dX8_layers_25 rfl rfl (by decide) rfl ?_
        refine z_goto (tgt := 4) C dX8_layers_28 (by decide) ?_
        obtain ⟨xy10, exy11, hxy12⟩ := zI_of (zI (al + (uz (i).toNat)))
        rw [exy11]
        refine z_lv (lv' := [(2, .int (zI (i + 1))), (1, .int (zI (xy10))), (0, .ref (ad a))]) [0, 1, 2] rfl ?_
        exact ih _ (by omega) (xy10) (i + 1) _ rfl rfl (by omega) (by omega)
  refine z_iconst (z := 0) C dX8_layers_0 rfl ?_
  refine z_istore_n (lv' := [(1, .int (zI (0))), (0, .ref (ad a))]) C dX8_layers_1 rfl (by decide) rfl ?_
  refine z_iconst (z := 0) C dX8_layers_2 rfl ?_
  refine z_istore_n (lv' := [(2, .int (zI (0))), (1, .int (zI (0))), (0, .ref (ad a))]) C dX8_layers_3 rfl (by decide) rfl ?_
  refine z_lv (lv' := [(2, .int (zI (0))), (1, .int (zI (0))), (0, .ref (ad a))]) [0, 1, 2] rfl ?_
  exact lp _ (0) (0) _ rfl rfl (by omega) (by omega)

set_option maxRecDepth 100000 in
set_option maxHeartbeats 4000000 in
theorem c_X8_runoff (l : Launch) (D : va_G) (A : Nat → Prop) (cs : Nat → ClassId) (tt : Nat) (N : Nat) (ad : Nat → Nat) (g : Nat → va_E) (a : Nat) (hN : a + 10 ≤ N) (hw : okWorld cs ad g a) : zM l yX8_runoff cX8_runoff 3 (some .int) ({ frames := 1, cells := 0, slots := 0, locals := 60 } : Room) D A cs tt N ad g [.ref (ad a)] (rI0 N ad fun r g' => (-2147483648 ≤ r ∧ r ≤ 2147483647) ∧ g = g') := by
  obtain ⟨ut, uz, uo, ur, uz4, ut5, u1, ⟨uu, u2, u3⟩, u4⟩ := id hw
  have hay1 : zAt ad (a) (ad a) := rfl
  have hay2 : zAt ad (a + 1) (ad (a + 1)) := rfl
  refine z_of (by decide) (Nat.le_of_ble_eq_true rfl) ?_
  intro p e s m below meth c C hr hlk hnm
  refine z_lv (lv' := [(0, .ref (ad a))]) [0] rfl ?_
  have lp : ∀ (n9 : Nat) (al : Int) (i : Int) (g1 : Nat → va_E), (4 - i).toNat = n9 → (g1 = g) → (-2147483648 ≤ al ∧ al ≤ 2147483647) → (0 ≤ i ∧ i ≤ 4) → zV p l e ({ frames := 1, cells := 0, slots := 0, locals := 60 } : Room) s m ([.ref (ad a)] : List Value).toArray below meth c (MQ below (zPost D A (rI0 N ad fun r g' => (-2147483648 ≤ r ∧ r ≤ 2147483647) ∧ g = g')) ([.ref (ad a)] : List Value).toArray s ({ frames := 1, cells := 0, slots := 0, locals := 60 } : Room).cells ({ frames := 1, cells := 0, slots := 0, locals := 60 } : Room).slots A) D A 3 (N) ad g1 (0) (0) 4 [(2, .int (zI (i))), (1, .int (zI (al))), (0, .ref (ad a))] [] := by
    intro n9
    induction n9 using Nat.strongRecOn with
    | ind n9 ih =>
      intro al i g1 hm9 hg1 hv0 hv1
      subst hg1
      obtain ⟨ut, uz, uo, ur, uz4, ut5, u1, ⟨uu, u2, u3⟩, u4⟩ := id hw
      have hay3 : zAt ad (a) (ad a) := rfl
      have hay4 : zAt ad (a + 1) (ad (a + 1)) := rfl
      refine z_iload_n C 0 dX8_runoff_4 rfl ?_
      refine z_aload_n C 2 dX8_runoff_5 rfl ?_
      refine z_get (v := .ref (ad (a + 1))) C (lt_A0 hN rfl) hay3 u1 rfl inA_X8 6 (by decide) q_188 rfl rfl dX8_runoff_6 ?_
      refine z_alen (z := 4) C (lt_A (c := 1) hN rfl) hay4 u2 3 rfl rfl dX8_runoff_9 ?_
      refine z_icmp_ge (tgt := 31) C dX8_runoff_10 (by decide) (by omega) (by omega) (fun hby5 => ?_) (fun hby5 => ?_)
      · refine z_iload_n C 1 dX8_runoff_31 rfl ?_
        exact z_iret C hr hlk dX8_runoff_32 (by decide) (by decide) ⟨al, rfl, rfl, rfl, by omega, rfl⟩
      · refine z_iload_n C 1 dX8_runoff_13 rfl ?_
        refine z_aload_n C 2 dX8_runoff_14 rfl ?_
        refine z_get (v := .ref (ad (a + 1))) C (lt_A0 hN rfl) hay3 u1 rfl inA_X8 6 (by decide) q_188 rfl rfl dX8_runoff_15 ?_
        refine z_iload_n C 0 dX8_runoff_18 rfl ?_
        refine z_aald C (lt_A (c := 1) hN rfl) hay4 u2 3 rfl ((i).toNat) (by omega) (by omega) (by decide) (u3 (i).toNat (by omega)) dX8_runoff_19 ?_
        have hay6 : zAt ad (a + 2 + 2 * (i).toNat) (ad (a + 2 + 2 * (i).toNat)) := rfl
        have hay7 : zAt ad (a + 2 + 2 * (i).toNat + 1) (ad (a + 2 + 2 * (i).toNat + 1)) := rfl
        have hpy8 := u4 (i).toNat (by omega)
        have hqy9 := uz4 (i).toNat (by omega)
        refine z_get (v := .int (zI (uo (i).toNat))) C (by omega) hay6 hpy8.1 rfl inA_X3 1 (by decide) q_160 rfl rfl dX8_runoff_20 ?_
        refine z_iadd C dX8_runoff_23 ?_
        refine z_istore_n (lv' := [(1, .int (zI (al + (uo (i).toNat)))), (2, .int (zI (i))), (0, .ref (ad a))]) C dX8_runoff_24 rfl (by decide) rfl ?_
        refine z_iinc (z := i + 1) (lv' := [(2, .int (zI (i + 1))), (1, .int (zI (al + (uo (i).toNat)))), (0, .ref (ad a))]) (j := 1) C dX8_runoff_25 rfl rfl (by decide) rfl ?_
        refine z_goto (tgt := 4) C dX8_runoff_28 (by decide) ?_
        obtain ⟨xy10, exy11, hxy12⟩ := zI_of (zI (al + (uo (i).toNat)))
        rw [exy11]
        refine z_lv (lv' := [(2, .int (zI (i + 1))), (1, .int (zI (xy10))), (0, .ref (ad a))]) [0, 1, 2] rfl ?_
        exact ih _ (by omega) (xy10) (i + 1) _ rfl rfl (by omega) (by omega)
  refine z_iconst (z := 0) C dX8_runoff_0 rfl ?_
  refine z_istore_n (lv' := [(1, .int (zI (0))), (0, .ref (ad a))]) C dX8_runoff_1 rfl (by decide) rfl ?_
  refine z_iconst (z := 0) C dX8_runoff_2 rfl ?_
  refine z_istore_n (lv' := [(2, .int (zI (0))), (1, .int (zI (0))), (0, .ref (ad a))]) C dX8_runoff_3 rfl (by decide) rfl ?_
  refine z_lv (lv' := [(2, .int (zI (0))), (1, .int (zI (0))), (0, .ref (ad a))]) [0, 1, 2] rfl ?_
  exact lp _ (0) (0) _ rfl rfl (by omega) (by omega)

set_option maxRecDepth 100000 in
set_option maxHeartbeats 4000000 in
theorem c_X8_sum (l : Launch) (D : va_G) (A : Nat → Prop) (cs : Nat → ClassId) (tt : Nat) (N : Nat) (ad : Nat → Nat) (g : Nat → va_E) (a : Nat) (hN : a + 10 ≤ N) (hw : okWorld cs ad g a) (z : Int) (hzr : 0 ≤ z ∧ z ≤ 72) : zM l yX8_sum cX8_sum 4 (some .int) ({ frames := 2, cells := 0, slots := 0, locals := 120 } : Room) D A cs tt N ad g [.ref (ad a), .int (zI (z))] (rI0 N ad fun r g' => (-2147483648 ≤ r ∧ r ≤ 2147483647) ∧ g = g') := by
  obtain ⟨ut, uz, uo, ur, uz4, ut5, u1, ⟨uu, u2, u3⟩, u4⟩ := id hw
  have hay1 : zAt ad (a) (ad a) := rfl
  have hay2 : zAt ad (a + 1) (ad (a + 1)) := rfl
  refine z_of (by decide) (Nat.le_of_ble_eq_true rfl) ?_
  intro p e s m below meth c C hr hlk hnm
  refine z_lv (lv' := [(0, .ref (ad a)), (1, .int (zI (z)))]) [0, 1] rfl ?_
  have lp : ∀ (n9 : Nat) (al : Int) (i : Int) (g1 : Nat → va_E), (4 - i).toNat = n9 → (g1 = g) → (-2147483648 ≤ al ∧ al ≤ 2147483647) → (0 ≤ i ∧ i ≤ 4) → zV p l e ({ frames := 2, cells := 0, slots := 0, locals := 120 } : Room) s m ([.ref (ad a), .int (zI (z))] : List Value).toArray below meth c (MQ below (zPost D A (rI0 N ad fun r g' => (-2147483648 ≤ r ∧ r ≤ 2147483647) ∧ g = g')) ([.ref (ad a), .int (zI (z))] : List Value).toArray s ({ frames := 2, cells := 0, slots := 0, locals := 120 } : Room).cells ({ frames := 2, cells := 0, slots := 0, locals := 120 } : Room).slots A) D A 4 (N) ad g1 (0) (0) 4 [(3, .int (zI (i))), (2, .int (zI (al))), (0, .ref (ad a)), (1, .int (zI (z)))] [] := by
    intro n9
    induction n9 using Nat.strongRecOn with
    | ind n9 ih =>
      intro al i g1 hm9 hg1 hv0 hv1
      subst hg1
      obtain ⟨ut, uz, uo, ur, uz4, ut5, u1, ⟨uu, u2, u3⟩, u4⟩ := id hw
      have hay3 : zAt ad (a) (ad a) := rfl
      have hay4 : zAt ad (a + 1) (ad (a + 1)) := rfl
      refine z_iload_n C 0 dX8_sum_4 rfl ?_
      refine z_aload_n C 2 dX8_sum_5 rfl ?_
      refine z_get (v := .ref (ad (a + 1))) C (lt_A0 hN rfl) hay3 u1 rfl inA_X8 6 (by decide) q_188 rfl rfl dX8_sum_6 ?_
      refine z_alen (z := 4) C (lt_A (c := 1) hN rfl) hay4 u2 3 rfl rfl dX8_sum_9 ?_
      refine z_icmp_ge (tgt := 32) C dX8_sum_10 (by decide) (by omega) (by omega) (fun hby5 => ?_) (fun hby5 => ?_)
      · refine z_iload_n C 1 dX8_sum_32 rfl ?_
        exact z_iret C hr hlk dX8_sum_33 (by decide) (by decide) ⟨al, rfl, rfl, rfl, by omega, rfl⟩
      · refine z_iload_n C 1 dX8_sum_13 rfl ?_
        refine z_aload_n C 2 dX8_sum_14 rfl ?_
        refine z_get (v := .ref (ad (a + 1))) C (lt_A0 hN rfl) hay3 u1 rfl inA_X8 6 (by decide) q_188 rfl rfl dX8_sum_15 ?_
        refine z_iload_n C 0 dX8_sum_18 rfl ?_
        refine z_aald C (lt_A (c := 1) hN rfl) hay4 u2 3 rfl ((i).toNat) (by omega) (by omega) (by decide) (u3 (i).toNat (by omega)) dX8_sum_19 ?_
        have hay6 : zAt ad (a + 2 + 2 * (i).toNat) (ad (a + 2 + 2 * (i).toNat)) := rfl
        have hay7 : zAt ad (a + 2 + 2 * (i).toNat + 1) (ad (a + 2 + 2 * (i).toNat + 1)) := rfl
        have hpy8 := u4 (i).toNat (by omega)
        have hqy9 := uz4 (i).toNat (by omega)
        refine z_iload_n C 3 dX8_sum_20 rfl ?_
        refine z_cV (As := [.int (zI (z))]) (rest := [.int (zI (al))]) (ci := 5) C (c_X3_sum l D A cs tt N ad _ (a + 2 + 2 * (i).toNat) (by omega) _ _ _ (by omega) ⟨hpy8.1, hpy8.2⟩  (z) (by omega)) (by omega) hay6 hpy8.1 rfl rfl mv_yX3_sum q_890 hd_yX3_sum (by decide) (Nat.le_of_ble_eq_true rfl) (by decide) dX8_sum_21 rfl (kI0 fun vy10 gvy10 hvy10 => ?_)
        obtain ⟨hvy10, rfl⟩ := hvy10
        refine z_iadd C dX8_sum_24 ?_
        refine z_istore_n (lv' := [(2, .int (zI (al + vy10))), (3, .int (zI (i))), (0, .ref (ad a)), (1, .int (zI (z)))]) C dX8_sum_25 rfl (by decide) rfl ?_
        refine z_iinc (z := i + 1) (lv' := [(3, .int (zI (i + 1))), (2, .int (zI (al + vy10))), (0, .ref (ad a)), (1, .int (zI (z)))]) (j := 1) C dX8_sum_26 rfl rfl (by decide) rfl ?_
        refine z_goto (tgt := 4) C dX8_sum_29 (by decide) ?_
        obtain ⟨xy11, exy12, hxy13⟩ := zI_of (zI (al + vy10))
        rw [exy12]
        refine z_lv (lv' := [(3, .int (zI (i + 1))), (2, .int (zI (xy11))), (0, .ref (ad a)), (1, .int (zI (z)))]) [0, 1, 2, 3] rfl ?_
        exact ih _ (by omega) (xy11) (i + 1) _ rfl rfl (by omega) (by omega)
  refine z_iconst (z := 0) C dX8_sum_0 rfl ?_
  refine z_istore_n (lv' := [(2, .int (zI (0))), (0, .ref (ad a)), (1, .int (zI (z)))]) C dX8_sum_1 rfl (by decide) rfl ?_
  refine z_iconst (z := 0) C dX8_sum_2 rfl ?_
  refine z_istore_n (lv' := [(3, .int (zI (0))), (2, .int (zI (0))), (0, .ref (ad a)), (1, .int (zI (z)))]) C dX8_sum_3 rfl (by decide) rfl ?_
  refine z_lv (lv' := [(3, .int (zI (0))), (2, .int (zI (0))), (0, .ref (ad a)), (1, .int (zI (z)))]) [0, 1, 2, 3] rfl ?_
  exact lp _ (0) (0) _ rfl rfl (by omega) (by omega)

set_option maxRecDepth 100000 in
set_option maxHeartbeats 4000000 in
theorem c_X8_has (l : Launch) (D : va_G) (A : Nat → Prop) (cs : Nat → ClassId) (tt : Nat) (N : Nat) (ad : Nat → Nat) (g : Nat → va_E) (a : Nat) (hN : a + 10 ≤ N) (hw : okWorld cs ad g a) (z : Int) (hz : -2147483648 ≤ z ∧ z ≤ 2147483647) : zM l yX8_has cX8_has 3 (some .boolean) ({ frames := 2, cells := 0, slots := 0, locals := 120 } : Room) D A cs tt N ad g [.ref (ad a), .int (zI (z))] (rI0 N ad fun r g' => (0 ≤ r ∧ r ≤ 1) ∧ g = g') := by
  obtain ⟨ut, uz, uo, ur, uz4, ut5, u1, ⟨uu, u2, u3⟩, u4⟩ := id hw
  have hay1 : zAt ad (a) (ad a) := rfl
  have hay2 : zAt ad (a + 1) (ad (a + 1)) := rfl
  refine z_of (by decide) (Nat.le_of_ble_eq_true rfl) ?_
  intro p e s m below meth c C hr hlk hnm
  refine z_lv (lv' := [(0, .ref (ad a)), (1, .int (zI (z)))]) [0, 1] rfl ?_
  have lp : ∀ (n9 : Nat) (i : Int) (g1 : Nat → va_E), (4 - i).toNat = n9 → (g1 = g) → (0 ≤ i ∧ i ≤ 4) → zV p l e ({ frames := 2, cells := 0, slots := 0, locals := 120 } : Room) s m ([.ref (ad a), .int (zI (z))] : List Value).toArray below meth c (MQ below (zPost D A (rI0 N ad fun r g' => (0 ≤ r ∧ r ≤ 1) ∧ g = g')) ([.ref (ad a), .int (zI (z))] : List Value).toArray s ({ frames := 2, cells := 0, slots := 0, locals := 120 } : Room).cells ({ frames := 2, cells := 0, slots := 0, locals := 120 } : Room).slots A) D A 3 (N) ad g1 (0) (0) 2 [(2, .int (zI (i))), (0, .ref (ad a)), (1, .int (zI (z)))] [] := by
    intro n9
    induction n9 using Nat.strongRecOn with
    | ind n9 ih =>
      intro i g1 hm9 hg1 hv0
      subst hg1
      obtain ⟨ut, uz, uo, ur, uz4, ut5, u1, ⟨uu, u2, u3⟩, u4⟩ := id hw
      have hay3 : zAt ad (a) (ad a) := rfl
      have hay4 : zAt ad (a + 1) (ad (a + 1)) := rfl
      refine z_iload_n C 0 dX8_has_2 rfl ?_
      refine z_aload_n C 1 dX8_has_3 rfl ?_
      refine z_get (v := .ref (ad (a + 1))) C (lt_A0 hN rfl) hay3 u1 rfl inA_X8 6 (by decide) q_188 rfl rfl dX8_has_4 ?_
      refine z_alen (z := 4) C (lt_A (c := 1) hN rfl) hay4 u2 3 rfl rfl dX8_has_7 ?_
      refine z_icmp_ge (tgt := 32) C dX8_has_8 (by decide) (by omega) (by omega) (fun hby5 => ?_) (fun hby5 => ?_)
      · refine z_iconst (z := 0) C dX8_has_32 rfl ?_
        exact z_zret C hr hlk dX8_has_33 (by decide) (by decide) (by decide) ⟨0, rfl, rfl, rfl, by omega, rfl⟩
      · refine z_aload_n C 1 dX8_has_11 rfl ?_
        refine z_get (v := .ref (ad (a + 1))) C (lt_A0 hN rfl) hay3 u1 rfl inA_X8 6 (by decide) q_188 rfl rfl dX8_has_12 ?_
        refine z_iload_n C 0 dX8_has_15 rfl ?_
        refine z_aald C (lt_A (c := 1) hN rfl) hay4 u2 3 rfl ((i).toNat) (by omega) (by omega) (by decide) (u3 (i).toNat (by omega)) dX8_has_16 ?_
        have hay6 : zAt ad (a + 2 + 2 * (i).toNat) (ad (a + 2 + 2 * (i).toNat)) := rfl
        have hay7 : zAt ad (a + 2 + 2 * (i).toNat + 1) (ad (a + 2 + 2 * (i).toNat + 1)) := rfl
        have hpy8 := u4 (i).toNat (by omega)
        have hqy9 := uz4 (i).toNat (by omega)
        refine z_iload_n C 2 dX8_has_17 rfl ?_
        refine z_cV (As := [.int (zI (z))]) (rest := []) (ci := 5) C (c_X3_has l D A cs tt N ad _ (a + 2 + 2 * (i).toNat) (by omega) _ _ _ (by omega) ⟨hpy8.1, hpy8.2⟩  (z) (by omega)) (by omega) hay6 hpy8.1 rfl rfl mv_yX3_has q_1252 hd_yX3_has (by decide) (Nat.le_of_ble_eq_true rfl) (by decide) dX8_has_18 rfl (kI0 fun vy10 gvy10 hvy10 => ?_)
        obtain ⟨hvy10, rfl⟩ := hvy10
        refine z_if_eq (tgt := 26) C dX8_has_21 (by decide) (by omega) (fun hby11 => ?_) (fun hby11 => ?_)
        · refine z_iinc (z := i + 1) (lv' := [(2, .int (zI (i + 1))), (0, .ref (ad a)), (1, .int (zI (z)))]) (j := 0) C dX8_has_26 rfl rfl (by decide) rfl ?_
          refine z_goto (tgt := 2) C dX8_has_29 (by decide) ?_
          refine z_lv (lv' := [(2, .int (zI (i + 1))), (0, .ref (ad a)), (1, .int (zI (z)))]) [0, 1, 2] rfl ?_
          exact ih _ (by omega) (i + 1) _ rfl rfl (by omega)
        · refine z_iconst (z := 1) C dX8_has_24 rfl ?_
          exact z_zret C hr hlk dX8_has_25 (by decide) (by decide) (by decide) ⟨1, rfl, rfl, rfl, by omega, rfl⟩
  refine z_iconst (z := 0) C dX8_has_0 rfl ?_
  refine z_istore_n (lv' := [(2, .int (zI (0))), (0, .ref (ad a)), (1, .int (zI (z)))]) C dX8_has_1 rfl (by decide) rfl ?_
  refine z_lv (lv' := [(2, .int (zI (0))), (0, .ref (ad a)), (1, .int (zI (z)))]) [0, 1, 2] rfl ?_
  exact lp _ (0) _ rfl rfl (by omega)
end
section
-- 26.words.lean.txt
-- words of worldm
theorem q_103 : (Jvm.Cond.fieldLink "SnowRecorder$World" (76 : Nat) "SnowRecorder$Plan" "open" "[I") ∈ AW := AW_m1 103 (by decide +kernel) (by decide +kernel)
theorem q_165 : (Jvm.Cond.fieldLink "SnowRecorder$World" (120 : Nat) "SnowRecorder$Pack" "cells" "[I") ∈ AW := AW_m1 165 (by decide +kernel) (by decide +kernel)
theorem q_424 : (Jvm.Cond.methodLink "SnowRecorder$World" (40 : Nat) ({ cls := "SnowRecorder$Pack", name := "copyFrom", desc := "(LSnowRecorder$Pack;)V" } : Jvm.MethodName)) ∈ AW := AW_m2 184 (by decide +kernel) (by decide +kernel)
theorem q_425 : (Jvm.Cond.instanceMethod ({ cls := "SnowRecorder$Pack", name := "copyFrom", desc := "(LSnowRecorder$Pack;)V" } : Jvm.MethodName)) ∈ AW := AW_m2 185 (by decide +kernel) (by decide +kernel)
theorem q_426 : (Jvm.Cond.selects "SnowRecorder$Pack" ({ cls := "SnowRecorder$Pack", name := "copyFrom", desc := "(LSnowRecorder$Pack;)V" } : Jvm.MethodName) ({ cls := "SnowRecorder$Pack", name := "copyFrom", desc := "(LSnowRecorder$Pack;)V" } : Jvm.MethodName)) ∈ AW := AW_m2 186 (by decide +kernel) (by decide +kernel)
theorem q_427 : (Jvm.Cond.code ({ cls := "SnowRecorder$Pack", name := "copyFrom", desc := "(LSnowRecorder$Pack;)V" } : Jvm.MethodName) prog_5_method_3_code (2 : Nat) (Option.none : Option Jvm.ClassFile.FieldType)) ∈ AW := AW_m2 187 (by decide +kernel) (by decide +kernel)
theorem q_439 : (Jvm.Cond.methodLink "SnowRecorder$World" (58 : Nat) ({ cls := "SnowRecorder$Plan", name := "airAt", desc := "(I)I" } : Jvm.MethodName)) ∈ AW := AW_m2 199 (by decide +kernel) (by decide +kernel)
theorem q_440 : (Jvm.Cond.instanceMethod ({ cls := "SnowRecorder$Plan", name := "airAt", desc := "(I)I" } : Jvm.MethodName)) ∈ AW := AW_m2 200 (by decide +kernel) (by decide +kernel)
theorem q_441 : (Jvm.Cond.selects "SnowRecorder$Plan" ({ cls := "SnowRecorder$Plan", name := "airAt", desc := "(I)I" } : Jvm.MethodName) ({ cls := "SnowRecorder$Plan", name := "airAt", desc := "(I)I" } : Jvm.MethodName)) ∈ AW := AW_m2 201 (by decide +kernel) (by decide +kernel)
theorem q_442 : (Jvm.Cond.code ({ cls := "SnowRecorder$Plan", name := "airAt", desc := "(I)I" } : Jvm.MethodName) prog_7_method_6_code (2 : Nat) (Option.some Jvm.ClassFile.FieldType.int)) ∈ AW := AW_m2 202 (by decide +kernel) (by decide +kernel)
theorem q_446 : (Jvm.Cond.methodLink "SnowRecorder$World" (63 : Nat) ({ cls := "SnowRecorder$Plan", name := "fallAt", desc := "(I)I" } : Jvm.MethodName)) ∈ AW := AW_m2 206 (by decide +kernel) (by decide +kernel)
theorem q_447 : (Jvm.Cond.instanceMethod ({ cls := "SnowRecorder$Plan", name := "fallAt", desc := "(I)I" } : Jvm.MethodName)) ∈ AW := AW_m2 207 (by decide +kernel) (by decide +kernel)
theorem q_448 : (Jvm.Cond.selects "SnowRecorder$Plan" ({ cls := "SnowRecorder$Plan", name := "fallAt", desc := "(I)I" } : Jvm.MethodName) ({ cls := "SnowRecorder$Plan", name := "fallAt", desc := "(I)I" } : Jvm.MethodName)) ∈ AW := AW_m2 208 (by decide +kernel) (by decide +kernel)
theorem q_449 : (Jvm.Cond.code ({ cls := "SnowRecorder$Plan", name := "fallAt", desc := "(I)I" } : Jvm.MethodName) prog_7_method_7_code (2 : Nat) (Option.some Jvm.ClassFile.FieldType.int)) ∈ AW := AW_m2 209 (by decide +kernel) (by decide +kernel)
theorem q_450 : (Jvm.Cond.methodLink "SnowRecorder$World" (66 : Nat) ({ cls := "SnowRecorder$Plan", name := "muchAt", desc := "(I)I" } : Jvm.MethodName)) ∈ AW := AW_m2 210 (by decide +kernel) (by decide +kernel)
theorem q_451 : (Jvm.Cond.instanceMethod ({ cls := "SnowRecorder$Plan", name := "muchAt", desc := "(I)I" } : Jvm.MethodName)) ∈ AW := AW_m2 211 (by decide +kernel) (by decide +kernel)
theorem q_452 : (Jvm.Cond.selects "SnowRecorder$Plan" ({ cls := "SnowRecorder$Plan", name := "muchAt", desc := "(I)I" } : Jvm.MethodName) ({ cls := "SnowRecorder$Plan", name := "muchAt", desc := "(I)I" } : Jvm.MethodName)) ∈ AW := AW_m2 212 (by decide +kernel) (by decide +kernel)
theorem q_453 : (Jvm.Cond.code ({ cls := "SnowRecorder$Plan", name := "muchAt", desc := "(I)I" } : Jvm.MethodName) prog_7_method_8_code (2 : Nat) (Option.some Jvm.ClassFile.FieldType.int)) ∈ AW := AW_m2 213 (by decide +kernel) (by decide +kernel)
theorem q_454 : (Jvm.Cond.methodLink "SnowRecorder$World" (72 : Nat) ({ cls := "SnowRecorder$World", name := "fallOn", desc := "(IIII)V" } : Jvm.MethodName)) ∈ AW := AW_m2 214 (by decide +kernel) (by decide +kernel)
theorem q_455 : (Jvm.Cond.instanceMethod ({ cls := "SnowRecorder$World", name := "fallOn", desc := "(IIII)V" } : Jvm.MethodName)) ∈ AW := AW_m2 215 (by decide +kernel) (by decide +kernel)
theorem q_456 : (Jvm.Cond.selects "SnowRecorder$World" ({ cls := "SnowRecorder$World", name := "fallOn", desc := "(IIII)V" } : Jvm.MethodName) ({ cls := "SnowRecorder$World", name := "fallOn", desc := "(IIII)V" } : Jvm.MethodName)) ∈ AW := AW_m2 216 (by decide +kernel) (by decide +kernel)
theorem q_457 : (Jvm.Cond.code ({ cls := "SnowRecorder$World", name := "fallOn", desc := "(IIII)V" } : Jvm.MethodName) prog_10_method_9_code (8 : Nat) (Option.none : Option Jvm.ClassFile.FieldType)) ∈ AW := AW_m2 217 (by decide +kernel) (by decide +kernel)
theorem q_458 : (Jvm.Cond.methodLink "SnowRecorder$World" (100 : Nat) ({ cls := "SnowRecorder$Pack", name := "wet", desc := "(II)V" } : Jvm.MethodName)) ∈ AW := AW_m2 218 (by decide +kernel) (by decide +kernel)
theorem q_462 : (Jvm.Cond.methodLink "SnowRecorder$World" (104 : Nat) ({ cls := "SnowRecorder$Pack", name := "joinLowest", desc := "()V" } : Jvm.MethodName)) ∈ AW := AW_m2 222 (by decide +kernel) (by decide +kernel)
theorem q_463 : (Jvm.Cond.instanceMethod ({ cls := "SnowRecorder$Pack", name := "joinLowest", desc := "()V" } : Jvm.MethodName)) ∈ AW := AW_m2 223 (by decide +kernel) (by decide +kernel)
theorem q_464 : (Jvm.Cond.selects "SnowRecorder$Pack" ({ cls := "SnowRecorder$Pack", name := "joinLowest", desc := "()V" } : Jvm.MethodName) ({ cls := "SnowRecorder$Pack", name := "joinLowest", desc := "()V" } : Jvm.MethodName)) ∈ AW := AW_m2 224 (by decide +kernel) (by decide +kernel)
theorem q_465 : (Jvm.Cond.code ({ cls := "SnowRecorder$Pack", name := "joinLowest", desc := "()V" } : Jvm.MethodName) prog_5_method_11_code (8 : Nat) (Option.none : Option Jvm.ClassFile.FieldType)) ∈ AW := AW_m2 225 (by decide +kernel) (by decide +kernel)
theorem q_472 : (Jvm.Cond.methodLink "SnowRecorder$World" (107 : Nat) ({ cls := "java/lang/Math", name := "min", desc := "(II)I" } : Jvm.MethodName)) ∈ AW := AW_m2 232 (by decide +kernel) (by decide +kernel)
theorem q_475 : (Jvm.Cond.methodLink "SnowRecorder$World" (113 : Nat) ({ cls := "SnowRecorder$Pack", name := "add", desc := "(IIIIII)V" } : Jvm.MethodName)) ∈ AW := AW_m2 235 (by decide +kernel) (by decide +kernel)
theorem q_476 : (Jvm.Cond.instanceMethod ({ cls := "SnowRecorder$Pack", name := "add", desc := "(IIIIII)V" } : Jvm.MethodName)) ∈ AW := AW_m2 236 (by decide +kernel) (by decide +kernel)
theorem q_477 : (Jvm.Cond.selects "SnowRecorder$Pack" ({ cls := "SnowRecorder$Pack", name := "add", desc := "(IIIIII)V" } : Jvm.MethodName) ({ cls := "SnowRecorder$Pack", name := "add", desc := "(IIIIII)V" } : Jvm.MethodName)) ∈ AW := AW_m2 237 (by decide +kernel) (by decide +kernel)
theorem q_478 : (Jvm.Cond.code ({ cls := "SnowRecorder$Pack", name := "add", desc := "(IIIIII)V" } : Jvm.MethodName) prog_5_method_10_code (7 : Nat) (Option.none : Option Jvm.ClassFile.FieldType)) ∈ AW := AW_m2 238 (by decide +kernel) (by decide +kernel)
theorem q_479 : (Jvm.Cond.methodLink "SnowRecorder$World" (80 : Nat) ({ cls := "SnowRecorder$Pack", name := "melt", desc := "(I)V" } : Jvm.MethodName)) ∈ AW := AW_m2 239 (by decide +kernel) (by decide +kernel)
theorem q_480 : (Jvm.Cond.instanceMethod ({ cls := "SnowRecorder$Pack", name := "melt", desc := "(I)V" } : Jvm.MethodName)) ∈ AW := AW_m3 0 (by decide +kernel) (by decide +kernel)
theorem q_481 : (Jvm.Cond.selects "SnowRecorder$Pack" ({ cls := "SnowRecorder$Pack", name := "melt", desc := "(I)V" } : Jvm.MethodName) ({ cls := "SnowRecorder$Pack", name := "melt", desc := "(I)V" } : Jvm.MethodName)) ∈ AW := AW_m3 1 (by decide +kernel) (by decide +kernel)
theorem q_482 : (Jvm.Cond.code ({ cls := "SnowRecorder$Pack", name := "melt", desc := "(I)V" } : Jvm.MethodName) prog_5_method_13_code (7 : Nat) (Option.none : Option Jvm.ClassFile.FieldType)) ∈ AW := AW_m3 2 (by decide +kernel) (by decide +kernel)
theorem q_485 : (Jvm.Cond.methodLink "SnowRecorder$World" (84 : Nat) ({ cls := "SnowRecorder$Pack", name := "cool", desc := "(I)V" } : Jvm.MethodName)) ∈ AW := AW_m3 5 (by decide +kernel) (by decide +kernel)
theorem q_486 : (Jvm.Cond.instanceMethod ({ cls := "SnowRecorder$Pack", name := "cool", desc := "(I)V" } : Jvm.MethodName)) ∈ AW := AW_m3 6 (by decide +kernel) (by decide +kernel)
theorem q_487 : (Jvm.Cond.selects "SnowRecorder$Pack" ({ cls := "SnowRecorder$Pack", name := "cool", desc := "(I)V" } : Jvm.MethodName) ({ cls := "SnowRecorder$Pack", name := "cool", desc := "(I)V" } : Jvm.MethodName)) ∈ AW := AW_m3 7 (by decide +kernel) (by decide +kernel)
theorem q_488 : (Jvm.Cond.code ({ cls := "SnowRecorder$Pack", name := "cool", desc := "(I)V" } : Jvm.MethodName) prog_5_method_14_code (3 : Nat) (Option.none : Option Jvm.ClassFile.FieldType)) ∈ AW := AW_m3 8 (by decide +kernel) (by decide +kernel)
theorem q_489 : (Jvm.Cond.methodLink "SnowRecorder$World" (87 : Nat) ({ cls := "SnowRecorder$Pack", name := "evenTemps", desc := "()V" } : Jvm.MethodName)) ∈ AW := AW_m3 9 (by decide +kernel) (by decide +kernel)
theorem q_490 : (Jvm.Cond.instanceMethod ({ cls := "SnowRecorder$Pack", name := "evenTemps", desc := "()V" } : Jvm.MethodName)) ∈ AW := AW_m3 10 (by decide +kernel) (by decide +kernel)
theorem q_491 : (Jvm.Cond.selects "SnowRecorder$Pack" ({ cls := "SnowRecorder$Pack", name := "evenTemps", desc := "()V" } : Jvm.MethodName) ({ cls := "SnowRecorder$Pack", name := "evenTemps", desc := "()V" } : Jvm.MethodName)) ∈ AW := AW_m3 11 (by decide +kernel) (by decide +kernel)
theorem q_492 : (Jvm.Cond.code ({ cls := "SnowRecorder$Pack", name := "evenTemps", desc := "()V" } : Jvm.MethodName) prog_5_method_15_code (5 : Nat) (Option.none : Option Jvm.ClassFile.FieldType)) ∈ AW := AW_m3 12 (by decide +kernel) (by decide +kernel)
theorem q_493 : (Jvm.Cond.methodLink "SnowRecorder$World" (90 : Nat) ({ cls := "SnowRecorder$Pack", name := "freezeAndSink", desc := "(LSnowRecorder$Plan;)V" } : Jvm.MethodName)) ∈ AW := AW_m3 13 (by decide +kernel) (by decide +kernel)
theorem q_494 : (Jvm.Cond.instanceMethod ({ cls := "SnowRecorder$Pack", name := "freezeAndSink", desc := "(LSnowRecorder$Plan;)V" } : Jvm.MethodName)) ∈ AW := AW_m3 14 (by decide +kernel) (by decide +kernel)
theorem q_495 : (Jvm.Cond.selects "SnowRecorder$Pack" ({ cls := "SnowRecorder$Pack", name := "freezeAndSink", desc := "(LSnowRecorder$Plan;)V" } : Jvm.MethodName) ({ cls := "SnowRecorder$Pack", name := "freezeAndSink", desc := "(LSnowRecorder$Plan;)V" } : Jvm.MethodName)) ∈ AW := AW_m3 15 (by decide +kernel) (by decide +kernel)
theorem q_496 : (Jvm.Cond.code ({ cls := "SnowRecorder$Pack", name := "freezeAndSink", desc := "(LSnowRecorder$Plan;)V" } : Jvm.MethodName) prog_5_method_16_code (5 : Nat) (Option.none : Option Jvm.ClassFile.FieldType)) ∈ AW := AW_m3 16 (by decide +kernel) (by decide +kernel)
theorem q_506 : (Jvm.Cond.methodLink "SnowRecorder$World" (94 : Nat) ({ cls := "SnowRecorder$Pack", name := "press", desc := "(LSnowRecorder$Plan;)V" } : Jvm.MethodName)) ∈ AW := AW_m3 26 (by decide +kernel) (by decide +kernel)
theorem q_507 : (Jvm.Cond.instanceMethod ({ cls := "SnowRecorder$Pack", name := "press", desc := "(LSnowRecorder$Plan;)V" } : Jvm.MethodName)) ∈ AW := AW_m3 27 (by decide +kernel) (by decide +kernel)
theorem q_508 : (Jvm.Cond.selects "SnowRecorder$Pack" ({ cls := "SnowRecorder$Pack", name := "press", desc := "(LSnowRecorder$Plan;)V" } : Jvm.MethodName) ({ cls := "SnowRecorder$Pack", name := "press", desc := "(LSnowRecorder$Plan;)V" } : Jvm.MethodName)) ∈ AW := AW_m3 28 (by decide +kernel) (by decide +kernel)
theorem q_509 : (Jvm.Cond.code ({ cls := "SnowRecorder$Pack", name := "press", desc := "(LSnowRecorder$Plan;)V" } : Jvm.MethodName) prog_5_method_18_code (11 : Nat) (Option.none : Option Jvm.ClassFile.FieldType)) ∈ AW := AW_m3 29 (by decide +kernel) (by decide +kernel)
theorem q_517 : (Jvm.Cond.methodLink "SnowRecorder$World" (97 : Nat) ({ cls := "SnowRecorder$Pack", name := "turnAndAge", desc := "(I)V" } : Jvm.MethodName)) ∈ AW := AW_m3 37 (by decide +kernel) (by decide +kernel)
theorem q_518 : (Jvm.Cond.instanceMethod ({ cls := "SnowRecorder$Pack", name := "turnAndAge", desc := "(I)V" } : Jvm.MethodName)) ∈ AW := AW_m3 38 (by decide +kernel) (by decide +kernel)
theorem q_519 : (Jvm.Cond.selects "SnowRecorder$Pack" ({ cls := "SnowRecorder$Pack", name := "turnAndAge", desc := "(I)V" } : Jvm.MethodName) ({ cls := "SnowRecorder$Pack", name := "turnAndAge", desc := "(I)V" } : Jvm.MethodName)) ∈ AW := AW_m3 39 (by decide +kernel) (by decide +kernel)
theorem q_520 : (Jvm.Cond.code ({ cls := "SnowRecorder$Pack", name := "turnAndAge", desc := "(I)V" } : Jvm.MethodName) prog_5_method_19_code (3 : Nat) (Option.none : Option Jvm.ClassFile.FieldType)) ∈ AW := AW_m3 40 (by decide +kernel) (by decide +kernel)
theorem q_555 : (Jvm.Cond.methodLink "SnowRecorder$World" (117 : Nat) ({ cls := "SnowRecorder$Pack", name := "mass", desc := "(I)I" } : Jvm.MethodName)) ∈ AW := AW_m3 75 (by decide +kernel) (by decide +kernel)
theorem q_590 : (Jvm.Cond.methodLink "SnowRecorder$World" (126 : Nat) ({ cls := "SnowRecorder$Pack", name := "weakest", desc := "(ILSnowRecorder$Plan;)I" } : Jvm.MethodName)) ∈ AW := AW_m3 110 (by decide +kernel) (by decide +kernel)
theorem q_594 : (Jvm.Cond.methodLink "SnowRecorder$World" (130 : Nat) ({ cls := "SnowRecorder$Pack", name := "massAbove", desc := "(I)I" } : Jvm.MethodName)) ∈ AW := AW_m3 114 (by decide +kernel) (by decide +kernel)
theorem q_738 : (Jvm.Cond.methodLink "SnowRecorder$World" (37 : Nat) ({ cls := "SnowRecorder$Pack", name := "clear", desc := "()V" } : Jvm.MethodName)) ∈ AW := AW_m4 18 (by decide +kernel) (by decide +kernel)
theorem q_739 : (Jvm.Cond.instanceMethod ({ cls := "SnowRecorder$Pack", name := "clear", desc := "()V" } : Jvm.MethodName)) ∈ AW := AW_m4 19 (by decide +kernel) (by decide +kernel)
theorem q_740 : (Jvm.Cond.selects "SnowRecorder$Pack" ({ cls := "SnowRecorder$Pack", name := "clear", desc := "()V" } : Jvm.MethodName) ({ cls := "SnowRecorder$Pack", name := "clear", desc := "()V" } : Jvm.MethodName)) ∈ AW := AW_m4 20 (by decide +kernel) (by decide +kernel)
theorem q_741 : (Jvm.Cond.code ({ cls := "SnowRecorder$Pack", name := "clear", desc := "()V" } : Jvm.MethodName) prog_5_method_2_code (1 : Nat) (Option.none : Option Jvm.ClassFile.FieldType)) ∈ AW := AW_m4 21 (by decide +kernel) (by decide +kernel)
theorem q_91 : (Jvm.Cond.fieldLink "SnowRecorder$World" (69 : Nat) "SnowRecorder$Plan" "slopes" "I") ∈ AW := AW_m1 91 (by decide +kernel) (by decide +kernel)
theorem q_99 : (Jvm.Cond.fieldLink "SnowRecorder$World" (123 : Nat) "SnowRecorder$Plan" "steep" "[I") ∈ AW := AW_m1 99 (by decide +kernel) (by decide +kernel)
theorem hd_yX3_copyFrom : yX3_copyFrom.cls ≠ "java/lang/invoke/MethodHandle" ∧ yX3_copyFrom.cls ≠ "java/lang/invoke/VarHandle" ∧ (parseMethodDescriptor yX3_copyFrom.desc).map (fun d => d.parameters.length) = some 1 := by decide +kernel
theorem hd_yX3_clear : yX3_clear.cls ≠ "java/lang/invoke/MethodHandle" ∧ yX3_clear.cls ≠ "java/lang/invoke/VarHandle" ∧ (parseMethodDescriptor yX3_clear.desc).map (fun d => d.parameters.length) = some 0 := by decide +kernel
theorem hd_yX3_add : yX3_add.cls ≠ "java/lang/invoke/MethodHandle" ∧ yX3_add.cls ≠ "java/lang/invoke/VarHandle" ∧ (parseMethodDescriptor yX3_add.desc).map (fun d => d.parameters.length) = some 6 := by decide +kernel
theorem hd_yX3_joinLowest : yX3_joinLowest.cls ≠ "java/lang/invoke/MethodHandle" ∧ yX3_joinLowest.cls ≠ "java/lang/invoke/VarHandle" ∧ (parseMethodDescriptor yX3_joinLowest.desc).map (fun d => d.parameters.length) = some 0 := by decide +kernel
theorem hd_yX8_fallOn : yX8_fallOn.cls ≠ "java/lang/invoke/MethodHandle" ∧ yX8_fallOn.cls ≠ "java/lang/invoke/VarHandle" ∧ (parseMethodDescriptor yX8_fallOn.desc).map (fun d => d.parameters.length) = some 4 := by decide +kernel
theorem hd_yX3_cool : yX3_cool.cls ≠ "java/lang/invoke/MethodHandle" ∧ yX3_cool.cls ≠ "java/lang/invoke/VarHandle" ∧ (parseMethodDescriptor yX3_cool.desc).map (fun d => d.parameters.length) = some 1 := by decide +kernel
theorem hd_yX3_evenTemps : yX3_evenTemps.cls ≠ "java/lang/invoke/MethodHandle" ∧ yX3_evenTemps.cls ≠ "java/lang/invoke/VarHandle" ∧ (parseMethodDescriptor yX3_evenTemps.desc).map (fun d => d.parameters.length) = some 0 := by decide +kernel
theorem hd_yX3_freezeAndSink : yX3_freezeAndSink.cls ≠ "java/lang/invoke/MethodHandle" ∧ yX3_freezeAndSink.cls ≠ "java/lang/invoke/VarHandle" ∧ (parseMethodDescriptor yX3_freezeAndSink.desc).map (fun d => d.parameters.length) = some 1 := by decide +kernel
theorem hd_yX3_press : yX3_press.cls ≠ "java/lang/invoke/MethodHandle" ∧ yX3_press.cls ≠ "java/lang/invoke/VarHandle" ∧ (parseMethodDescriptor yX3_press.desc).map (fun d => d.parameters.length) = some 1 := by decide +kernel
theorem hd_yX3_turnAndAge : yX3_turnAndAge.cls ≠ "java/lang/invoke/MethodHandle" ∧ yX3_turnAndAge.cls ≠ "java/lang/invoke/VarHandle" ∧ (parseMethodDescriptor yX3_turnAndAge.desc).map (fun d => d.parameters.length) = some 1 := by decide +kernel
theorem hd_yX3_melt : yX3_melt.cls ≠ "java/lang/invoke/MethodHandle" ∧ yX3_melt.cls ≠ "java/lang/invoke/VarHandle" ∧ (parseMethodDescriptor yX3_melt.desc).map (fun d => d.parameters.length) = some 1 := by decide +kernel
theorem hd_yX5_airAt : yX5_airAt.cls ≠ "java/lang/invoke/MethodHandle" ∧ yX5_airAt.cls ≠ "java/lang/invoke/VarHandle" ∧ (parseMethodDescriptor yX5_airAt.desc).map (fun d => d.parameters.length) = some 1 := by decide +kernel
theorem hd_yX5_muchAt : yX5_muchAt.cls ≠ "java/lang/invoke/MethodHandle" ∧ yX5_muchAt.cls ≠ "java/lang/invoke/VarHandle" ∧ (parseMethodDescriptor yX5_muchAt.desc).map (fun d => d.parameters.length) = some 1 := by decide +kernel
theorem hd_yX5_fallAt : yX5_fallAt.cls ≠ "java/lang/invoke/MethodHandle" ∧ yX5_fallAt.cls ≠ "java/lang/invoke/VarHandle" ∧ (parseMethodDescriptor yX5_fallAt.desc).map (fun d => d.parameters.length) = some 1 := by decide +kernel
theorem mv_yX3_copyFrom : zWv yX3_copyFrom cX3_copyFrom 2 none := ⟨q_425, q_426, q_6, q_427⟩
theorem mv_yX3_clear : zWv yX3_clear cX3_clear 1 none := ⟨q_739, q_740, q_6, q_741⟩
theorem mv_yX3_add : zWv yX3_add cX3_add 7 none := ⟨q_476, q_477, q_6, q_478⟩
theorem mv_yX3_joinLowest : zWv yX3_joinLowest cX3_joinLowest 8 none := ⟨q_463, q_464, q_6, q_465⟩
theorem mv_yX8_fallOn : zWv yX8_fallOn cX8_fallOn 8 none := ⟨q_455, q_456, q_5, q_457⟩
theorem mv_yX3_cool : zWv yX3_cool cX3_cool 3 none := ⟨q_486, q_487, q_6, q_488⟩
theorem mv_yX3_evenTemps : zWv yX3_evenTemps cX3_evenTemps 5 none := ⟨q_490, q_491, q_6, q_492⟩
theorem mv_yX3_freezeAndSink : zWv yX3_freezeAndSink cX3_freezeAndSink 5 none := ⟨q_494, q_495, q_6, q_496⟩
theorem mv_yX3_press : zWv yX3_press cX3_press 11 none := ⟨q_507, q_508, q_6, q_509⟩
theorem mv_yX3_turnAndAge : zWv yX3_turnAndAge cX3_turnAndAge 3 none := ⟨q_518, q_519, q_6, q_520⟩
theorem mv_yX3_melt : zWv yX3_melt cX3_melt 7 none := ⟨q_480, q_481, q_6, q_482⟩
theorem mv_yX5_airAt : zWv yX5_airAt cX5_airAt 2 (some .int) := ⟨q_440, q_441, q_3, q_442⟩
theorem mv_yX5_muchAt : zWv yX5_muchAt cX5_muchAt 2 (some .int) := ⟨q_451, q_452, q_3, q_453⟩
theorem mv_yX5_fallAt : zWv yX5_fallAt cX5_fallAt 2 (some .int) := ⟨q_447, q_448, q_3, q_449⟩
end
