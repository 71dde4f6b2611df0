section
-- 34.copies.lean.txt
set_option maxRecDepth 100000 in
set_option maxHeartbeats 4000000 in
theorem c_X4_copyFrom (l : Launch) (D : va_G) (A : Nat → Prop) (cs : Nat → ClassId) (tt : Nat) (N : Nat) (ad : Nat → Nat) (g : Nat → va_E) (a : Nat) (hN : a + 3 ≤ N) (ha : okPit cs ad g a) (b : Nat) (hNb : b + 3 ≤ N) (hb : okPit cs ad g b) (hab : a + 3 ≤ b ∨ b + 3 ≤ a) : zM l yX4_copyFrom cX4_copyFrom 2 none ({ frames := 2, cells := 0, slots := 0, locals := 120 } : Room) D A cs tt N ad g [.ref (ad a), .ref (ad b)] (rV0 N ad fun g' => okPit cs ad g' a ∧ ∀ j, j < a ∨ a + 3 ≤ j → g' j = g j) := by
  obtain ⟨ul, ut, uz, uo, ur, u1, u2, u3, u4⟩ := id ha
  have hay1 : zAt ad (a) (ad a) := rfl
  have hay2 : zAt ad (a + 1) (ad (a + 1)) := rfl
  have hay3 : zAt ad (a + 1 + 1) (ad (a + 1 + 1)) := rfl
  obtain ⟨vl, vt, vz, vo, vr, v1, v2, v3, v4⟩ := id hb
  have hay4 : zAt ad (b) (ad b) := rfl
  have hay5 : zAt ad (b + 1) (ad (b + 1)) := rfl
  have hay6 : zAt ad (b + 1 + 1) (ad (b + 1 + 1)) := rfl
  refine z_of (by decide) (Nat.le_of_ble_eq_true rfl) ?_
  intro p e s m below meth c C hr hlk hnm
  refine z_lv (lv' := [(0, .ref (ad a)), (1, .ref (ad b))]) [0, 1] rfl ?_
  refine z_aload_n C 0 dX4_copyFrom_0 rfl ?_
  refine z_aload_n C 1 dX4_copyFrom_1 rfl ?_
  refine z_get (v := .int (zI (vl))) C (by omega) hay4 v3 rfl inA_X4 0 (by decide) q_241 rfl rfl dX4_copyFrom_2 ?_
  refine z_put (fs' := [.int (zI (vl)), .int (zI (ut)), .ref (ad (a + 1))]) C (lt_A0 hN rfl) hay1 u3 tyX4 tyX4_ok nmX4 rfl inA_X4 0 (by decide) q_241 rfl rfl rfl rfl (Nat.le_of_ble_eq_true rfl) rfl dX4_copyFrom_5 (fun gy7 egy8 => ?_)
  have hgy9 := up_s egy8
  refine z_aload_n C 0 dX4_copyFrom_8 rfl ?_
  refine z_aload_n C 1 dX4_copyFrom_9 rfl ?_
  have hgy10 := up_n egy8 v3 (by omega)
  refine z_get (v := .int (zI (vt))) C (by omega) hay4 hgy10 rfl inA_X4 1 (by decide) q_244 rfl rfl dX4_copyFrom_10 ?_
  refine z_put (fs' := [.int (zI (vl)), .int (zI (vt)), .ref (ad (a + 1))]) C (lt_A0 hN rfl) hay1 hgy9 tyX4 tyX4_ok nmX4 rfl inA_X4 1 (by decide) q_244 rfl rfl rfl rfl (Nat.le_of_ble_eq_true rfl) rfl dX4_copyFrom_13 (fun gy11 egy12 => ?_)
  have hgy13 := up_s egy12
  refine z_aload_n C 0 dX4_copyFrom_16 rfl ?_
  refine z_get (v := .ref (ad (a + 1))) C (lt_A0 hN rfl) hay1 hgy13 rfl inA_X4 2 (by decide) q_247 rfl rfl dX4_copyFrom_17 ?_
  refine z_aload_n C 1 dX4_copyFrom_20 rfl ?_
  have hgy14 := up_n egy12 hgy10 (by omega)
  refine z_get (v := .ref (ad (b + 1))) C (by omega) hay4 hgy14 rfl inA_X4 2 (by decide) q_247 rfl rfl dX4_copyFrom_21 ?_
  have hgy15 := up_n egy8 u4.1 (ne_o (i := a) (c := 1) (d := 0) rfl)
  have hgy16 := up_n egy12 hgy15 (ne_o (i := a) (c := 1) (d := 0) rfl)
  have hgy17 := up_n egy8 u4.2 (ne_o (i := a) (c := 2) (d := 0) rfl)
  have hgy18 := up_n egy12 hgy17 (ne_o (i := a) (c := 2) (d := 0) rfl)
  have hgy19 := up_n egy8 v4.1 (by omega)
  have hgy20 := up_n egy12 hgy19 (by omega)
  have hgy21 := up_n egy8 v4.2 (by omega)
  have hgy22 := up_n egy12 hgy21 (by omega)
  refine z_cV (As := [.ref (ad (b + 1))]) (rest := []) (ci := 5) C (c_X3_copyFrom l D A cs tt N ad _ (a + 1) (by omega) _ _ _ u2 ⟨hgy16, hgy18⟩ (b + 1) (by omega) _ _ _ v2 ⟨hgy20, hgy22⟩ (by omega)) (lt_A (c := 1) hN rfl) hay2 hgy16 rfl rfl mv_yX3_copyFrom q_639 hd_yX3_copyFrom (by decide) (Nat.le_of_ble_eq_true rfl) (by decide) dX4_copyFrom_24 rfl (kV0 fun gc hc => ?_)
  obtain ⟨hp, hf⟩ := hc
  have hgy23 := (hf (a) (ne_o (i := a) (c := 0) (d := 1) rfl) (ne_o (i := a) (c := 0) (d := 2) rfl)).trans hgy13
  exact z_vret C hr hlk dX4_copyFrom_27 (by decide) (by decide) ⟨rfl, rfl, rfl, ⟨_, _, _, _, _, v1, v2, hgy23, hp⟩, fun j j1 => by rw [hf _ (by omega) (by omega)]; rw [egy12, va_up_ne _ _ (by omega)]; rw [egy8, va_up_ne _ _ (by omega)]⟩

set_option maxRecDepth 100000 in
set_option maxHeartbeats 4000000 in
theorem c_X2_copyFrom (l : Launch) (D : va_G) (A : Nat → Prop) (cs : Nat → ClassId) (tt : Nat) (N : Nat) (ad : Nat → Nat) (g : Nat → va_E) (a : Nat) (hN : a + 4 ≤ N) (nz : Int) (ha : okNotes cs ad g a nz) (b : Nat) (hNb : b + 4 ≤ N) (mz : Int) (hb : okNotes cs ad g b mz) (hab : a + 4 ≤ b ∨ b + 4 ≤ a) : zM l yX2_copyFrom cX2_copyFrom 2 none ({ frames := 1, cells := 0, slots := 0, locals := 60 } : Room) D A cs tt N ad g [.ref (ad a), .ref (ad b)] (rV0 N ad fun g' => okNotes cs ad g' a mz ∧ ∀ j, j < a ∨ a + 4 ≤ j → g' j = g j) := by
  obtain ⟨nu, nv, nw, n1, n2, n3, n4, n5, n6⟩ := id ha
  have hay1 : zAt ad (a) (ad a) := rfl
  have hay2 : zAt ad (a + 1) (ad (a + 1)) := rfl
  have hay3 : zAt ad (a + 2) (ad (a + 2)) := rfl
  have hay4 : zAt ad (a + 3) (ad (a + 3)) := rfl
  obtain ⟨mu, mv, mw, m1, m2, m3, m4, m5, m6⟩ := id hb
  have hay5 : zAt ad (b) (ad b) := rfl
  have hay6 : zAt ad (b + 1) (ad (b + 1)) := rfl
  have hay7 : zAt ad (b + 2) (ad (b + 2)) := rfl
  have hay8 : zAt ad (b + 3) (ad (b + 3)) := rfl
  refine z_of (by decide) (Nat.le_of_ble_eq_true rfl) ?_
  intro p e s m below meth c C hr hlk hnm
  refine z_lv (lv' := [(0, .ref (ad a)), (1, .ref (ad b))]) [0, 1] rfl ?_
  refine z_aload_n C 0 dX2_copyFrom_0 rfl ?_
  refine z_aload_n C 1 dX2_copyFrom_1 rfl ?_
  refine z_get (v := .int (zI (mz))) C (by omega) hay5 m3 rfl inA_X2 0 (by decide) q_216 rfl rfl dX2_copyFrom_2 ?_
  refine z_put (fs' := [.int (zI (mz)), .ref (ad (a + 1)), .ref (ad (a + 2)), .ref (ad (a + 3))]) C (lt_A0 hN rfl) hay1 n3 tyX2 tyX2_ok nmX2 rfl inA_X2 0 (by decide) q_216 rfl rfl rfl rfl (Nat.le_of_ble_eq_true rfl) rfl dX2_copyFrom_5 (fun gy9 egy10 => ?_)
  have hgy11 := up_s egy10
  refine z_aload_n C 1 dX2_copyFrom_8 rfl ?_
  have hgy12 := up_n egy10 m3 (by omega)
  refine z_get (v := .ref (ad (b + 1))) C (by omega) hay5 hgy12 rfl inA_X2 1 (by decide) q_219 rfl rfl dX2_copyFrom_9 ?_
  refine z_iconst (z := 0) C dX2_copyFrom_12 rfl ?_
  refine z_aload_n C 0 dX2_copyFrom_13 rfl ?_
  refine z_get (v := .ref (ad (a + 1))) C (lt_A0 hN rfl) hay1 hgy11 rfl inA_X2 1 (by decide) q_219 rfl rfl dX2_copyFrom_14 ?_
  refine z_iconst (z := 0) C dX2_copyFrom_17 rfl ?_
  refine z_aload_n C 0 dX2_copyFrom_18 rfl ?_
  refine z_get (v := .ref (ad (a + 1))) C (lt_A0 hN rfl) hay1 hgy11 rfl inA_X2 1 (by decide) q_219 rfl rfl dX2_copyFrom_19 ?_
  have hgy13 := up_n egy10 n4 (ne_o (i := a) (c := 1) (d := 0) rfl)
  refine z_alen (z := 8) C (lt_A (c := 1) hN rfl) hay2 hgy13 1 rfl rfl dX2_copyFrom_22 ?_
  have hgy14 := up_n egy10 m4 (by omega)
  refine z_copyI C q_644 q_430 q_429 q_21 (by omega) (lt_A (c := 1) hN rfl) hay6 hay2 hgy14 hgy13 0 0 8 rfl rfl rfl (by decide) (by decide) (by decide) (by decide) (Nat.le_of_ble_eq_true rfl) dX2_copyFrom_23 (fun gy15 egy16 => ?_)
  have hgy17 := up_s egy16
  refine z_ext (r' := mu) (lt_A (c := 1) hN rfl) hgy17 (fun j hj => cZ_all hj) (fun gy18 egy19 => ?_)
  have hgy20 := up_s egy19
  refine z_aload_n C 1 dX2_copyFrom_26 rfl ?_
  have hgy21 := up_n egy16 hgy12 (by omega)
  have hgy22 := up_n egy19 hgy21 (by omega)
  refine z_get (v := .ref (ad (b + 2))) C (by omega) hay5 hgy22 rfl inA_X2 2 (by decide) q_221 rfl rfl dX2_copyFrom_27 ?_
  refine z_iconst (z := 0) C dX2_copyFrom_30 rfl ?_
  refine z_aload_n C 0 dX2_copyFrom_31 rfl ?_
  have hgy23 := up_n egy16 hgy11 (ne_o (i := a) (c := 0) (d := 1) rfl)
  have hgy24 := up_n egy19 hgy23 (ne_o (i := a) (c := 0) (d := 1) rfl)
  refine z_get (v := .ref (ad (a + 2))) C (lt_A0 hN rfl) hay1 hgy24 rfl inA_X2 2 (by decide) q_221 rfl rfl dX2_copyFrom_32 ?_
  refine z_iconst (z := 0) C dX2_copyFrom_35 rfl ?_
  refine z_aload_n C 0 dX2_copyFrom_36 rfl ?_
  refine z_get (v := .ref (ad (a + 2))) C (lt_A0 hN rfl) hay1 hgy24 rfl inA_X2 2 (by decide) q_221 rfl rfl dX2_copyFrom_37 ?_
  have hgy25 := up_n egy10 n5 (ne_o (i := a) (c := 2) (d := 0) rfl)
  have hgy26 := up_n egy16 hgy25 (ne_o (i := a) (c := 2) (d := 1) rfl)
  have hgy27 := up_n egy19 hgy26 (ne_o (i := a) (c := 2) (d := 1) rfl)
  refine z_alen (z := 8) C (lt_A (c := 2) hN rfl) hay3 hgy27 1 rfl rfl dX2_copyFrom_40 ?_
  have hgy28 := up_n egy10 m5 (by omega)
  have hgy29 := up_n egy16 hgy28 (by omega)
  have hgy30 := up_n egy19 hgy29 (by omega)
  refine z_copyI C q_644 q_430 q_429 q_21 (by omega) (lt_A (c := 2) hN rfl) hay7 hay3 hgy30 hgy27 0 0 8 rfl rfl rfl (by decide) (by decide) (by decide) (by decide) (Nat.le_of_ble_eq_true rfl) dX2_copyFrom_41 (fun gy31 egy32 => ?_)
  have hgy33 := up_s egy32
  refine z_ext (r' := mv) (lt_A (c := 2) hN rfl) hgy33 (fun j hj => cZ_all hj) (fun gy34 egy35 => ?_)
  have hgy36 := up_s egy35
  refine z_aload_n C 1 dX2_copyFrom_44 rfl ?_
  have hgy37 := up_n egy32 hgy22 (by omega)
  have hgy38 := up_n egy35 hgy37 (by omega)
  refine z_get (v := .ref (ad (b + 3))) C (by omega) hay5 hgy38 rfl inA_X2 3 (by decide) q_223 rfl rfl dX2_copyFrom_45 ?_
  refine z_iconst (z := 0) C dX2_copyFrom_48 rfl ?_
  refine z_aload_n C 0 dX2_copyFrom_49 rfl ?_
  have hgy39 := up_n egy32 hgy24 (ne_o (i := a) (c := 0) (d := 2) rfl)
  have hgy40 := up_n egy35 hgy39 (ne_o (i := a) (c := 0) (d := 2) rfl)
  refine z_get (v := .ref (ad (a + 3))) C (lt_A0 hN rfl) hay1 hgy40 rfl inA_X2 3 (by decide) q_223 rfl rfl dX2_copyFrom_50 ?_
  refine z_iconst (z := 0) C dX2_copyFrom_53 rfl ?_
  refine z_aload_n C 0 dX2_copyFrom_54 rfl ?_
  refine z_get (v := .ref (ad (a + 3))) C (lt_A0 hN rfl) hay1 hgy40 rfl inA_X2 3 (by decide) q_223 rfl rfl dX2_copyFrom_55 ?_
  have hgy41 := up_n egy10 n6 (ne_o (i := a) (c := 3) (d := 0) rfl)
  have hgy42 := up_n egy16 hgy41 (ne_o (i := a) (c := 3) (d := 1) rfl)
  have hgy43 := up_n egy19 hgy42 (ne_o (i := a) (c := 3) (d := 1) rfl)
  have hgy44 := up_n egy32 hgy43 (ne_o (i := a) (c := 3) (d := 2) rfl)
  have hgy45 := up_n egy35 hgy44 (ne_o (i := a) (c := 3) (d := 2) rfl)
  refine z_alen (z := 8) C (lt_A (c := 3) hN rfl) hay4 hgy45 1 rfl rfl dX2_copyFrom_58 ?_
  have hgy46 := up_n egy10 m6 (by omega)
  have hgy47 := up_n egy16 hgy46 (by omega)
  have hgy48 := up_n egy19 hgy47 (by omega)
  have hgy49 := up_n egy32 hgy48 (by omega)
  have hgy50 := up_n egy35 hgy49 (by omega)
  refine z_copyI C q_644 q_430 q_429 q_21 (by omega) (lt_A (c := 3) hN rfl) hay8 hay4 hgy50 hgy45 0 0 8 rfl rfl rfl (by decide) (by decide) (by decide) (by decide) (Nat.le_of_ble_eq_true rfl) dX2_copyFrom_59 (fun gy51 egy52 => ?_)
  have hgy53 := up_s egy52
  refine z_ext (r' := mw) (lt_A (c := 3) hN rfl) hgy53 (fun j hj => cZ_all hj) (fun gy54 egy55 => ?_)
  have hgy56 := up_s egy55
  have hgy57 := up_n egy52 hgy40 (ne_o (i := a) (c := 0) (d := 3) rfl)
  have hgy58 := up_n egy55 hgy57 (ne_o (i := a) (c := 0) (d := 3) rfl)
  have hgy59 := up_n egy32 hgy20 (ne_o (i := a) (c := 1) (d := 2) rfl)
  have hgy60 := up_n egy35 hgy59 (ne_o (i := a) (c := 1) (d := 2) rfl)
  have hgy61 := up_n egy52 hgy60 (ne_o (i := a) (c := 1) (d := 3) rfl)
  have hgy62 := up_n egy55 hgy61 (ne_o (i := a) (c := 1) (d := 3) rfl)
  have hgy63 := up_n egy52 hgy36 (ne_o (i := a) (c := 2) (d := 3) rfl)
  have hgy64 := up_n egy55 hgy63 (ne_o (i := a) (c := 2) (d := 3) rfl)
  exact z_vret C hr hlk dX2_copyFrom_62 (by decide) (by decide) ⟨rfl, rfl, rfl, ⟨_, _, _, m1, m2, hgy58, hgy62, hgy64, hgy56⟩, fun j j1 => by rw [egy55, va_up_ne _ _ (by omega)]; rw [egy52, va_up_ne _ _ (by omega)]; rw [egy35, va_up_ne _ _ (by omega)]; rw [egy32, va_up_ne _ _ (by omega)]; rw [egy19, va_up_ne _ _ (by omega)]; rw [egy16, va_up_ne _ _ (by omega)]; rw [egy10, va_up_ne _ _ (by omega)]⟩

set_option maxRecDepth 100000 in
set_option maxHeartbeats 4000000 in
theorem c_X2_add (l : Launch) (D : va_G) (A : Nat → Prop) (cs : Nat → ClassId) (tt : Nat) (N : Nat) (ad : Nat → Nat) (g : Nat → va_E) (a : Nat) (hN : a + 4 ≤ N) (nz : Int) (ha : okNotes cs ad g a nz) (z : Int) (hzs : 0 ≤ z ∧ z ≤ 3) (z1 : Int) (hz1 : 0 ≤ z1 ∧ z1 ≤ 48) (z2 : Int) (hz2 : -2147483648 ≤ z2 ∧ z2 ≤ 2147483647) : zM l yX2_add cX2_add 4 none ({ frames := 1, cells := 0, slots := 0, locals := 60 } : Room) D A cs tt N ad g [.ref (ad a), .int (zI (z)), .int (zI (z1)), .int (zI (z2))] (rV0 N ad fun g' => okNotes cs ad g' a (if nz < 8 then nz + 1 else nz) ∧ ∀ j, j < a ∨ a + 4 ≤ j → g' j = g j) := by
  obtain ⟨nu, nv, nw, n1, n2, n3, n4, n5, n6⟩ := id ha
  have hay1 : zAt ad (a) (ad a) := rfl
  have hay2 : zAt ad (a + 1) (ad (a + 1)) := rfl
  have hay3 : zAt ad (a + 2) (ad (a + 2)) := rfl
  have hay4 : zAt ad (a + 3) (ad (a + 3)) := rfl
  refine z_of (by decide) (Nat.le_of_ble_eq_true rfl) ?_
  intro p e s m below meth c C hr hlk hnm
  refine z_lv (lv' := [(0, .ref (ad a)), (1, .int (zI (z))), (2, .int (zI (z1))), (3, .int (zI (z2)))]) [0, 1, 2, 3] rfl ?_
  refine z_aload_n C 0 dX2_add_0 rfl ?_
  refine z_get (v := .int (zI (nz))) C (lt_A0 hN rfl) hay1 n3 rfl inA_X2 0 (by decide) q_216 rfl rfl dX2_add_1 ?_
  refine z_bipush (z := 8) C dX2_add_4 (by decide) ?_
  refine z_icmp_ge (tgt := 49) C dX2_add_6 (by decide) (by omega) (by omega) (fun hby5 => ?_) (fun hby5 => ?_)
  · exact z_vret C hr hlk dX2_add_49 (by decide) (by decide) ⟨rfl, rfl, rfl, by rw [if_neg (by omega)]; exact ha, fun j j1 => by rfl⟩
  · refine z_aload_n C 0 dX2_add_9 rfl ?_
    refine z_get (v := .ref (ad (a + 1))) C (lt_A0 hN rfl) hay1 n3 rfl inA_X2 1 (by decide) q_219 rfl rfl dX2_add_10 ?_
    refine z_aload_n C 0 dX2_add_13 rfl ?_
    refine z_get (v := .int (zI (nz))) C (lt_A0 hN rfl) hay1 n3 rfl inA_X2 0 (by decide) q_216 rfl rfl dX2_add_14 ?_
    refine z_iload_n C 1 dX2_add_17 rfl ?_
    refine z_iast C (lt_A (c := 1) hN rfl) hay2 n4 ((nz).toNat) (by omega) (by omega) (by decide) dX2_add_18 (fun gy6 egy7 => ?_)
    have hgy8 := up_s egy7
    refine z_aload_n C 0 dX2_add_19 rfl ?_
    have hgy9 := up_n egy7 n3 (ne_o (i := a) (c := 0) (d := 1) rfl)
    refine z_get (v := .ref (ad (a + 2))) C (lt_A0 hN rfl) hay1 hgy9 rfl inA_X2 2 (by decide) q_221 rfl rfl dX2_add_20 ?_
    refine z_aload_n C 0 dX2_add_23 rfl ?_
    refine z_get (v := .int (zI (nz))) C (lt_A0 hN rfl) hay1 hgy9 rfl inA_X2 0 (by decide) q_216 rfl rfl dX2_add_24 ?_
    refine z_iload_n C 2 dX2_add_27 rfl ?_
    have hgy10 := up_n egy7 n5 (ne_o (i := a) (c := 2) (d := 1) rfl)
    refine z_iast C (lt_A (c := 2) hN rfl) hay3 hgy10 ((nz).toNat) (by omega) (by omega) (by decide) dX2_add_28 (fun gy11 egy12 => ?_)
    have hgy13 := up_s egy12
    refine z_aload_n C 0 dX2_add_29 rfl ?_
    have hgy14 := up_n egy12 hgy9 (ne_o (i := a) (c := 0) (d := 2) rfl)
    refine z_get (v := .ref (ad (a + 3))) C (lt_A0 hN rfl) hay1 hgy14 rfl inA_X2 3 (by decide) q_223 rfl rfl dX2_add_30 ?_
    refine z_aload_n C 0 dX2_add_33 rfl ?_
    refine z_get (v := .int (zI (nz))) C (lt_A0 hN rfl) hay1 hgy14 rfl inA_X2 0 (by decide) q_216 rfl rfl dX2_add_34 ?_
    refine z_iload_n C 3 dX2_add_37 rfl ?_
    have hgy15 := up_n egy7 n6 (ne_o (i := a) (c := 3) (d := 1) rfl)
    have hgy16 := up_n egy12 hgy15 (ne_o (i := a) (c := 3) (d := 2) rfl)
    refine z_iast C (lt_A (c := 3) hN rfl) hay4 hgy16 ((nz).toNat) (by omega) (by omega) (by decide) dX2_add_38 (fun gy17 egy18 => ?_)
    have hgy19 := up_s egy18
    refine z_aload_n C 0 dX2_add_39 rfl ?_
    refine z_dup C dX2_add_40 rfl ?_
    have hgy20 := up_n egy18 hgy14 (ne_o (i := a) (c := 0) (d := 3) rfl)
    refine z_get (v := .int (zI (nz))) C (lt_A0 hN rfl) hay1 hgy20 rfl inA_X2 0 (by decide) q_216 rfl rfl dX2_add_41 ?_
    refine z_iconst (z := 1) C dX2_add_44 rfl ?_
    refine z_iadd C dX2_add_45 ?_
    refine z_put (fs' := [.int (zI (nz + 1)), .ref (ad (a + 1)), .ref (ad (a + 2)), .ref (ad (a + 3))]) C (lt_A0 hN rfl) hay1 hgy20 tyX2 tyX2_ok nmX2 rfl inA_X2 0 (by decide) q_216 rfl rfl rfl rfl (Nat.le_of_ble_eq_true rfl) rfl dX2_add_46 (fun gy21 egy22 => ?_)
    have hgy23 := up_s egy22
    have hgy24 := up_n egy12 hgy8 (ne_o (i := a) (c := 1) (d := 2) rfl)
    have hgy25 := up_n egy18 hgy24 (ne_o (i := a) (c := 1) (d := 3) rfl)
    have hgy26 := up_n egy22 hgy25 (ne_o (i := a) (c := 1) (d := 0) rfl)
    have hgy27 := up_n egy18 hgy13 (ne_o (i := a) (c := 2) (d := 3) rfl)
    have hgy28 := up_n egy22 hgy27 (ne_o (i := a) (c := 2) (d := 0) rfl)
    have hgy29 := up_n egy22 hgy19 (ne_o (i := a) (c := 3) (d := 0) rfl)
    have hu : ∀ k, k < 8 → (0 ≤ (uZ nu (nz).toNat (z)) k ∧ (uZ nu (nz).toNat (z)) k ≤ 3) ∧ 0 ≤ (uZ nv (nz).toNat (z1)) k ∧ (uZ nv (nz).toNat (z1)) k ≤ 48 := fun k hk => by
        by_cases e : k = (nz).toNat
        · subst e; rw [uZ_s, uZ_s]; exact ⟨hzs, hz1⟩
        · rw [uZ_n _ _ e, uZ_n _ _ e]; exact n2 k hk
    exact z_vret C hr hlk dX2_add_49 (by decide) (by decide) ⟨rfl, rfl, rfl, by rw [if_pos (by omega)]; exact ⟨_, _, _, by omega, hu, hgy23, hgy26, hgy28, hgy29⟩, fun j j1 => by rw [egy22, va_up_ne _ _ (by omega)]; rw [egy18, va_up_ne _ _ (by omega)]; rw [egy12, va_up_ne _ _ (by omega)]; rw [egy7, va_up_ne _ _ (by omega)]⟩

set_option maxRecDepth 100000 in
set_option maxHeartbeats 4000000 in
theorem c_X2_slopes (l : Launch) (D : va_G) (A : Nat → Prop) (cs : Nat → ClassId) (tt : Nat) (N : Nat) (ad : Nat → Nat) (g : Nat → va_E) (a : Nat) (hN : a + 4 ≤ N) (nz : Int) (ha : okNotes cs ad g a nz) : zM l yX2_slopes cX2_slopes 3 (some .int) ({ frames := 1, cells := 0, slots := 0, locals := 60 } : Room) D A cs tt N ad g [.ref (ad a)] (rI0 N ad fun r g' => (-2147483648 ≤ r ∧ r ≤ 2147483647) ∧ g = g') := by
  obtain ⟨nu, nv, nw, n1, n2, n3, n4, n5, n6⟩ := id ha
  have hay1 : zAt ad (a) (ad a) := rfl
  have hay2 : zAt ad (a + 1) (ad (a + 1)) := rfl
  have hay3 : zAt ad (a + 2) (ad (a + 2)) := rfl
  have hay4 : zAt ad (a + 3) (ad (a + 3)) := rfl
  refine z_of (by decide) (Nat.le_of_ble_eq_true rfl) ?_
  intro p e s m below meth c C hr hlk hnm
  refine z_lv (lv' := [(0, .ref (ad a))]) [0] rfl ?_
  have lp : ∀ (n9 : Nat) (al : Int) (i : Int) (g1 : Nat → va_E), (nz - i).toNat = n9 → (g1 = g) → (-2147483648 ≤ al ∧ al ≤ 2147483647) → (0 ≤ i ∧ i ≤ 8) → zV p l e ({ frames := 1, cells := 0, slots := 0, locals := 60 } : Room) s m ([.ref (ad a)] : List Value).toArray below meth c (MQ below (zPost D A (rI0 N ad fun r g' => (-2147483648 ≤ r ∧ r ≤ 2147483647) ∧ g = g')) ([.ref (ad a)] : List Value).toArray s ({ frames := 1, cells := 0, slots := 0, locals := 60 } : Room).cells ({ frames := 1, cells := 0, slots := 0, locals := 60 } : Room).slots A) D A 3 (N) ad g1 (0) (0) 4 [(2, .int (zI (i))), (1, .int (zI (al))), (0, .ref (ad a))] [] := by
    intro n9
    induction n9 using Nat.strongRecOn with
    | ind n9 ih =>
      intro al i g1 hm9 hg1 hv0 hv1
      subst hg1
      obtain ⟨nu, nv, nw, n1, n2, n3, n4, n5, n6⟩ := id ha
      have hay5 : zAt ad (a) (ad a) := rfl
      have hay6 : zAt ad (a + 1) (ad (a + 1)) := rfl
      have hay7 : zAt ad (a + 2) (ad (a + 2)) := rfl
      have hay8 : zAt ad (a + 3) (ad (a + 3)) := rfl
      refine z_iload_n C 0 dX2_slopes_4 rfl ?_
      refine z_aload_n C 2 dX2_slopes_5 rfl ?_
      refine z_get (v := .int (zI (nz))) C (lt_A0 hN rfl) hay5 n3 rfl inA_X2 0 (by decide) q_216 rfl rfl dX2_slopes_6 ?_
      refine z_icmp_ge (tgt := 29) C dX2_slopes_9 (by decide) (by omega) (by omega) (fun hby9 => ?_) (fun hby9 => ?_)
      · refine z_iload_n C 1 dX2_slopes_29 rfl ?_
        exact z_iret C hr hlk dX2_slopes_30 (by decide) (by decide) ⟨al, rfl, rfl, rfl, by omega, rfl⟩
      · refine z_iload_n C 1 dX2_slopes_12 rfl ?_
        refine z_iconst (z := 1) C dX2_slopes_13 rfl ?_
        refine z_aload_n C 2 dX2_slopes_14 rfl ?_
        refine z_get (v := .ref (ad (a + 1))) C (lt_A0 hN rfl) hay5 n3 rfl inA_X2 1 (by decide) q_219 rfl rfl dX2_slopes_15 ?_
        refine z_iload_n C 0 dX2_slopes_18 rfl ?_
        refine z_iald C (lt_A (c := 1) hN rfl) hay6 n4 ((i).toNat) (by omega) (by omega) (by decide) dX2_slopes_19 ?_
        have hrfy10 := n2 ((i).toNat) (by omega)
        obtain ⟨xy11, exy12, hxy13⟩ := zI_of (zI (1) <<< (zI (nu ((i).toNat)) &&& 31))
        refine z_ishl (z := xy11) C dX2_slopes_20 exy12 ?_
        obtain ⟨xy14, exy15, hxy16⟩ := zI_of (zI (al) ||| zI (xy11))
        refine z_ior (z := xy14) C dX2_slopes_21 exy15 ?_
        refine z_istore_n (lv' := [(1, .int (zI (xy14))), (2, .int (zI (i))), (0, .ref (ad a))]) C dX2_slopes_22 rfl (by decide) rfl ?_
        refine z_iinc (z := i + 1) (lv' := [(2, .int (zI (i + 1))), (1, .int (zI (xy14))), (0, .ref (ad a))]) (j := 1) C dX2_slopes_23 rfl rfl (by decide) rfl ?_
        refine z_goto (tgt := 4) C dX2_slopes_26 (by decide) ?_
        refine z_lv (lv' := [(2, .int (zI (i + 1))), (1, .int (zI (xy14))), (0, .ref (ad a))]) [0, 1, 2] rfl ?_
        exact ih _ (by omega) (xy14) (i + 1) _ rfl rfl (by omega) (by omega)
  refine z_iconst (z := 0) C dX2_slopes_0 rfl ?_
  refine z_istore_n (lv' := [(1, .int (zI (0))), (0, .ref (ad a))]) C dX2_slopes_1 rfl (by decide) rfl ?_
  refine z_iconst (z := 0) C dX2_slopes_2 rfl ?_
  refine z_istore_n (lv' := [(2, .int (zI (0))), (1, .int (zI (0))), (0, .ref (ad a))]) C dX2_slopes_3 rfl (by decide) rfl ?_
  refine z_lv (lv' := [(2, .int (zI (0))), (1, .int (zI (0))), (0, .ref (ad a))]) [0, 1, 2] rfl ?_
  exact lp _ (0) (0) _ rfl rfl (by omega) (by omega)

set_option maxRecDepth 100000 in
set_option maxHeartbeats 4000000 in
theorem c_X2_lastHour (l : Launch) (D : va_G) (A : Nat → Prop) (cs : Nat → ClassId) (tt : Nat) (N : Nat) (ad : Nat → Nat) (g : Nat → va_E) (a : Nat) (hN : a + 4 ≤ N) (nz : Int) (ha : okNotes cs ad g a nz) : zM l yX2_lastHour cX2_lastHour 3 (some .int) ({ frames := 2, cells := 0, slots := 0, locals := 120 } : Room) D A cs tt N ad g [.ref (ad a)] (rI0 N ad fun r g' => (-1 ≤ r ∧ r ≤ 48) ∧ g = g') := by
  obtain ⟨nu, nv, nw, n1, n2, n3, n4, n5, n6⟩ := id ha
  have hay1 : zAt ad (a) (ad a) := rfl
  have hay2 : zAt ad (a + 1) (ad (a + 1)) := rfl
  have hay3 : zAt ad (a + 2) (ad (a + 2)) := rfl
  have hay4 : zAt ad (a + 3) (ad (a + 3)) := rfl
  refine z_of (by decide) (Nat.le_of_ble_eq_true rfl) ?_
  intro p e s m below meth c C hr hlk hnm
  refine z_lv (lv' := [(0, .ref (ad a))]) [0] rfl ?_
  have lp : ∀ (n9 : Nat) (al : Int) (i : Int) (g1 : Nat → va_E), (nz - i).toNat = n9 → (g1 = g) → (-1 ≤ al ∧ al ≤ 48) → (0 ≤ i ∧ i ≤ 8) → zV p l e ({ frames := 2, cells := 0, slots := 0, locals := 120 } : Room) s m ([.ref (ad a)] : List Value).toArray below meth c (MQ below (zPost D A (rI0 N ad fun r g' => (-1 ≤ r ∧ r ≤ 48) ∧ g = g')) ([.ref (ad a)] : List Value).toArray s ({ frames := 2, cells := 0, slots := 0, locals := 120 } : Room).cells ({ frames := 2, cells := 0, slots := 0, locals := 120 } : Room).slots A) D A 3 (N) ad g1 (0) (0) 4 [(2, .int (zI (i))), (1, .int (zI (al))), (0, .ref (ad a))] [] := by
    intro n9
    induction n9 using Nat.strongRecOn with
    | ind n9 ih =>
      intro al i g1 hm9 hg1 hv0 hv1
      subst hg1
      obtain ⟨nu, nv, nw, n1, n2, n3, n4, n5, n6⟩ := id ha
      have hay5 : zAt ad (a) (ad a) := rfl
      have hay6 : zAt ad (a + 1) (ad (a + 1)) := rfl
      have hay7 : zAt ad (a + 2) (ad (a + 2)) := rfl
      have hay8 : zAt ad (a + 3) (ad (a + 3)) := rfl
      refine z_iload_n C 0 dX2_lastHour_4 rfl ?_
      refine z_aload_n C 2 dX2_lastHour_5 rfl ?_
      refine z_get (v := .int (zI (nz))) C (lt_A0 hN rfl) hay5 n3 rfl inA_X2 0 (by decide) q_216 rfl rfl dX2_lastHour_6 ?_
      refine z_icmp_ge (tgt := 29) C dX2_lastHour_9 (by decide) (by omega) (by omega) (fun hby9 => ?_) (fun hby9 => ?_)
      · refine z_iload_n C 1 dX2_lastHour_29 rfl ?_
        exact z_iret C hr hlk dX2_lastHour_30 (by decide) (by decide) ⟨al, rfl, rfl, rfl, by omega, rfl⟩
      · refine z_iload_n C 1 dX2_lastHour_12 rfl ?_
        refine z_aload_n C 2 dX2_lastHour_13 rfl ?_
        refine z_get (v := .ref (ad (a + 2))) C (lt_A0 hN rfl) hay5 n3 rfl inA_X2 2 (by decide) q_221 rfl rfl dX2_lastHour_14 ?_
        refine z_iload_n C 0 dX2_lastHour_17 rfl ?_
        refine z_iald C (lt_A (c := 2) hN rfl) hay7 n5 ((i).toNat) (by omega) (by omega) (by decide) dX2_lastHour_18 ?_
        have hrfy10 := n2 ((i).toNat) (by omega)
        refine z_mmax C q_1367 q_470 q_20 q_471 (by omega) (by omega) (by decide) (Nat.le_of_ble_eq_true rfl) (by decide) (by decide) dX2_lastHour_19 ?_
        obtain ⟨xy11, exy12, hxy13⟩ := mm_max (al) (nv ((i).toNat))
        rw [exy12]
        refine z_istore_n (lv' := [(1, .int (zI (xy11))), (2, .int (zI (i))), (0, .ref (ad a))]) C dX2_lastHour_22 rfl (by decide) rfl ?_
        refine z_iinc (z := i + 1) (lv' := [(2, .int (zI (i + 1))), (1, .int (zI (xy11))), (0, .ref (ad a))]) (j := 1) C dX2_lastHour_23 rfl rfl (by decide) rfl ?_
        refine z_goto (tgt := 4) C dX2_lastHour_26 (by decide) ?_
        refine z_lv (lv' := [(2, .int (zI (i + 1))), (1, .int (zI (xy11))), (0, .ref (ad a))]) [0, 1, 2] rfl ?_
        exact ih _ (by omega) (xy11) (i + 1) _ rfl rfl (by omega) (by omega)
  refine z_iconst (z := -1) C dX2_lastHour_0 rfl ?_
  refine z_istore_n (lv' := [(1, .int (zI (-1))), (0, .ref (ad a))]) C dX2_lastHour_1 rfl (by decide) rfl ?_
  refine z_iconst (z := 0) C dX2_lastHour_2 rfl ?_
  refine z_istore_n (lv' := [(2, .int (zI (0))), (1, .int (zI (-1))), (0, .ref (ad a))]) C dX2_lastHour_3 rfl (by decide) rfl ?_
  refine z_lv (lv' := [(2, .int (zI (0))), (1, .int (zI (-1))), (0, .ref (ad a))]) [0, 1, 2] rfl ?_
  exact lp _ (-1) (0) _ rfl rfl (by omega) (by omega)

set_option maxRecDepth 100000 in
set_option maxHeartbeats 4000000 in
theorem c_X6_copyFrom (l : Launch) (D : va_G) (A : Nat → Prop) (cs : Nat → ClassId) (tt : Nat) (N : Nat) (ad : Nat → Nat) (g : Nat → va_E) (i : Nat) (hN : i + 436 ≤ N) (ac nz : Int) (hS : okState cs ad g i ac nz) (d : Nat) (hNd : d + 436 ≤ N) (ac2 nz2 : Int) (hS2 : okState cs ad g d ac2 nz2) (hid : i + 436 ≤ d ∨ d + 436 ≤ i) : zM l yX6_copyFrom cX6_copyFrom 3 none ({ frames := 3, cells := 0, slots := 0, locals := 180 } : Room) D A cs tt N ad g [.ref (ad i), .ref (ad d)] (rV0 N ad fun g' => okState cs ad g' i ac2 nz2 ∧ ∀ j, j < i ∨ i + 436 ≤ j → g' j = g j) := by
  obtain ⟨q1, q2, q3, ⟨qb, qf, q4, q5⟩, q6, ⟨qc, q7, q8⟩, q9, q10, qr, q11⟩ := id hS
  have hay1 : zAt ad (i) (ad i) := rfl
  have hay2 : zAt ad (i + 11) (ad (i + 11)) := rfl
  have hay3 : zAt ad (i + 12) (ad (i + 12)) := rfl
  have hay4 : zAt ad (i + 17) (ad (i + 17)) := rfl
  have hay5 : zAt ad (i + 1) (ad (i + 1)) := rfl
  have hay6 : zAt ad (i + 13) (ad (i + 13)) := rfl
  obtain ⟨e1, e2, e3, ⟨eb, ef, e4, e5⟩, e6, ⟨ec, e7, e8⟩, e9, e10, er, e11⟩ := id hS2
  have hay7 : zAt ad (d) (ad d) := rfl
  have hay8 : zAt ad (d + 11) (ad (d + 11)) := rfl
  have hay9 : zAt ad (d + 12) (ad (d + 12)) := rfl
  have hay10 : zAt ad (d + 17) (ad (d + 17)) := rfl
  have hay11 : zAt ad (d + 1) (ad (d + 1)) := rfl
  have hay12 : zAt ad (d + 13) (ad (d + 13)) := rfl
  refine z_of (by decide) (Nat.le_of_ble_eq_true rfl) ?_
  intro p e s m below meth c C hr hlk hnm
  refine z_lv (lv' := [(0, .ref (ad i)), (1, .ref (ad d))]) [0, 1] rfl ?_
  obtain ⟨tk, zk, ok, rk, hzk, htk, hwk⟩ := id q3
  refine z_aload_n C 0 dX6_copyFrom_0 rfl ?_
  refine z_get (v := .ref (ad (i + 1))) C (lt_A0 hN rfl) hay1 q1 rfl inA_X6 0 (by decide) q_257 rfl rfl dX6_copyFrom_1 ?_
  refine z_aload_n C 1 dX6_copyFrom_4 rfl ?_
  refine z_get (v := .ref (ad (d + 1))) C (by omega) hay7 e1 rfl inA_X6 0 (by decide) q_257 rfl rfl dX6_copyFrom_5 ?_
  refine z_cV (As := [.ref (ad (d + 1))]) (rest := []) (ci := 10) C (c_X8_copyFrom l D A cs tt N ad _ (i + 1) (by omega) q3 (d + 1) (by omega) e3 (by omega)) (lt_A (c := 1) hN rfl) hay5 hwk.1 rfl rfl mv_yX8_copyFrom q_420 hd_yX8_copyFrom (by decide) (Nat.le_of_ble_eq_true rfl) (by decide) dX6_copyFrom_8 rfl (kV0 fun gc hc => ?_)
  obtain ⟨⟨t1, z1, o1, r1, hz1, ht1, hn1, hw1⟩, hf1⟩ := hc
  have hs2 : okState cs ad gc i ac nz := okState.now hS hf1 ⟨_, _, _, _, hz1, ht1, hw1⟩
  refine z_aload_n C 0 dX6_copyFrom_11 rfl ?_
  refine z_aload_n C 1 dX6_copyFrom_12 rfl ?_
  have hgy13 := (hf1 (d) (by omega)).trans e1
  refine z_get (v := .int (zI (ac2))) C (by omega) hay7 hgy13 rfl inA_X6 2 (by decide) q_260 rfl rfl dX6_copyFrom_13 ?_
  have hgy14 := (hf1 (i) (by omega)).trans q1
  refine z_put (fs' := [.ref (ad (i + 1)), .ref (ad (i + 11)), .int (zI (ac2)), .ref (ad (i + 12)), .ref (ad (i + 13)), .ref (ad (i + 17))]) C (lt_A0 hN rfl) hay1 hgy14 tyX6 tyX6_ok nmX6 rfl inA_X6 2 (by decide) q_260 rfl rfl rfl rfl (Nat.le_of_ble_eq_true rfl) rfl dX6_copyFrom_16 (fun gy15 egy16 => ?_)
  have hgy17 := up_s egy16
  refine z_iconst (z := 0) C dX6_copyFrom_19 rfl ?_
  refine z_istore_n (lv' := [(2, .int (zI (0))), (0, .ref (ad i)), (1, .ref (ad d))]) C dX6_copyFrom_20 rfl (by decide) rfl ?_
  have hs3 : okState cs ad gy15 i ac2 nz := okState.head (by omega) hs2 (fun j j1 => by rw [egy16, va_up_ne _ _ (by omega)]) hgy17
  have hfr : ∀ j, j < i ∨ i + 436 ≤ j → gy15 j = g j := fun j j1 => by rw [egy16, va_up_ne _ _ (by omega)]; rw [hf1 _ (by omega)]
  have lp2 : ∀ (n9 : Nat) (k : Int) (g1 : Nat → va_E), (6 - k).toNat = n9 → (okState cs ad g1 i ac2 nz) → (∀ j, j < i ∨ i + 436 ≤ j → g1 j = g j) → (0 ≤ k ∧ k ≤ 6) → zV p l e ({ frames := 3, cells := 0, slots := 0, locals := 180 } : Room) s m ([.ref (ad i), .ref (ad d)] : List Value).toArray below meth c (MQ below (zPost D A (rV0 N ad fun g' => okState cs ad g' i ac2 nz2 ∧ ∀ j, j < i ∨ i + 436 ≤ j → g' j = g j)) ([.ref (ad i), .ref (ad d)] : List Value).toArray s ({ frames := 3, cells := 0, slots := 0, locals := 180 } : Room).cells ({ frames := 3, cells := 0, slots := 0, locals := 180 } : Room).slots A) D A 3 (N) ad g1 (0) (0) 61 [(2, .int (zI (k))), (0, .ref (ad i)), (1, .ref (ad d))] [] := by
    intro n9
    induction n9 using Nat.strongRecOn with
    | ind n9 ih_lp2 =>
      intro k g1 hm9 f1 f3 f9
      have f4 : okState cs ad g1 d ac2 nz2 := hS2.mv (fun _ _ _ => rfl) (fun j j1 j2 => f3 j (by omega))
      obtain ⟨q1, q2, q3, ⟨qb, qf, q4, q5⟩, q6, ⟨qc, q7, q8⟩, q9, q10, qr, q11⟩ := id f1
      have hay18 : zAt ad (i) (ad i) := rfl
      have hay19 : zAt ad (i + 11) (ad (i + 11)) := rfl
      have hay20 : zAt ad (i + 12) (ad (i + 12)) := rfl
      have hay21 : zAt ad (i + 17) (ad (i + 17)) := rfl
      have hay22 : zAt ad (i + 1) (ad (i + 1)) := rfl
      have hay23 : zAt ad (i + 13) (ad (i + 13)) := rfl
      obtain ⟨e1, e2, e3, ⟨eb, ef, e4, e5⟩, e6, ⟨ec, e7, e8⟩, e9, e10, er, e11⟩ := id f4
      have hay24 : zAt ad (d) (ad d) := rfl
      have hay25 : zAt ad (d + 11) (ad (d + 11)) := rfl
      have hay26 : zAt ad (d + 12) (ad (d + 12)) := rfl
      have hay27 : zAt ad (d + 17) (ad (d + 17)) := rfl
      have hay28 : zAt ad (d + 1) (ad (d + 1)) := rfl
      have hay29 : zAt ad (d + 13) (ad (d + 13)) := rfl
      refine z_iload_n C 0 dX6_copyFrom_61 rfl ?_
      refine z_aload_n C 1 dX6_copyFrom_62 rfl ?_
      refine z_get (v := .ref (ad (i + 12))) C (lt_A0 hN rfl) hay18 q1 rfl inA_X6 3 (by decide) q_262 rfl rfl dX6_copyFrom_63 ?_
      refine z_alen (z := 6) C (lt_A (c := 12) hN rfl) hay20 q7 5 rfl rfl dX6_copyFrom_66 ?_
      refine z_icmp_ge (tgt := 91) C dX6_copyFrom_67 (by decide) (by omega) (by omega) (fun hb1 => ?_) (fun hb1 => ?_)
      · refine z_aload_n C 1 dX6_copyFrom_91 rfl ?_
        refine z_get (v := .ref (ad (i + 13))) C (lt_A0 hN rfl) hay18 q1 rfl inA_X6 4 (by decide) q_264 rfl rfl dX6_copyFrom_92 ?_
        refine z_aload_n C 2 dX6_copyFrom_95 rfl ?_
        refine z_get (v := .ref (ad (d + 13))) C (by omega) hay24 e1 rfl inA_X6 4 (by decide) q_264 rfl rfl dX6_copyFrom_96 ?_
        obtain ⟨-, -, -, -, -, -, -, n10, -⟩ := id f1
        obtain ⟨-, -, -, -, -, -, -, m10, -⟩ := id f4
        obtain ⟨nu, nv, nw, nn1, nn2, nn3⟩ := id n10
        refine z_cV (As := [.ref (ad (d + 13))]) (rest := []) (ci := 4) C (c_X2_copyFrom l D A cs tt N ad _ (i + 13) (by omega) _ n10 (d + 13) (by omega) _ m10 (by omega)) (lt_A (c := 13) hN rfl) hay23 nn3.1 rfl rfl mv_yX2_copyFrom q_640 hd_yX2_copyFrom (by decide) (Nat.le_of_ble_eq_true rfl) (by decide) dX6_copyFrom_99 rfl (kV0 fun gn hn => ?_)
        obtain ⟨hn5, hn6⟩ := hn
        have hs7 : okState cs ad gn i ac2 nz2 := okState.notes f1 (fun j j1 => hn6 j (by omega)) hn5
        refine z_aload_n C 2 dX6_copyFrom_102 rfl ?_
        have hgy30 := (hn6 (d) (by omega)).trans e1
        refine z_get (v := .ref (ad (d + 17))) C (by omega) hay24 hgy30 rfl inA_X6 5 (by decide) q_266 rfl rfl dX6_copyFrom_103 ?_
        refine z_iconst (z := 0) C dX6_copyFrom_106 rfl ?_
        refine z_aload_n C 1 dX6_copyFrom_107 rfl ?_
        have hgy31 := (hn6 (i) (by omega)).trans q1
        refine z_get (v := .ref (ad (i + 17))) C (lt_A0 hN rfl) hay18 hgy31 rfl inA_X6 5 (by decide) q_266 rfl rfl dX6_copyFrom_108 ?_
        refine z_iconst (z := 0) C dX6_copyFrom_111 rfl ?_
        refine z_aload_n C 1 dX6_copyFrom_112 rfl ?_
        refine z_get (v := .ref (ad (i + 17))) C (lt_A0 hN rfl) hay18 hgy31 rfl inA_X6 5 (by decide) q_266 rfl rfl dX6_copyFrom_113 ?_
        have hgy32 := (hn6 (i + 17) (by omega)).trans q11
        refine z_alen (z := 3) C (lt_A (c := 17) hN rfl) hay21 hgy32 1 rfl rfl dX6_copyFrom_116 ?_
        have hgy33 := (hn6 (d + 17) (by omega)).trans e11
        refine z_copyI C q_645 q_430 q_429 q_21 (by omega) (lt_A (c := 17) hN rfl) hay27 hay21 hgy33 hgy32 0 0 3 rfl rfl rfl (by decide) (by decide) (by decide) (by decide) (Nat.le_of_ble_eq_true rfl) dX6_copyFrom_117 (fun gy34 egy35 => ?_)
        have hgy36 := up_s egy35
        refine z_ext (r' := er) (lt_A (c := 17) hN rfl) hgy36 (fun j hj => cZ_all hj) (fun gy37 egy38 => ?_)
        have hgy39 := up_s egy38
        have hs8 : okState cs ad gy37 i ac2 nz2 := okState.refused hs7 (fun j j1 => by rw [egy38, va_up_ne _ _ (by omega)]; rw [egy35, va_up_ne _ _ (by omega)]) hgy39
        exact z_vret C hr hlk dX6_copyFrom_120 (by decide) (by decide) ⟨rfl, rfl, rfl, hs8, fun j j1 => by rw [egy38, va_up_ne _ _ (by omega)]; rw [egy35, va_up_ne _ _ (by omega)]; rw [hn6 _ (by omega)]; exact f3 j j1⟩
      · refine z_aload_n C 1 dX6_copyFrom_70 rfl ?_
        refine z_get (v := .ref (ad (i + 12))) C (lt_A0 hN rfl) hay18 q1 rfl inA_X6 3 (by decide) q_262 rfl rfl dX6_copyFrom_71 ?_
        refine z_iload_n C 0 dX6_copyFrom_74 rfl ?_
        refine z_aald C (lt_A (c := 12) hN rfl) hay20 q7 5 rfl ((k).toNat) (by omega) (by omega) (by decide) (q8 (k).toNat (by omega)) dX6_copyFrom_75 ?_
        have hay40 : zAt ad (i + 418 + 3 * (k).toNat) (ad (i + 418 + 3 * (k).toNat)) := rfl
        refine z_aload_n C 2 dX6_copyFrom_76 rfl ?_
        refine z_get (v := .ref (ad (d + 12))) C (by omega) hay24 e1 rfl inA_X6 3 (by decide) q_262 rfl rfl dX6_copyFrom_77 ?_
        refine z_iload_n C 0 dX6_copyFrom_80 rfl ?_
        refine z_aald C (by omega) hay26 e7 5 rfl ((k).toNat) (by omega) (by omega) (by decide) (e8 (k).toNat (by omega)) dX6_copyFrom_81 ?_
        have hay41 : zAt ad (d + 418 + 3 * (k).toNat) (ad (d + 418 + 3 * (k).toNat)) := rfl
        obtain ⟨xl, xt, xz, xo, xr, -, -, x3⟩ := q9 (k).toNat (by omega)
        refine z_cV (As := [.ref (ad (d + 418 + 3 * (k).toNat))]) (rest := []) (ci := 6) C (c_X4_copyFrom l D A cs tt N ad _ (i + 418 + 3 * (k).toNat) (by omega) (q9 (k).toNat (by omega)) (d + 418 + 3 * (k).toNat) (by omega) (e9 (k).toNat (by omega)) (by omega)) (by omega) hay40 x3.1 rfl rfl mv_yX4_copyFrom q_635 hd_yX4_copyFrom (by decide) (Nat.le_of_ble_eq_true rfl) (by decide) dX6_copyFrom_82 rfl (kV0 fun gp hp => ?_)
        obtain ⟨hp1, hp2⟩ := hp
        have hs9 : okState cs ad gp i ac2 nz := okState.pit (by omega) f1 hp2 hp1
        refine z_iinc (z := k + 1) (lv' := [(2, .int (zI (k + 1))), (0, .ref (ad i)), (1, .ref (ad d))]) (j := 0) C dX6_copyFrom_85 rfl rfl (by decide) rfl ?_
        refine z_goto (tgt := 61) C dX6_copyFrom_88 (by decide) ?_
        refine z_lv (lv' := [(2, .int (zI (k + 1))), (0, .ref (ad i)), (1, .ref (ad d))]) [0, 1, 2] rfl ?_
        exact ih_lp2 _ (by omega) (k + 1) gp rfl hs9 (fun j j1 => (hp2 j (by omega)).trans (f3 j j1)) (by omega)
  have lp1 : ∀ (n9 : Nat) (k : Int) (g1 : Nat → va_E), (40 - k).toNat = n9 → (okState cs ad g1 i ac2 nz) → (∀ j, j < i ∨ i + 436 ≤ j → g1 j = g j) → (0 ≤ k ∧ k ≤ 40) → zV p l e ({ frames := 3, cells := 0, slots := 0, locals := 180 } : Room) s m ([.ref (ad i), .ref (ad d)] : List Value).toArray below meth c (MQ below (zPost D A (rV0 N ad fun g' => okState cs ad g' i ac2 nz2 ∧ ∀ j, j < i ∨ i + 436 ≤ j → g' j = g j)) ([.ref (ad i), .ref (ad d)] : List Value).toArray s ({ frames := 3, cells := 0, slots := 0, locals := 180 } : Room).cells ({ frames := 3, cells := 0, slots := 0, locals := 180 } : Room).slots A) D A 3 (N) ad g1 (0) (0) 21 [(2, .int (zI (k))), (0, .ref (ad i)), (1, .ref (ad d))] [] := by
    intro n9
    induction n9 using Nat.strongRecOn with
    | ind n9 ih_lp1 =>
      intro k g1 hm9 f1 f3 f9
      have f4 : okState cs ad g1 d ac2 nz2 := hS2.mv (fun _ _ _ => rfl) (fun j j1 j2 => f3 j (by omega))
      obtain ⟨q1, q2, q3, ⟨qb, qf, q4, q5⟩, q6, ⟨qc, q7, q8⟩, q9, q10, qr, q11⟩ := id f1
      have hay42 : zAt ad (i) (ad i) := rfl
      have hay43 : zAt ad (i + 11) (ad (i + 11)) := rfl
      have hay44 : zAt ad (i + 12) (ad (i + 12)) := rfl
      have hay45 : zAt ad (i + 17) (ad (i + 17)) := rfl
      have hay46 : zAt ad (i + 1) (ad (i + 1)) := rfl
      have hay47 : zAt ad (i + 13) (ad (i + 13)) := rfl
      obtain ⟨e1, e2, e3, ⟨eb, ef, e4, e5⟩, e6, ⟨ec, e7, e8⟩, e9, e10, er, e11⟩ := id f4
      have hay48 : zAt ad (d) (ad d) := rfl
      have hay49 : zAt ad (d + 11) (ad (d + 11)) := rfl
      have hay50 : zAt ad (d + 12) (ad (d + 12)) := rfl
      have hay51 : zAt ad (d + 17) (ad (d + 17)) := rfl
      have hay52 : zAt ad (d + 1) (ad (d + 1)) := rfl
      have hay53 : zAt ad (d + 13) (ad (d + 13)) := rfl
      refine z_iload_n C 0 dX6_copyFrom_21 rfl ?_
      refine z_aload_n C 1 dX6_copyFrom_22 rfl ?_
      refine z_get (v := .int (zI (ac2))) C (lt_A0 hN rfl) hay42 q1 rfl inA_X6 2 (by decide) q_260 rfl rfl dX6_copyFrom_23 ?_
      refine z_icmp_ge (tgt := 59) C dX6_copyFrom_26 (by decide) (by omega) (by omega) (fun hb1 => ?_) (fun hb1 => ?_)
      · refine z_iconst (z := 0) C dX6_copyFrom_59 rfl ?_
        refine z_istore_n (lv' := [(2, .int (zI (0))), (0, .ref (ad i)), (1, .ref (ad d))]) C dX6_copyFrom_60 rfl (by decide) rfl ?_
        refine z_lv (lv' := [(2, .int (zI (0))), (0, .ref (ad i)), (1, .ref (ad d))]) [0, 1, 2] rfl ?_
        exact lp2 _ (0) g1 rfl f1 f3 (by omega)
      · refine z_iload_n C 0 dX6_copyFrom_29 rfl ?_
        refine z_aload_n C 1 dX6_copyFrom_30 rfl ?_
        refine z_get (v := .ref (ad (i + 11))) C (lt_A0 hN rfl) hay42 q1 rfl inA_X6 1 (by decide) q_259 rfl rfl dX6_copyFrom_31 ?_
        refine z_alen (z := 40) C (lt_A (c := 11) hN rfl) hay43 q4 4 rfl rfl dX6_copyFrom_34 ?_
        refine z_icmp_ge (tgt := 59) C dX6_copyFrom_35 (by decide) (by omega) (by omega) (fun hb2 => ?_) (fun hb2 => ?_)
        · refine z_iconst (z := 0) C dX6_copyFrom_59 rfl ?_
          refine z_istore_n (lv' := [(2, .int (zI (0))), (0, .ref (ad i)), (1, .ref (ad d))]) C dX6_copyFrom_60 rfl (by decide) rfl ?_
          refine z_lv (lv' := [(2, .int (zI (0))), (0, .ref (ad i)), (1, .ref (ad d))]) [0, 1, 2] rfl ?_
          exact lp2 _ (0) g1 rfl f1 f3 (by omega)
        · refine z_aload_n C 1 dX6_copyFrom_38 rfl ?_
          refine z_get (v := .ref (ad (i + 11))) C (lt_A0 hN rfl) hay42 q1 rfl inA_X6 1 (by decide) q_259 rfl rfl dX6_copyFrom_39 ?_
          refine z_iload_n C 0 dX6_copyFrom_42 rfl ?_
          refine z_aald C (lt_A (c := 11) hN rfl) hay43 q4 4 rfl ((k).toNat) (by omega) (by omega) (by decide) (q5 (k).toNat (by omega)).2 dX6_copyFrom_43 ?_
          have hay54 : zAt ad (i + 18 + 10 * qf (k).toNat) (ad (i + 18 + 10 * qf (k).toNat)) := rfl
          have pk := (q5 (k).toNat (by omega)).1
          refine z_aload_n C 2 dX6_copyFrom_44 rfl ?_
          refine z_get (v := .ref (ad (d + 11))) C (by omega) hay48 e1 rfl inA_X6 1 (by decide) q_259 rfl rfl dX6_copyFrom_45 ?_
          refine z_iload_n C 0 dX6_copyFrom_48 rfl ?_
          refine z_aald C (by omega) hay49 e4 4 rfl ((k).toNat) (by omega) (by omega) (by decide) (e5 (k).toNat (by omega)).2 dX6_copyFrom_49 ?_
          have hay55 : zAt ad (d + 18 + 10 * ef (k).toNat) (ad (d + 18 + 10 * ef (k).toNat)) := rfl
          have pk2 := (e5 (k).toNat (by omega)).1
          obtain ⟨xt, xz, xo, xr, -, -, x3⟩ := q6 (qf (k).toNat) (by omega)
          refine z_cV (As := [.ref (ad (d + 18 + 10 * ef (k).toNat))]) (rest := []) (ci := 10) C (c_X8_copyFrom l D A cs tt N ad _ (i + 18 + 10 * qf (k).toNat) (by omega) (q6 (qf (k).toNat) (by omega)) (d + 18 + 10 * ef (k).toNat) (by omega) (e6 (ef (k).toNat) (by omega)) (by omega)) (by omega) hay54 x3.1 rfl rfl mv_yX8_copyFrom q_420 hd_yX8_copyFrom (by decide) (Nat.le_of_ble_eq_true rfl) (by decide) dX6_copyFrom_50 rfl (kV0 fun gp hp => ?_)
          obtain ⟨⟨u1, u2, u3, u4, u5, u6, -, u7⟩, hp2⟩ := hp
          have hs9 : okState cs ad gp i ac2 nz := okState.bef pk f1 hp2 ⟨_, _, _, _, u5, u6, u7⟩
          refine z_iinc (z := k + 1) (lv' := [(2, .int (zI (k + 1))), (0, .ref (ad i)), (1, .ref (ad d))]) (j := 0) C dX6_copyFrom_53 rfl rfl (by decide) rfl ?_
          refine z_goto (tgt := 21) C dX6_copyFrom_56 (by decide) ?_
          refine z_lv (lv' := [(2, .int (zI (k + 1))), (0, .ref (ad i)), (1, .ref (ad d))]) [0, 1, 2] rfl ?_
          exact ih_lp1 _ (by omega) (k + 1) gp rfl hs9 (fun j j1 => (hp2 j (by omega)).trans (f3 j j1)) (by omega)
  refine z_lv (lv' := [(2, .int (zI (0))), (0, .ref (ad i)), (1, .ref (ad d))]) [0, 1, 2] rfl ?_
  exact lp1 _ (0) gy15 rfl hs3 hfr (by omega)

set_option maxRecDepth 100000 in
set_option maxHeartbeats 4000000 in
theorem c_X6_keepPit (l : Launch) (D : va_G) (A : Nat → Prop) (cs : Nat → ClassId) (tt : Nat) (N : Nat) (ad : Nat → Nat) (g : Nat → va_E) (i : Nat) (hN : i + 436 ≤ N) (ac nz : Int) (hS : okState cs ad g i ac nz) (z : Int) (hzs : 0 ≤ z ∧ z ≤ 3) : zM l yX6_keepPit cX6_keepPit 3 none ({ frames := 3, cells := 0, slots := 0, locals := 180 } : Room) D A cs tt N ad g [.ref (ad i), .int (zI (z))] (rV0 N ad fun g' => okState cs ad g' i ac nz ∧ ∀ j, j < i ∨ i + 436 ≤ j → g' j = g j) := by
  obtain ⟨q1, q2, q3, ⟨qb, qf, q4, q5⟩, q6, ⟨qc, q7, q8⟩, q9, q10, qr, q11⟩ := id hS
  have hay1 : zAt ad (i) (ad i) := rfl
  have hay2 : zAt ad (i + 11) (ad (i + 11)) := rfl
  have hay3 : zAt ad (i + 12) (ad (i + 12)) := rfl
  have hay4 : zAt ad (i + 17) (ad (i + 17)) := rfl
  have hay5 : zAt ad (i + 1) (ad (i + 1)) := rfl
  have hay6 : zAt ad (i + 13) (ad (i + 13)) := rfl
  obtain ⟨ut, uz, uo, ur, uz4, ut5, u1, ⟨uu, u2, u3⟩, u4⟩ := id q3
  have hay7 : zAt ad (i + 1) (ad (i + 1)) := rfl
  have hay8 : zAt ad (i + 1 + 1) (ad (i + 1 + 1)) := rfl
  refine z_of (by decide) (Nat.le_of_ble_eq_true rfl) ?_
  intro p e s m below meth c C hr hlk hnm
  refine z_lv (lv' := [(0, .ref (ad i)), (1, .int (zI (z)))]) [0, 1] rfl ?_
  refine z_aload_n C 0 dX6_keepPit_0 rfl ?_
  refine z_get (v := .ref (ad (i + 1))) C (lt_A0 hN rfl) hay1 q1 rfl inA_X6 0 (by decide) q_257 rfl rfl dX6_keepPit_1 ?_
  refine z_get (v := .int (zI (ut 5))) C (lt_A (c := 1) hN rfl) hay7 u1 rfl inA_X8 5 (by decide) q_187 rfl rfl dX6_keepPit_4 ?_
  refine z_bipush (z := 6) C dX6_keepPit_7 (by decide) ?_
  refine z_icmp_ge (tgt := 70) C dX6_keepPit_9 (by decide) (by omega) (by omega) (fun hb1 => ?_) (fun hb1 => ?_)
  · exact z_vret C hr hlk dX6_keepPit_70 (by decide) (by decide) ⟨rfl, rfl, rfl, hS, fun j _ => rfl⟩
  · refine z_aload_n C 0 dX6_keepPit_12 rfl ?_
    refine z_get (v := .ref (ad (i + 12))) C (lt_A0 hN rfl) hay1 q1 rfl inA_X6 3 (by decide) q_262 rfl rfl dX6_keepPit_13 ?_
    refine z_aload_n C 0 dX6_keepPit_16 rfl ?_
    refine z_get (v := .ref (ad (i + 1))) C (lt_A0 hN rfl) hay1 q1 rfl inA_X6 0 (by decide) q_257 rfl rfl dX6_keepPit_17 ?_
    refine z_get (v := .int (zI (ut 5))) C (lt_A (c := 1) hN rfl) hay7 u1 rfl inA_X8 5 (by decide) q_187 rfl rfl dX6_keepPit_20 ?_
    refine z_aald C (lt_A (c := 12) hN rfl) hay3 q7 5 rfl ((ut 5).toNat) (by omega) (by omega) (by decide) (q8 (ut 5).toNat (by omega)) dX6_keepPit_23 ?_
    have hay9 : zAt ad (i + 418 + 3 * (ut 5).toNat) (ad (i + 418 + 3 * (ut 5).toNat)) := rfl
    have hay10 : zAt ad (i + 418 + 3 * (ut 5).toNat + 1) (ad (i + 418 + 3 * (ut 5).toNat + 1)) := rfl
    have hay11 : zAt ad (i + 418 + 3 * (ut 5).toNat + 1 + 1) (ad (i + 418 + 3 * (ut 5).toNat + 1 + 1)) := rfl
    obtain ⟨xl, xt, xz, xo, xr, x1, x2, x3, x4⟩ := q9 (ut 5).toNat (by omega)
    refine z_astore_n (lv' := [(2, .ref (ad (i + 418 + 3 * (ut 5).toNat))), (0, .ref (ad i)), (1, .int (zI (z)))]) C dX6_keepPit_24 rfl (by decide) rfl ?_
    refine z_aload_n C 0 dX6_keepPit_25 rfl ?_
    refine z_iload_n C 2 dX6_keepPit_26 rfl ?_
    refine z_put (fs' := [.int (zI (z)), .int (zI (xt)), .ref (ad (i + 418 + 3 * (ut 5).toNat + 1))]) C (by omega) hay9 x3 tyX4 tyX4_ok nmX4 rfl inA_X4 0 (by decide) q_242 rfl rfl rfl rfl (Nat.le_of_ble_eq_true rfl) rfl dX6_keepPit_27 (fun gy12 egy13 => ?_)
    have hgy14 := up_s egy13
    refine z_aload_n C 0 dX6_keepPit_30 rfl ?_
    refine z_aload_n C 1 dX6_keepPit_31 rfl ?_
    have hgy15 := up_n egy13 q1 (by omega)
    refine z_get (v := .ref (ad (i + 1))) C (lt_A0 hN rfl) hay1 hgy15 rfl inA_X6 0 (by decide) q_257 rfl rfl dX6_keepPit_32 ?_
    have hgy16 := up_n egy13 u1 (by omega)
    refine z_get (v := .int (zI (ut 0))) C (lt_A (c := 1) hN rfl) hay7 hgy16 rfl inA_X8 0 (by decide) q_175 rfl rfl dX6_keepPit_35 ?_
    refine z_put (fs' := [.int (zI (z)), .int (zI (ut 0)), .ref (ad (i + 418 + 3 * (ut 5).toNat + 1))]) C (by omega) hay9 hgy14 tyX4 tyX4_ok nmX4 rfl inA_X4 1 (by decide) q_245 rfl rfl rfl rfl (Nat.le_of_ble_eq_true rfl) rfl dX6_keepPit_38 (fun gy17 egy18 => ?_)
    have hgy19 := up_s egy18
    refine z_aload_n C 0 dX6_keepPit_41 rfl ?_
    refine z_get (v := .ref (ad (i + 418 + 3 * (ut 5).toNat + 1))) C (by omega) hay9 hgy19 rfl inA_X4 2 (by decide) q_248 rfl rfl dX6_keepPit_42 ?_
    refine z_aload_n C 1 dX6_keepPit_45 rfl ?_
    have hgy20 := up_n egy18 hgy15 (by omega)
    refine z_get (v := .ref (ad (i + 1))) C (lt_A0 hN rfl) hay1 hgy20 rfl inA_X6 0 (by decide) q_257 rfl rfl dX6_keepPit_46 ?_
    have hgy21 := up_n egy18 hgy16 (by omega)
    refine z_get (v := .ref (ad (i + 1 + 1))) C (lt_A (c := 1) hN rfl) hay7 hgy21 rfl inA_X8 6 (by decide) q_190 rfl rfl dX6_keepPit_49 ?_
    refine z_iload_n C 2 dX6_keepPit_52 rfl ?_
    have hgy22 := up_n egy13 u2 (by omega)
    have hgy23 := up_n egy18 hgy22 (by omega)
    refine z_aald C (lt_A (c := 2) hN rfl) hay8 hgy23 3 rfl ((z).toNat) (by omega) (by omega) (by decide) (u3 (z).toNat (by omega)) dX6_keepPit_53 ?_
    have hay24 : zAt ad (i + 1 + 2 + 2 * (z).toNat) (ad (i + 1 + 2 + 2 * (z).toNat)) := rfl
    have hay25 : zAt ad (i + 1 + 2 + 2 * (z).toNat + 1) (ad (i + 1 + 2 + 2 * (z).toNat + 1)) := rfl
    have hpy26 := u4 (z).toNat (by omega)
    have hqy27 := uz4 (z).toNat (by omega)
    have hgy28 := up_n egy13 x4.1 (ne_o (i := i + 418 + 3 * (ut 5).toNat) (c := 1) (d := 0) rfl)
    have hgy29 := up_n egy18 hgy28 (ne_o (i := i + 418 + 3 * (ut 5).toNat) (c := 1) (d := 0) rfl)
    have hgy30 := up_n egy13 x4.2 (ne_o (i := i + 418 + 3 * (ut 5).toNat) (c := 2) (d := 0) rfl)
    have hgy31 := up_n egy18 hgy30 (ne_o (i := i + 418 + 3 * (ut 5).toNat) (c := 2) (d := 0) rfl)
    have hgy32 := up_n egy13 hpy26.1 (by omega)
    have hgy33 := up_n egy18 hgy32 (by omega)
    have hgy34 := up_n egy13 hpy26.2 (by omega)
    have hgy35 := up_n egy18 hgy34 (by omega)
    refine z_cV (As := [.ref (ad (i + 1 + 2 + 2 * (z).toNat))]) (rest := []) (ci := 5) C (c_X3_copyFrom l D A cs tt N ad _ (i + 418 + 3 * (ut 5).toNat + 1) (by omega) _ _ _ x2 ⟨hgy29, hgy31⟩ (i + 1 + 2 + 2 * (z).toNat) (by omega) _ _ _ (by omega) ⟨hgy33, hgy35⟩ (by omega)) (by omega) hay10 hgy29 rfl rfl mv_yX3_copyFrom q_606 hd_yX3_copyFrom (by decide) (Nat.le_of_ble_eq_true rfl) (by decide) dX6_keepPit_54 rfl (kV0 fun gc hc => ?_)
    obtain ⟨hp, hf⟩ := hc
    have hgy36 := (hf (i + 418 + 3 * (ut 5).toNat) (ne_o (i := i + 418 + 3 * (ut 5).toNat) (c := 0) (d := 1) rfl) (ne_o (i := i + 418 + 3 * (ut 5).toNat) (c := 0) (d := 2) rfl)).trans hgy19
    have hpit : okPit cs ad gc (i + 418 + 3 * (ut 5).toNat) := ⟨_, _, _, _, _, by omega, by omega, hgy36, hp⟩
    have hs5 : okState cs ad gc i ac nz := okState.pit (by omega) hS (fun j j1 => by rw [hf _ (by omega) (by omega)]; rw [egy18, va_up_ne _ _ (by omega)]; rw [egy13, va_up_ne _ _ (by omega)]) hpit
    refine z_aload_n C 1 dX6_keepPit_57 rfl ?_
    have hgy37 := (hf (i) (by omega) (by omega)).trans hgy20
    refine z_get (v := .ref (ad (i + 1))) C (lt_A0 hN rfl) hay1 hgy37 rfl inA_X6 0 (by decide) q_257 rfl rfl dX6_keepPit_58 ?_
    refine z_dup C dX6_keepPit_61 rfl ?_
    have hgy38 := (hf (i + 1) (by omega) (by omega)).trans hgy21
    refine z_get (v := .int (zI (ut 5))) C (lt_A (c := 1) hN rfl) hay7 hgy38 rfl inA_X8 5 (by decide) q_187 rfl rfl dX6_keepPit_62 ?_
    refine z_iconst (z := 1) C dX6_keepPit_65 rfl ?_
    refine z_iadd C dX6_keepPit_66 ?_
    refine z_put (fs' := [.int (zI (ut 0)), .int (zI (ut 1)), .int (zI (ut 2)), .int (zI (ut 3)), .int (zI (ut 4)), .int (zI ((ut 5) + 1)), .ref (ad (i + 1 + 1))]) C (lt_A (c := 1) hN rfl) hay7 hgy38 tyX8 tyX8_ok nmX8 rfl inA_X8 5 (by decide) q_187 rfl rfl rfl rfl (Nat.le_of_ble_eq_true rfl) rfl dX6_keepPit_67 (fun gy39 egy40 => ?_)
    have hgy41 := up_s egy40
    have hw6 : okWorld cs ad gy39 (i + 1) := okWorld.head hs5.2.2.1 (fun j j1 => by rw [egy40, va_up_ne _ _ (by omega)]) (by omega) hgy41
    have hs6 : okState cs ad gy39 i ac nz := okState.now hs5 (fun j j1 => by rw [egy40, va_up_ne _ _ (by omega)]) hw6
    exact z_vret C hr hlk dX6_keepPit_70 (by decide) (by decide) ⟨rfl, rfl, rfl, hs6, fun j j1 => by rw [egy40, va_up_ne _ _ (by omega)]; rw [hf _ (by omega) (by omega)]; rw [egy18, va_up_ne _ _ (by omega)]; rw [egy13, va_up_ne _ _ (by omega)]⟩
end
section
-- 35.words.lean.txt
-- words of like
theorem q_1338 : (Jvm.Cond.methodLink "SnowRecorder$Likeness" (24 : Nat) ({ cls := "java/lang/Math", name := "max", desc := "(II)I" } : Jvm.MethodName)) ∈ AW := AW_m6 138 (by decide +kernel) (by decide +kernel)
theorem q_1343 : (Jvm.Cond.methodLink "SnowRecorder$Likeness" (30 : Nat) ({ cls := "java/lang/Math", name := "min", desc := "(II)I" } : Jvm.MethodName)) ∈ AW := AW_m6 143 (by decide +kernel) (by decide +kernel)
theorem q_155 : (Jvm.Cond.fieldLink "SnowRecorder$Likeness" (15 : Nat) "SnowRecorder$Pack" "size" "I") ∈ AW := AW_m1 155 (by decide +kernel) (by decide +kernel)
theorem q_163 : (Jvm.Cond.fieldLink "SnowRecorder$Likeness" (21 : Nat) "SnowRecorder$Pack" "cells" "[I") ∈ AW := AW_m1 163 (by decide +kernel) (by decide +kernel)
end
section
-- 36.dec.lean.txt
-- decode rows of like
theorem dX0_clear_0 : decode cX0_clear 0 = .ok (.aload_n 0, 1) := by decide +kernel
theorem dX0_clear_1 : decode cX0_clear 1 = .ok (.iconst 0, 1) := by decide +kernel
theorem dX0_clear_2 : decode cX0_clear 2 = .ok (.putfield 9, 3) := by decide +kernel
theorem dX0_clear_5 : decode cX0_clear 5 = .ok (.aload_n 0, 1) := by decide +kernel
theorem dX0_clear_6 : decode cX0_clear 6 = .ok (.iconst (-1), 1) := by decide +kernel
theorem dX0_clear_7 : decode cX0_clear 7 = .ok (.putfield 15, 3) := by decide +kernel
theorem dX0_clear_10 : decode cX0_clear 10 = .ok (.iconst 0, 1) := by decide +kernel
theorem dX0_clear_11 : decode cX0_clear 11 = .ok (.istore_n 1, 1) := by decide +kernel
theorem dX0_clear_12 : decode cX0_clear 12 = .ok (.iload_n 1, 1) := by decide +kernel
theorem dX0_clear_13 : decode cX0_clear 13 = .ok (.aload_n 0, 1) := by decide +kernel
theorem dX0_clear_14 : decode cX0_clear 14 = .ok (.getfield 18, 3) := by decide +kernel
theorem dX0_clear_17 : decode cX0_clear 17 = .ok (.arraylength, 1) := by decide +kernel
theorem dX0_clear_18 : decode cX0_clear 18 = .ok (.if_icmp .ge 16, 3) := by decide +kernel
theorem dX0_clear_21 : decode cX0_clear 21 = .ok (.aload_n 0, 1) := by decide +kernel
theorem dX0_clear_22 : decode cX0_clear 22 = .ok (.getfield 18, 3) := by decide +kernel
theorem dX0_clear_25 : decode cX0_clear 25 = .ok (.iload_n 1, 1) := by decide +kernel
theorem dX0_clear_26 : decode cX0_clear 26 = .ok (.iconst 0, 1) := by decide +kernel
theorem dX0_clear_27 : decode cX0_clear 27 = .ok (.iastore, 1) := by decide +kernel
theorem dX0_clear_28 : decode cX0_clear 28 = .ok (.iinc 1 1, 3) := by decide +kernel
theorem dX0_clear_31 : decode cX0_clear 31 = .ok (.goto (-19), 3) := by decide +kernel
theorem dX0_clear_34 : decode cX0_clear 34 = .ok (.return_, 1) := by decide +kernel
theorem dX0_add_0 : decode cX0_add 0 = .ok (.aload_n 0, 1) := by decide +kernel
theorem dX0_add_1 : decode cX0_add 1 = .ok (.getfield 9, 3) := by decide +kernel
theorem dX0_add_4 : decode cX0_add 4 = .ok (.ifCond .ne 8, 3) := by decide +kernel
theorem dX0_add_12 : decode cX0_add 12 = .ok (.aload_n 0, 1) := by decide +kernel
theorem dX0_add_13 : decode cX0_add 13 = .ok (.dup, 1) := by decide +kernel
theorem dX0_add_14 : decode cX0_add 14 = .ok (.getfield 9, 3) := by decide +kernel
theorem dX0_add_17 : decode cX0_add 17 = .ok (.iconst 1, 1) := by decide +kernel
theorem dX0_add_18 : decode cX0_add 18 = .ok (.iadd, 1) := by decide +kernel
theorem dX0_add_19 : decode cX0_add 19 = .ok (.putfield 9, 3) := by decide +kernel
theorem dX0_add_22 : decode cX0_add 22 = .ok (.return_, 1) := by decide +kernel
theorem dX0_add_7 : decode cX0_add 7 = .ok (.aload_n 0, 1) := by decide +kernel
theorem dX0_add_8 : decode cX0_add 8 = .ok (.iload_n 1, 1) := by decide +kernel
theorem dX0_add_9 : decode cX0_add 9 = .ok (.putfield 15, 3) := by decide +kernel
theorem dX0_see_0 : decode cX0_see 0 = .ok (.aload_n 0, 1) := by decide +kernel
theorem dX0_see_1 : decode cX0_see 1 = .ok (.getfield 24, 3) := by decide +kernel
theorem dX0_see_4 : decode cX0_see 4 = .ok (.iload_n 1, 1) := by decide +kernel
theorem dX0_see_5 : decode cX0_see 5 = .ok (.aaload, 1) := by decide +kernel
theorem dX0_see_6 : decode cX0_see 6 = .ok (.astore_n 3, 1) := by decide +kernel
theorem dX0_see_7 : decode cX0_see 7 = .ok (.iconst 0, 1) := by decide +kernel
theorem dX0_see_8 : decode cX0_see 8 = .ok (.istore 4, 2) := by decide +kernel
theorem dX0_see_10 : decode cX0_see 10 = .ok (.iload 4, 2) := by decide +kernel
theorem dX0_see_12 : decode cX0_see 12 = .ok (.aload_n 0, 1) := by decide +kernel
theorem dX0_see_13 : decode cX0_see 13 = .ok (.getfield 18, 3) := by decide +kernel
theorem dX0_see_16 : decode cX0_see 16 = .ok (.iload_n 1, 1) := by decide +kernel
theorem dX0_see_17 : decode cX0_see 17 = .ok (.iaload, 1) := by decide +kernel
theorem dX0_see_18 : decode cX0_see 18 = .ok (.if_icmp .ge 18, 3) := by decide +kernel
theorem dX0_see_36 : decode cX0_see 36 = .ok (.aload_n 0, 1) := by decide +kernel
theorem dX0_see_37 : decode cX0_see 37 = .ok (.getfield 18, 3) := by decide +kernel
theorem dX0_see_40 : decode cX0_see 40 = .ok (.iload_n 1, 1) := by decide +kernel
theorem dX0_see_41 : decode cX0_see 41 = .ok (.iaload, 1) := by decide +kernel
theorem dX0_see_42 : decode cX0_see 42 = .ok (.aload_n 3, 1) := by decide +kernel
theorem dX0_see_43 : decode cX0_see 43 = .ok (.arraylength, 1) := by decide +kernel
theorem dX0_see_44 : decode cX0_see 44 = .ok (.if_icmp .ge 22, 3) := by decide +kernel
theorem dX0_see_66 : decode cX0_see 66 = .ok (.return_, 1) := by decide +kernel
theorem dX0_see_47 : decode cX0_see 47 = .ok (.aload_n 3, 1) := by decide +kernel
theorem dX0_see_48 : decode cX0_see 48 = .ok (.aload_n 0, 1) := by decide +kernel
theorem dX0_see_49 : decode cX0_see 49 = .ok (.getfield 18, 3) := by decide +kernel
theorem dX0_see_52 : decode cX0_see 52 = .ok (.iload_n 1, 1) := by decide +kernel
theorem dX0_see_53 : decode cX0_see 53 = .ok (.iaload, 1) := by decide +kernel
theorem dX0_see_54 : decode cX0_see 54 = .ok (.iload_n 2, 1) := by decide +kernel
theorem dX0_see_55 : decode cX0_see 55 = .ok (.iastore, 1) := by decide +kernel
theorem dX0_see_56 : decode cX0_see 56 = .ok (.aload_n 0, 1) := by decide +kernel
theorem dX0_see_57 : decode cX0_see 57 = .ok (.getfield 18, 3) := by decide +kernel
theorem dX0_see_60 : decode cX0_see 60 = .ok (.iload_n 1, 1) := by decide +kernel
theorem dX0_see_61 : decode cX0_see 61 = .ok (.dup2, 1) := by decide +kernel
theorem dX0_see_62 : decode cX0_see 62 = .ok (.iaload, 1) := by decide +kernel
theorem dX0_see_63 : decode cX0_see 63 = .ok (.iconst 1, 1) := by decide +kernel
theorem dX0_see_64 : decode cX0_see 64 = .ok (.iadd, 1) := by decide +kernel
theorem dX0_see_65 : decode cX0_see 65 = .ok (.iastore, 1) := by decide +kernel
theorem dX0_see_21 : decode cX0_see 21 = .ok (.aload_n 3, 1) := by decide +kernel
theorem dX0_see_22 : decode cX0_see 22 = .ok (.iload 4, 2) := by decide +kernel
theorem dX0_see_24 : decode cX0_see 24 = .ok (.iaload, 1) := by decide +kernel
theorem dX0_see_25 : decode cX0_see 25 = .ok (.iload_n 2, 1) := by decide +kernel
theorem dX0_see_26 : decode cX0_see 26 = .ok (.if_icmp .ne 4, 3) := by decide +kernel
theorem dX0_see_30 : decode cX0_see 30 = .ok (.iinc 4 1, 3) := by decide +kernel
theorem dX0_see_33 : decode cX0_see 33 = .ok (.goto (-23), 3) := by decide +kernel
theorem dX0_see_29 : decode cX0_see 29 = .ok (.return_, 1) := by decide +kernel
theorem dX1_longestRow_25 : decode cX1_longestRow 25 = .ok (.iload_n 3, 1) := by decide +kernel
theorem dX1_longestRow_26 : decode cX1_longestRow 26 = .ok (.aload_n 1, 1) := by decide +kernel
theorem dX1_longestRow_27 : decode cX1_longestRow 27 = .ok (.getfield 15, 3) := by decide +kernel
theorem dX1_longestRow_30 : decode cX1_longestRow 30 = .ok (.if_icmp .ge 105, 3) := by decide +kernel
theorem dX1_longestRow_135 : decode cX1_longestRow 135 = .ok (.aload_n 0, 1) := by decide +kernel
theorem dX1_longestRow_136 : decode cX1_longestRow 136 = .ok (.getfield 9, 3) := by decide +kernel
theorem dX1_longestRow_139 : decode cX1_longestRow 139 = .ok (.aload_n 2, 1) := by decide +kernel
theorem dX1_longestRow_140 : decode cX1_longestRow 140 = .ok (.getfield 15, 3) := by decide +kernel
theorem dX1_longestRow_143 : decode cX1_longestRow 143 = .ok (.iaload, 1) := by decide +kernel
theorem dX1_longestRow_144 : decode cX1_longestRow 144 = .ok (.ireturn, 1) := by decide +kernel
theorem dX1_longestRow_33 : decode cX1_longestRow 33 = .ok (.iconst 0, 1) := by decide +kernel
theorem dX1_longestRow_34 : decode cX1_longestRow 34 = .ok (.istore 4, 2) := by decide +kernel
theorem dX1_longestRow_36 : decode cX1_longestRow 36 = .ok (.iconst 0, 1) := by decide +kernel
theorem dX1_longestRow_37 : decode cX1_longestRow 37 = .ok (.istore 5, 2) := by decide +kernel
theorem dX1_longestRow_39 : decode cX1_longestRow 39 = .ok (.iload 5, 2) := by decide +kernel
theorem dX1_longestRow_41 : decode cX1_longestRow 41 = .ok (.aload_n 2, 1) := by decide +kernel
theorem dX1_longestRow_42 : decode cX1_longestRow 42 = .ok (.getfield 15, 3) := by decide +kernel
theorem dX1_longestRow_45 : decode cX1_longestRow 45 = .ok (.if_icmp .ge 84, 3) := by decide +kernel
theorem dX1_longestRow_129 : decode cX1_longestRow 129 = .ok (.iinc 3 1, 3) := by decide +kernel
theorem dX1_longestRow_132 : decode cX1_longestRow 132 = .ok (.goto (-107), 3) := by decide +kernel
theorem dX1_longestRow_48 : decode cX1_longestRow 48 = .ok (.aload_n 0, 1) := by decide +kernel
theorem dX1_longestRow_49 : decode cX1_longestRow 49 = .ok (.getfield 9, 3) := by decide +kernel
theorem dX1_longestRow_52 : decode cX1_longestRow 52 = .ok (.iload 5, 2) := by decide +kernel
theorem dX1_longestRow_54 : decode cX1_longestRow 54 = .ok (.iconst 1, 1) := by decide +kernel
theorem dX1_longestRow_55 : decode cX1_longestRow 55 = .ok (.iadd, 1) := by decide +kernel
theorem dX1_longestRow_56 : decode cX1_longestRow 56 = .ok (.iaload, 1) := by decide +kernel
theorem dX1_longestRow_57 : decode cX1_longestRow 57 = .ok (.istore 6, 2) := by decide +kernel
theorem dX1_longestRow_59 : decode cX1_longestRow 59 = .ok (.aload_n 1, 1) := by decide +kernel
theorem dX1_longestRow_60 : decode cX1_longestRow 60 = .ok (.getfield 21, 3) := by decide +kernel
theorem dX1_longestRow_63 : decode cX1_longestRow 63 = .ok (.iconst 0, 1) := by decide +kernel
theorem dX1_longestRow_64 : decode cX1_longestRow 64 = .ok (.iload_n 3, 1) := by decide +kernel
theorem dX1_longestRow_65 : decode cX1_longestRow 65 = .ok (.iadd, 1) := by decide +kernel
theorem dX1_longestRow_66 : decode cX1_longestRow 66 = .ok (.iaload, 1) := by decide +kernel
theorem dX1_longestRow_67 : decode cX1_longestRow 67 = .ok (.aload_n 2, 1) := by decide +kernel
theorem dX1_longestRow_68 : decode cX1_longestRow 68 = .ok (.getfield 21, 3) := by decide +kernel
theorem dX1_longestRow_71 : decode cX1_longestRow 71 = .ok (.iconst 0, 1) := by decide +kernel
theorem dX1_longestRow_72 : decode cX1_longestRow 72 = .ok (.iload 5, 2) := by decide +kernel
theorem dX1_longestRow_74 : decode cX1_longestRow 74 = .ok (.iadd, 1) := by decide +kernel
theorem dX1_longestRow_75 : decode cX1_longestRow 75 = .ok (.iaload, 1) := by decide +kernel
theorem dX1_longestRow_76 : decode cX1_longestRow 76 = .ok (.if_icmp .ne 7, 3) := by decide +kernel
theorem dX1_longestRow_83 : decode cX1_longestRow 83 = .ok (.iconst 0, 1) := by decide +kernel
theorem dX1_longestRow_84 : decode cX1_longestRow 84 = .ok (.istore 7, 2) := by decide +kernel
theorem dX1_longestRow_86 : decode cX1_longestRow 86 = .ok (.aload_n 0, 1) := by decide +kernel
theorem dX1_longestRow_87 : decode cX1_longestRow 87 = .ok (.getfield 9, 3) := by decide +kernel
theorem dX1_longestRow_90 : decode cX1_longestRow 90 = .ok (.iload 5, 2) := by decide +kernel
theorem dX1_longestRow_92 : decode cX1_longestRow 92 = .ok (.iconst 1, 1) := by decide +kernel
theorem dX1_longestRow_93 : decode cX1_longestRow 93 = .ok (.iadd, 1) := by decide +kernel
theorem dX1_longestRow_94 : decode cX1_longestRow 94 = .ok (.iload 7, 2) := by decide +kernel
theorem dX1_longestRow_96 : decode cX1_longestRow 96 = .ok (.ifCond .eq 10, 3) := by decide +kernel
theorem dX1_longestRow_106 : decode cX1_longestRow 106 = .ok (.iload 6, 2) := by decide +kernel
theorem dX1_longestRow_108 : decode cX1_longestRow 108 = .ok (.aload_n 0, 1) := by decide +kernel
theorem dX1_longestRow_109 : decode cX1_longestRow 109 = .ok (.getfield 9, 3) := by decide +kernel
theorem dX1_longestRow_112 : decode cX1_longestRow 112 = .ok (.iload 5, 2) := by decide +kernel
theorem dX1_longestRow_114 : decode cX1_longestRow 114 = .ok (.iaload, 1) := by decide +kernel
theorem dX1_longestRow_115 : decode cX1_longestRow 115 = .ok (.invokestatic 24, 3) := by decide +kernel
theorem dX1_longestRow_118 : decode cX1_longestRow 118 = .ok (.iastore, 1) := by decide +kernel
theorem dX1_longestRow_119 : decode cX1_longestRow 119 = .ok (.iload 6, 2) := by decide +kernel
theorem dX1_longestRow_121 : decode cX1_longestRow 121 = .ok (.istore 4, 2) := by decide +kernel
theorem dX1_longestRow_123 : decode cX1_longestRow 123 = .ok (.iinc 5 1, 3) := by decide +kernel
theorem dX1_longestRow_126 : decode cX1_longestRow 126 = .ok (.goto (-87), 3) := by decide +kernel
theorem dX1_longestRow_79 : decode cX1_longestRow 79 = .ok (.iconst 1, 1) := by decide +kernel
theorem dX1_longestRow_80 : decode cX1_longestRow 80 = .ok (.goto 4, 3) := by decide +kernel
theorem dX1_longestRow_99 : decode cX1_longestRow 99 = .ok (.iload 4, 2) := by decide +kernel
theorem dX1_longestRow_101 : decode cX1_longestRow 101 = .ok (.iconst 1, 1) := by decide +kernel
theorem dX1_longestRow_102 : decode cX1_longestRow 102 = .ok (.iadd, 1) := by decide +kernel
theorem dX1_longestRow_103 : decode cX1_longestRow 103 = .ok (.goto 15, 3) := by decide +kernel
theorem dX1_longestRow_2 : decode cX1_longestRow 2 = .ok (.iload_n 3, 1) := by decide +kernel
theorem dX1_longestRow_3 : decode cX1_longestRow 3 = .ok (.aload_n 2, 1) := by decide +kernel
theorem dX1_longestRow_4 : decode cX1_longestRow 4 = .ok (.getfield 15, 3) := by decide +kernel
theorem dX1_longestRow_7 : decode cX1_longestRow 7 = .ok (.if_icmp .gt 16, 3) := by decide +kernel
theorem dX1_longestRow_23 : decode cX1_longestRow 23 = .ok (.iconst 0, 1) := by decide +kernel
theorem dX1_longestRow_24 : decode cX1_longestRow 24 = .ok (.istore_n 3, 1) := by decide +kernel
theorem dX1_longestRow_10 : decode cX1_longestRow 10 = .ok (.aload_n 0, 1) := by decide +kernel
theorem dX1_longestRow_11 : decode cX1_longestRow 11 = .ok (.getfield 9, 3) := by decide +kernel
theorem dX1_longestRow_14 : decode cX1_longestRow 14 = .ok (.iload_n 3, 1) := by decide +kernel
theorem dX1_longestRow_15 : decode cX1_longestRow 15 = .ok (.iconst 0, 1) := by decide +kernel
theorem dX1_longestRow_16 : decode cX1_longestRow 16 = .ok (.iastore, 1) := by decide +kernel
theorem dX1_longestRow_17 : decode cX1_longestRow 17 = .ok (.iinc 3 1, 3) := by decide +kernel
theorem dX1_longestRow_20 : decode cX1_longestRow 20 = .ok (.goto (-18), 3) := by decide +kernel
theorem dX1_longestRow_0 : decode cX1_longestRow 0 = .ok (.iconst 0, 1) := by decide +kernel
theorem dX1_longestRow_1 : decode cX1_longestRow 1 = .ok (.istore_n 3, 1) := by decide +kernel
theorem dX1_fewestSteps_25 : decode cX1_fewestSteps 25 = .ok (.iload_n 3, 1) := by decide +kernel
theorem dX1_fewestSteps_26 : decode cX1_fewestSteps 26 = .ok (.aload_n 1, 1) := by decide +kernel
theorem dX1_fewestSteps_27 : decode cX1_fewestSteps 27 = .ok (.getfield 15, 3) := by decide +kernel
theorem dX1_fewestSteps_30 : decode cX1_fewestSteps 30 = .ok (.if_icmp .ge 130, 3) := by decide +kernel
theorem dX1_fewestSteps_160 : decode cX1_fewestSteps 160 = .ok (.aload_n 0, 1) := by decide +kernel
theorem dX1_fewestSteps_161 : decode cX1_fewestSteps 161 = .ok (.getfield 9, 3) := by decide +kernel
theorem dX1_fewestSteps_164 : decode cX1_fewestSteps 164 = .ok (.aload_n 2, 1) := by decide +kernel
theorem dX1_fewestSteps_165 : decode cX1_fewestSteps 165 = .ok (.getfield 15, 3) := by decide +kernel
theorem dX1_fewestSteps_168 : decode cX1_fewestSteps 168 = .ok (.iaload, 1) := by decide +kernel
theorem dX1_fewestSteps_169 : decode cX1_fewestSteps 169 = .ok (.ireturn, 1) := by decide +kernel
theorem dX1_fewestSteps_33 : decode cX1_fewestSteps 33 = .ok (.aload_n 0, 1) := by decide +kernel
theorem dX1_fewestSteps_34 : decode cX1_fewestSteps 34 = .ok (.getfield 9, 3) := by decide +kernel
theorem dX1_fewestSteps_37 : decode cX1_fewestSteps 37 = .ok (.iconst 0, 1) := by decide +kernel
theorem dX1_fewestSteps_38 : decode cX1_fewestSteps 38 = .ok (.iaload, 1) := by decide +kernel
theorem dX1_fewestSteps_39 : decode cX1_fewestSteps 39 = .ok (.istore 4, 2) := by decide +kernel
theorem dX1_fewestSteps_41 : decode cX1_fewestSteps 41 = .ok (.aload_n 0, 1) := by decide +kernel
theorem dX1_fewestSteps_42 : decode cX1_fewestSteps 42 = .ok (.getfield 9, 3) := by decide +kernel
theorem dX1_fewestSteps_45 : decode cX1_fewestSteps 45 = .ok (.iconst 0, 1) := by decide +kernel
theorem dX1_fewestSteps_46 : decode cX1_fewestSteps 46 = .ok (.iload_n 3, 1) := by decide +kernel
theorem dX1_fewestSteps_47 : decode cX1_fewestSteps 47 = .ok (.iconst 1, 1) := by decide +kernel
theorem dX1_fewestSteps_48 : decode cX1_fewestSteps 48 = .ok (.iadd, 1) := by decide +kernel
theorem dX1_fewestSteps_49 : decode cX1_fewestSteps 49 = .ok (.iastore, 1) := by decide +kernel
theorem dX1_fewestSteps_50 : decode cX1_fewestSteps 50 = .ok (.iconst 0, 1) := by decide +kernel
theorem dX1_fewestSteps_51 : decode cX1_fewestSteps 51 = .ok (.istore 5, 2) := by decide +kernel
theorem dX1_fewestSteps_53 : decode cX1_fewestSteps 53 = .ok (.iload 5, 2) := by decide +kernel
theorem dX1_fewestSteps_55 : decode cX1_fewestSteps 55 = .ok (.aload_n 2, 1) := by decide +kernel
theorem dX1_fewestSteps_56 : decode cX1_fewestSteps 56 = .ok (.getfield 15, 3) := by decide +kernel
theorem dX1_fewestSteps_59 : decode cX1_fewestSteps 59 = .ok (.if_icmp .ge 95, 3) := by decide +kernel
theorem dX1_fewestSteps_154 : decode cX1_fewestSteps 154 = .ok (.iinc 3 1, 3) := by decide +kernel
theorem dX1_fewestSteps_157 : decode cX1_fewestSteps 157 = .ok (.goto (-132), 3) := by decide +kernel
theorem dX1_fewestSteps_62 : decode cX1_fewestSteps 62 = .ok (.aload_n 0, 1) := by decide +kernel
theorem dX1_fewestSteps_63 : decode cX1_fewestSteps 63 = .ok (.getfield 9, 3) := by decide +kernel
theorem dX1_fewestSteps_66 : decode cX1_fewestSteps 66 = .ok (.iload 5, 2) := by decide +kernel
theorem dX1_fewestSteps_68 : decode cX1_fewestSteps 68 = .ok (.iconst 1, 1) := by decide +kernel
theorem dX1_fewestSteps_69 : decode cX1_fewestSteps 69 = .ok (.iadd, 1) := by decide +kernel
theorem dX1_fewestSteps_70 : decode cX1_fewestSteps 70 = .ok (.iaload, 1) := by decide +kernel
theorem dX1_fewestSteps_71 : decode cX1_fewestSteps 71 = .ok (.istore 6, 2) := by decide +kernel
theorem dX1_fewestSteps_73 : decode cX1_fewestSteps 73 = .ok (.aload_n 1, 1) := by decide +kernel
theorem dX1_fewestSteps_74 : decode cX1_fewestSteps 74 = .ok (.getfield 21, 3) := by decide +kernel
theorem dX1_fewestSteps_77 : decode cX1_fewestSteps 77 = .ok (.iconst 0, 1) := by decide +kernel
theorem dX1_fewestSteps_78 : decode cX1_fewestSteps 78 = .ok (.iload_n 3, 1) := by decide +kernel
theorem dX1_fewestSteps_79 : decode cX1_fewestSteps 79 = .ok (.iadd, 1) := by decide +kernel
theorem dX1_fewestSteps_80 : decode cX1_fewestSteps 80 = .ok (.iaload, 1) := by decide +kernel
theorem dX1_fewestSteps_81 : decode cX1_fewestSteps 81 = .ok (.aload_n 2, 1) := by decide +kernel
theorem dX1_fewestSteps_82 : decode cX1_fewestSteps 82 = .ok (.getfield 21, 3) := by decide +kernel
theorem dX1_fewestSteps_85 : decode cX1_fewestSteps 85 = .ok (.iconst 0, 1) := by decide +kernel
theorem dX1_fewestSteps_86 : decode cX1_fewestSteps 86 = .ok (.iload 5, 2) := by decide +kernel
theorem dX1_fewestSteps_88 : decode cX1_fewestSteps 88 = .ok (.iadd, 1) := by decide +kernel
theorem dX1_fewestSteps_89 : decode cX1_fewestSteps 89 = .ok (.iaload, 1) := by decide +kernel
theorem dX1_fewestSteps_90 : decode cX1_fewestSteps 90 = .ok (.if_icmp .ne 7, 3) := by decide +kernel
theorem dX1_fewestSteps_97 : decode cX1_fewestSteps 97 = .ok (.iconst 0, 1) := by decide +kernel
theorem dX1_fewestSteps_98 : decode cX1_fewestSteps 98 = .ok (.istore 7, 2) := by decide +kernel
theorem dX1_fewestSteps_100 : decode cX1_fewestSteps 100 = .ok (.iload 7, 2) := by decide +kernel
theorem dX1_fewestSteps_102 : decode cX1_fewestSteps 102 = .ok (.ifCond .eq 8, 3) := by decide +kernel
theorem dX1_fewestSteps_110 : decode cX1_fewestSteps 110 = .ok (.iload 4, 2) := by decide +kernel
theorem dX1_fewestSteps_112 : decode cX1_fewestSteps 112 = .ok (.iconst 1, 1) := by decide +kernel
theorem dX1_fewestSteps_113 : decode cX1_fewestSteps 113 = .ok (.iadd, 1) := by decide +kernel
theorem dX1_fewestSteps_114 : decode cX1_fewestSteps 114 = .ok (.istore 8, 2) := by decide +kernel
theorem dX1_fewestSteps_116 : decode cX1_fewestSteps 116 = .ok (.aload_n 0, 1) := by decide +kernel
theorem dX1_fewestSteps_117 : decode cX1_fewestSteps 117 = .ok (.getfield 9, 3) := by decide +kernel
theorem dX1_fewestSteps_120 : decode cX1_fewestSteps 120 = .ok (.iload 5, 2) := by decide +kernel
theorem dX1_fewestSteps_122 : decode cX1_fewestSteps 122 = .ok (.iconst 1, 1) := by decide +kernel
theorem dX1_fewestSteps_123 : decode cX1_fewestSteps 123 = .ok (.iadd, 1) := by decide +kernel
theorem dX1_fewestSteps_124 : decode cX1_fewestSteps 124 = .ok (.iload 8, 2) := by decide +kernel
theorem dX1_fewestSteps_126 : decode cX1_fewestSteps 126 = .ok (.iload 6, 2) := by decide +kernel
theorem dX1_fewestSteps_128 : decode cX1_fewestSteps 128 = .ok (.aload_n 0, 1) := by decide +kernel
theorem dX1_fewestSteps_129 : decode cX1_fewestSteps 129 = .ok (.getfield 9, 3) := by decide +kernel
theorem dX1_fewestSteps_132 : decode cX1_fewestSteps 132 = .ok (.iload 5, 2) := by decide +kernel
theorem dX1_fewestSteps_134 : decode cX1_fewestSteps 134 = .ok (.iaload, 1) := by decide +kernel
theorem dX1_fewestSteps_135 : decode cX1_fewestSteps 135 = .ok (.invokestatic 30, 3) := by decide +kernel
theorem dX1_fewestSteps_138 : decode cX1_fewestSteps 138 = .ok (.iconst 1, 1) := by decide +kernel
theorem dX1_fewestSteps_139 : decode cX1_fewestSteps 139 = .ok (.iadd, 1) := by decide +kernel
theorem dX1_fewestSteps_140 : decode cX1_fewestSteps 140 = .ok (.invokestatic 30, 3) := by decide +kernel
theorem dX1_fewestSteps_143 : decode cX1_fewestSteps 143 = .ok (.iastore, 1) := by decide +kernel
theorem dX1_fewestSteps_144 : decode cX1_fewestSteps 144 = .ok (.iload 6, 2) := by decide +kernel
theorem dX1_fewestSteps_146 : decode cX1_fewestSteps 146 = .ok (.istore 4, 2) := by decide +kernel
theorem dX1_fewestSteps_148 : decode cX1_fewestSteps 148 = .ok (.iinc 5 1, 3) := by decide +kernel
theorem dX1_fewestSteps_151 : decode cX1_fewestSteps 151 = .ok (.goto (-98), 3) := by decide +kernel
theorem dX1_fewestSteps_93 : decode cX1_fewestSteps 93 = .ok (.iconst 1, 1) := by decide +kernel
theorem dX1_fewestSteps_94 : decode cX1_fewestSteps 94 = .ok (.goto 4, 3) := by decide +kernel
theorem dX1_fewestSteps_105 : decode cX1_fewestSteps 105 = .ok (.iload 4, 2) := by decide +kernel
theorem dX1_fewestSteps_107 : decode cX1_fewestSteps 107 = .ok (.goto 7, 3) := by decide +kernel
theorem dX1_fewestSteps_2 : decode cX1_fewestSteps 2 = .ok (.iload_n 3, 1) := by decide +kernel
theorem dX1_fewestSteps_3 : decode cX1_fewestSteps 3 = .ok (.aload_n 2, 1) := by decide +kernel
theorem dX1_fewestSteps_4 : decode cX1_fewestSteps 4 = .ok (.getfield 15, 3) := by decide +kernel
theorem dX1_fewestSteps_7 : decode cX1_fewestSteps 7 = .ok (.if_icmp .gt 16, 3) := by decide +kernel
theorem dX1_fewestSteps_23 : decode cX1_fewestSteps 23 = .ok (.iconst 0, 1) := by decide +kernel
theorem dX1_fewestSteps_24 : decode cX1_fewestSteps 24 = .ok (.istore_n 3, 1) := by decide +kernel
theorem dX1_fewestSteps_10 : decode cX1_fewestSteps 10 = .ok (.aload_n 0, 1) := by decide +kernel
theorem dX1_fewestSteps_11 : decode cX1_fewestSteps 11 = .ok (.getfield 9, 3) := by decide +kernel
theorem dX1_fewestSteps_14 : decode cX1_fewestSteps 14 = .ok (.iload_n 3, 1) := by decide +kernel
theorem dX1_fewestSteps_15 : decode cX1_fewestSteps 15 = .ok (.iload_n 3, 1) := by decide +kernel
theorem dX1_fewestSteps_16 : decode cX1_fewestSteps 16 = .ok (.iastore, 1) := by decide +kernel
theorem dX1_fewestSteps_17 : decode cX1_fewestSteps 17 = .ok (.iinc 3 1, 3) := by decide +kernel
theorem dX1_fewestSteps_20 : decode cX1_fewestSteps 20 = .ok (.goto (-18), 3) := by decide +kernel
theorem dX1_fewestSteps_0 : decode cX1_fewestSteps 0 = .ok (.iconst 0, 1) := by decide +kernel
theorem dX1_fewestSteps_1 : decode cX1_fewestSteps 1 = .ok (.istore_n 3, 1) := by decide +kernel
end
section
-- 37.like.lean.txt
section ZQ
variable {p : Program} {l : Launch} {e : Env} {R : Room} {s : State} {m : MethodId} {args : Array Value} {below : List Frame} {meth : Method} {c : Code} {Q : State → Prop} {D : va_G} {A : Nat → Prop} {cs : Nat → ClassId} {tt : Nat} {cc : ByteArray} {nL : Nat} {own : String} {N : Nat} {ad : Nat → Nat} {g : Nat → va_E} {k n pc : Nat} {lv lv' : List (Nat × Value)} {rest : List Value}
theorem z_aaldA (C : zC p s m args c cc nL own D A cs tt) {i a : Nat} (hi : i < N) (ha : ad i = a) {cA : ClassId} {ty : FieldType} {M : Nat} {r : Nat → Option Nat} (hg : g i = rA cA M r) (t : Nat) (ht : (tyL cs)[t]? = some (cA, .array ty)) (j : Nat) {z : Int} (hz : z = (j : Int)) (hj : j < M) (hM : M ≤ 2147483647) {v : Nat} (hv : r j = some v) (hdg : decode cc pc = .ok (.aaload, 1)) (kk : zV p l e R s m args below meth c Q D A nL N ad g k n (pc + 1) (lv) (.ref v :: rest)) : zV p l e R s m args below meth c Q D A nL N ad g k n (pc) (lv) (.int (zI z) :: .ref a :: rest) := by
  subst hz; subst ha
  refine fun H locs ls hP hD hS hl => ?_
  have hin : vp_in (zI (j : Int)) M := zI_in hj hM
  have hcl : (zI (j : Int)).toNatClampNeg = j := zI_clN (by omega)
  have hlt : (zI (j : Int)).toNatClampNeg < M := by rw [hcl]; exact hj
  exact W.aald (v := va_rf (r (zI (j : Int)).toNatClampNeg)) (ty := .array ty) C.1 C.2.1 (show H[ad i]? = some (arrV cA M (fun j => va_rf (r j))) from hP i (ad i, .inl (cA, M, .inr (.inr (.inr (.inr r))))) ((wl_at hi).trans (by rw [hg]))) ((C.2.2.2.2.2.1.2 t _ ht).1 M (fun j => va_rf (r j))) rfl (fun q => by cases q) (by show ¬ (zI (j : Int) < 0 ∨ (arrV _ _ _).slots.size ≤ _); rw [arrV_size]; exact hin) (by show (arrV _ _ _).slots[_]? = _; rw [arrV_read _ _ hlt]) rfl rfl hdg (by rw [hcl, hv]; exact kk H locs ls hP hD hS hl)
end ZQ
abbrev okGss (cs : Nat → ClassId) (ad : Nat → Nat) (g : Nat → va_E) (i : Nat) : Prop := ∃ (mn fi : Int) (u : Nat → Int) (q : Nat → Nat → Int), (∀ k, k < 4 → 0 ≤ u k ∧ u k ≤ 1200) ∧ isGss cs ad g i mn fi u q
theorem okGss.mv {cs : Nat → ClassId} {ad ad' : Nat → Nat} {g g' : Nat → va_E} {i : Nat} (hA : ∀ j, i ≤ j → j < i + 7 → ad' j = ad j) (hG : ∀ j, i ≤ j → j < i + 7 → g' j = g j) (h : okGss cs ad g i) : okGss cs ad' g' i := by
  obtain ⟨mn, fi, u, q, h1, h2⟩ := h
  exact ⟨mn, fi, u, q, h1, h2.mv hA hG⟩
abbrev okLike (cs : Nat → ClassId) (ad : Nat → Nat) (g : Nat → va_E) (i : Nat) : Prop := ∃ r : Nat → Int, isLike cs ad g i r
theorem okLike.mv {cs : Nat → ClassId} {ad ad' : Nat → Nat} {g g' : Nat → va_E} {i : Nat} (hA : ∀ j, i ≤ j → j < i + 2 → ad' j = ad j) (hG : ∀ j, i ≤ j → j < i + 2 → g' j = g j) (h : okLike cs ad g i) : okLike cs ad' g' i := by
  obtain ⟨r, h1⟩ := h
  exact ⟨r, h1.mv hA hG⟩

set_option maxRecDepth 100000 in
set_option maxHeartbeats 4000000 in
theorem c_X0_clear (l : Launch) (D : va_G) (A : Nat → Prop) (cs : Nat → ClassId) (tt : Nat) (N : Nat) (ad : Nat → Nat) (g : Nat → va_E) (a : Nat) (hN : a + 7 ≤ N) (ha : okGss cs ad g a) : zM l yX0_clear cX0_clear 2 none ({ frames := 1, cells := 0, slots := 0, locals := 60 } : Room) D A cs tt N ad g [.ref (ad a)] (rV0 N ad fun g' => okGss cs ad g' a ∧ ∀ j, j < a ∨ a + 7 ≤ j → g' j = g j) := by
  obtain ⟨mn, fi, u, q, h1, h2, h3, ⟨rwv, h4, h5⟩, h6⟩ := id ha
  have hay1 : zAt ad (a) (ad a) := rfl
  have hay2 : zAt ad (a + 1) (ad (a + 1)) := rfl
  have hay3 : zAt ad (a + 2) (ad (a + 2)) := rfl
  refine z_of (by decide) (Nat.le_of_ble_eq_true rfl) ?_
  intro p e s m below meth c C hr hlk hnm
  refine z_lv (lv' := [(0, .ref (ad a))]) [0] rfl ?_
  refine z_aload_n C 0 dX0_clear_0 rfl ?_
  refine z_iconst (z := 0) C dX0_clear_1 rfl ?_
  refine z_put (fs' := [.int (zI (0)), .int (zI (fi)), .ref (ad (a + 1)), .ref (ad (a + 2))]) C (lt_A0 hN rfl) hay1 h2 tyX0 tyX0_ok nmX0 rfl inA_X0 0 (by decide) q_291 rfl rfl rfl rfl (Nat.le_of_ble_eq_true rfl) rfl dX0_clear_2 (fun gy4 egy5 => ?_)
  have hgy6 := up_s egy5
  refine z_aload_n C 0 dX0_clear_5 rfl ?_
  refine z_iconst (z := -1) C dX0_clear_6 rfl ?_
  refine z_put (fs' := [.int (zI (0)), .int (zI (-1)), .ref (ad (a + 1)), .ref (ad (a + 2))]) C (lt_A0 hN rfl) hay1 hgy6 tyX0 tyX0_ok nmX0 rfl inA_X0 1 (by decide) q_293 rfl rfl rfl rfl (Nat.le_of_ble_eq_true rfl) rfl dX0_clear_7 (fun gy7 egy8 => ?_)
  have hgy9 := up_s egy8
  refine z_iconst (z := 0) C dX0_clear_10 rfl ?_
  refine z_istore_n (lv' := [(1, .int (zI (0))), (0, .ref (ad a))]) C dX0_clear_11 rfl (by decide) rfl ?_
  refine z_iload_n C 0 dX0_clear_12 rfl ?_
  refine z_aload_n C 1 dX0_clear_13 rfl ?_
  refine z_get (v := .ref (ad (a + 1))) C (lt_A0 hN rfl) hay1 hgy9 rfl inA_X0 2 (by decide) q_295 rfl rfl dX0_clear_14 ?_
  have hgy10 := up_n egy5 h3 (ne_o (i := a) (c := 1) (d := 0) rfl)
  have hgy11 := up_n egy8 hgy10 (ne_o (i := a) (c := 1) (d := 0) rfl)
  refine z_alen (z := 4) C (lt_A (c := 1) hN rfl) hay2 hgy11 1 rfl rfl dX0_clear_17 ?_
  refine z_icmp_ge (tgt := 34) C dX0_clear_18 (by decide) (by omega) (by omega) (fun h => absurd h (by omega)) (fun _ => ?_)
  refine z_aload_n C 1 dX0_clear_21 rfl ?_
  refine z_get (v := .ref (ad (a + 1))) C (lt_A0 hN rfl) hay1 hgy9 rfl inA_X0 2 (by decide) q_295 rfl rfl dX0_clear_22 ?_
  refine z_iload_n C 0 dX0_clear_25 rfl ?_
  refine z_iconst (z := 0) C dX0_clear_26 rfl ?_
  refine z_iast C (lt_A (c := 1) hN rfl) hay2 hgy11 (0) (by omega) (by omega) (by decide) dX0_clear_27 (fun gy12 egy13 => ?_)
  have hgy14 := up_s egy13
  refine z_iinc (z := 1) (lv' := [(1, .int (zI (1))), (0, .ref (ad a))]) (j := 0) C dX0_clear_28 rfl (congrArg zI (by omega)) (by decide) rfl ?_
  refine z_goto (tgt := 12) C dX0_clear_31 (by decide) ?_
  refine z_iload_n C 0 dX0_clear_12 rfl ?_
  refine z_aload_n C 1 dX0_clear_13 rfl ?_
  have hgy15 := up_n egy13 hgy9 (ne_o (i := a) (c := 0) (d := 1) rfl)
  refine z_get (v := .ref (ad (a + 1))) C (lt_A0 hN rfl) hay1 hgy15 rfl inA_X0 2 (by decide) q_295 rfl rfl dX0_clear_14 ?_
  refine z_alen (z := 4) C (lt_A (c := 1) hN rfl) hay2 hgy14 1 rfl rfl dX0_clear_17 ?_
  refine z_icmp_ge (tgt := 34) C dX0_clear_18 (by decide) (by omega) (by omega) (fun h => absurd h (by omega)) (fun _ => ?_)
  refine z_aload_n C 1 dX0_clear_21 rfl ?_
  refine z_get (v := .ref (ad (a + 1))) C (lt_A0 hN rfl) hay1 hgy15 rfl inA_X0 2 (by decide) q_295 rfl rfl dX0_clear_22 ?_
  refine z_iload_n C 0 dX0_clear_25 rfl ?_
  refine z_iconst (z := 0) C dX0_clear_26 rfl ?_
  refine z_iast C (lt_A (c := 1) hN rfl) hay2 hgy14 (1) (by omega) (by omega) (by decide) dX0_clear_27 (fun gy16 egy17 => ?_)
  have hgy18 := up_s egy17
  refine z_iinc (z := 2) (lv' := [(1, .int (zI (2))), (0, .ref (ad a))]) (j := 0) C dX0_clear_28 rfl (congrArg zI (by omega)) (by decide) rfl ?_
  refine z_goto (tgt := 12) C dX0_clear_31 (by decide) ?_
  refine z_iload_n C 0 dX0_clear_12 rfl ?_
  refine z_aload_n C 1 dX0_clear_13 rfl ?_
  have hgy19 := up_n egy17 hgy15 (ne_o (i := a) (c := 0) (d := 1) rfl)
  refine z_get (v := .ref (ad (a + 1))) C (lt_A0 hN rfl) hay1 hgy19 rfl inA_X0 2 (by decide) q_295 rfl rfl dX0_clear_14 ?_
  refine z_alen (z := 4) C (lt_A (c := 1) hN rfl) hay2 hgy18 1 rfl rfl dX0_clear_17 ?_
  refine z_icmp_ge (tgt := 34) C dX0_clear_18 (by decide) (by omega) (by omega) (fun h => absurd h (by omega)) (fun _ => ?_)
  refine z_aload_n C 1 dX0_clear_21 rfl ?_
  refine z_get (v := .ref (ad (a + 1))) C (lt_A0 hN rfl) hay1 hgy19 rfl inA_X0 2 (by decide) q_295 rfl rfl dX0_clear_22 ?_
  refine z_iload_n C 0 dX0_clear_25 rfl ?_
  refine z_iconst (z := 0) C dX0_clear_26 rfl ?_
  refine z_iast C (lt_A (c := 1) hN rfl) hay2 hgy18 (2) (by omega) (by omega) (by decide) dX0_clear_27 (fun gy20 egy21 => ?_)
  have hgy22 := up_s egy21
  refine z_iinc (z := 3) (lv' := [(1, .int (zI (3))), (0, .ref (ad a))]) (j := 0) C dX0_clear_28 rfl (congrArg zI (by omega)) (by decide) rfl ?_
  refine z_goto (tgt := 12) C dX0_clear_31 (by decide) ?_
  refine z_iload_n C 0 dX0_clear_12 rfl ?_
  refine z_aload_n C 1 dX0_clear_13 rfl ?_
  have hgy23 := up_n egy21 hgy19 (ne_o (i := a) (c := 0) (d := 1) rfl)
  refine z_get (v := .ref (ad (a + 1))) C (lt_A0 hN rfl) hay1 hgy23 rfl inA_X0 2 (by decide) q_295 rfl rfl dX0_clear_14 ?_
  refine z_alen (z := 4) C (lt_A (c := 1) hN rfl) hay2 hgy22 1 rfl rfl dX0_clear_17 ?_
  refine z_icmp_ge (tgt := 34) C dX0_clear_18 (by decide) (by omega) (by omega) (fun h => absurd h (by omega)) (fun _ => ?_)
  refine z_aload_n C 1 dX0_clear_21 rfl ?_
  refine z_get (v := .ref (ad (a + 1))) C (lt_A0 hN rfl) hay1 hgy23 rfl inA_X0 2 (by decide) q_295 rfl rfl dX0_clear_22 ?_
  refine z_iload_n C 0 dX0_clear_25 rfl ?_
  refine z_iconst (z := 0) C dX0_clear_26 rfl ?_
  refine z_iast C (lt_A (c := 1) hN rfl) hay2 hgy22 (3) (by omega) (by omega) (by decide) dX0_clear_27 (fun gy24 egy25 => ?_)
  have hgy26 := up_s egy25
  refine z_iinc (z := 4) (lv' := [(1, .int (zI (4))), (0, .ref (ad a))]) (j := 0) C dX0_clear_28 rfl (congrArg zI (by omega)) (by decide) rfl ?_
  refine z_goto (tgt := 12) C dX0_clear_31 (by decide) ?_
  refine z_iload_n C 0 dX0_clear_12 rfl ?_
  refine z_aload_n C 1 dX0_clear_13 rfl ?_
  have hgy27 := up_n egy25 hgy23 (ne_o (i := a) (c := 0) (d := 1) rfl)
  refine z_get (v := .ref (ad (a + 1))) C (lt_A0 hN rfl) hay1 hgy27 rfl inA_X0 2 (by decide) q_295 rfl rfl dX0_clear_14 ?_
  refine z_alen (z := 4) C (lt_A (c := 1) hN rfl) hay2 hgy26 1 rfl rfl dX0_clear_17 ?_
  refine z_icmp_ge (tgt := 34) C dX0_clear_18 (by decide) (by omega) (by omega) (fun _ => ?_) (fun h => absurd h (by omega))
  have hgy28 := up_n egy5 h4 (ne_o (i := a) (c := 2) (d := 0) rfl)
  have hgy29 := up_n egy8 hgy28 (ne_o (i := a) (c := 2) (d := 0) rfl)
  have hgy30 := up_n egy13 hgy29 (ne_o (i := a) (c := 2) (d := 1) rfl)
  have hgy31 := up_n egy17 hgy30 (ne_o (i := a) (c := 2) (d := 1) rfl)
  have hgy32 := up_n egy21 hgy31 (ne_o (i := a) (c := 2) (d := 1) rfl)
  have hgy33 := up_n egy25 hgy32 (ne_o (i := a) (c := 2) (d := 1) rfl)
  have hu : ∀ k, k < 4 → 0 ≤ (uZ (uZ (uZ (uZ (u) (0) (0)) (1) (0)) (2) (0)) (3) (0)) k ∧ (uZ (uZ (uZ (uZ (u) (0) (0)) (1) (0)) (2) (0)) (3) (0)) k ≤ 1200 := fun k hk => by rcases (show k = 0 ∨ k = 1 ∨ k = 2 ∨ k = 3 by omega) with rfl | rfl | rfl | rfl <;> simp [uZ]
  exact z_vret C hr hlk dX0_clear_34 (by decide) (by decide) ⟨rfl, rfl, rfl, ⟨_, _, _, q, hu, hgy27, hgy26, ⟨rwv, hgy33, h5⟩, fun k hk => by rw [egy25, va_up_ne _ _ (by omega)]; rw [egy21, va_up_ne _ _ (by omega)]; rw [egy17, va_up_ne _ _ (by omega)]; rw [egy13, va_up_ne _ _ (by omega)]; rw [egy8, va_up_ne _ _ (by omega)]; rw [egy5, va_up_ne _ _ (by omega)]; exact h6 k hk⟩, fun j j1 => by rw [egy25, va_up_ne _ _ (by omega)]; rw [egy21, va_up_ne _ _ (by omega)]; rw [egy17, va_up_ne _ _ (by omega)]; rw [egy13, va_up_ne _ _ (by omega)]; rw [egy8, va_up_ne _ _ (by omega)]; rw [egy5, va_up_ne _ _ (by omega)]⟩

set_option maxRecDepth 100000 in
set_option maxHeartbeats 4000000 in
theorem c_X0_add (l : Launch) (D : va_G) (A : Nat → Prop) (cs : Nat → ClassId) (tt : Nat) (N : Nat) (ad : Nat → Nat) (g : Nat → va_E) (a : Nat) (hN : a + 7 ≤ N) (ha : okGss cs ad g a) (z : Int) (hz : -2147483648 ≤ z ∧ z ≤ 2147483647) : zM l yX0_add cX0_add 2 none ({ frames := 1, cells := 0, slots := 0, locals := 60 } : Room) D A cs tt N ad g [.ref (ad a), .int (zI (z))] (rV0 N ad fun g' => okGss cs ad g' a ∧ ∀ j, j < a ∨ a + 7 ≤ j → g' j = g j) := by
  obtain ⟨mn, fi, u, q, h1, h2, h3, ⟨rwv, h4, h5⟩, h6⟩ := id ha
  have hay1 : zAt ad (a) (ad a) := rfl
  have hay2 : zAt ad (a + 1) (ad (a + 1)) := rfl
  have hay3 : zAt ad (a + 2) (ad (a + 2)) := rfl
  refine z_of (by decide) (Nat.le_of_ble_eq_true rfl) ?_
  intro p e s m below meth c C hr hlk hnm
  refine z_lv (lv' := [(0, .ref (ad a)), (1, .int (zI (z)))]) [0, 1] rfl ?_
  refine z_aload_n C 0 dX0_add_0 rfl ?_
  refine z_get (v := .int (zI (mn))) C (lt_A0 hN rfl) hay1 h2 rfl inA_X0 0 (by decide) q_291 rfl rfl dX0_add_1 ?_
  obtain ⟨xy4, exy5, hxy6⟩ := zI_of (zI (mn))
  rw [exy5]
  refine z_if_ne (tgt := 12) C dX0_add_4 (by decide) (by omega) (fun hby7 => ?_) (fun hby7 => ?_)
  · refine z_aload_n C 0 dX0_add_12 rfl ?_
    refine z_dup C dX0_add_13 rfl ?_
    refine z_get (v := .int (zI (mn))) C (lt_A0 hN rfl) hay1 h2 rfl inA_X0 0 (by decide) q_291 rfl rfl dX0_add_14 ?_
    refine z_iconst (z := 1) C dX0_add_17 rfl ?_
    refine z_iadd C dX0_add_18 ?_
    refine z_put (fs' := [.int (zI (mn + 1)), .int (zI (fi)), .ref (ad (a + 1)), .ref (ad (a + 2))]) C (lt_A0 hN rfl) hay1 h2 tyX0 tyX0_ok nmX0 rfl inA_X0 0 (by decide) q_291 rfl rfl rfl rfl (Nat.le_of_ble_eq_true rfl) rfl dX0_add_19 (fun gy8 egy9 => ?_)
    have hgy10 := up_s egy9
    have hgy11 := up_n egy9 h3 (ne_o (i := a) (c := 1) (d := 0) rfl)
    have hgy12 := up_n egy9 h4 (ne_o (i := a) (c := 2) (d := 0) rfl)
    exact z_vret C hr hlk dX0_add_22 (by decide) (by decide) ⟨rfl, rfl, rfl, ⟨_, _, _, q, h1, hgy10, hgy11, ⟨rwv, hgy12, h5⟩, fun k hk => by rw [egy9, va_up_ne _ _ (by omega)]; exact h6 k hk⟩, fun j j1 => by rw [egy9, va_up_ne _ _ (by omega)]⟩
  · refine z_aload_n C 0 dX0_add_7 rfl ?_
    refine z_iload_n C 1 dX0_add_8 rfl ?_
    refine z_put (fs' := [.int (zI (mn)), .int (zI (z)), .ref (ad (a + 1)), .ref (ad (a + 2))]) C (lt_A0 hN rfl) hay1 h2 tyX0 tyX0_ok nmX0 rfl inA_X0 1 (by decide) q_293 rfl rfl rfl rfl (Nat.le_of_ble_eq_true rfl) rfl dX0_add_9 (fun gy13 egy14 => ?_)
    have hgy15 := up_s egy14
    refine z_aload_n C 0 dX0_add_12 rfl ?_
    refine z_dup C dX0_add_13 rfl ?_
    refine z_get (v := .int (zI (mn))) C (lt_A0 hN rfl) hay1 hgy15 rfl inA_X0 0 (by decide) q_291 rfl rfl dX0_add_14 ?_
    refine z_iconst (z := 1) C dX0_add_17 rfl ?_
    refine z_iadd C dX0_add_18 ?_
    refine z_put (fs' := [.int (zI (mn + 1)), .int (zI (z)), .ref (ad (a + 1)), .ref (ad (a + 2))]) C (lt_A0 hN rfl) hay1 hgy15 tyX0 tyX0_ok nmX0 rfl inA_X0 0 (by decide) q_291 rfl rfl rfl rfl (Nat.le_of_ble_eq_true rfl) rfl dX0_add_19 (fun gy16 egy17 => ?_)
    have hgy18 := up_s egy17
    have hgy19 := up_n egy14 h3 (ne_o (i := a) (c := 1) (d := 0) rfl)
    have hgy20 := up_n egy17 hgy19 (ne_o (i := a) (c := 1) (d := 0) rfl)
    have hgy21 := up_n egy14 h4 (ne_o (i := a) (c := 2) (d := 0) rfl)
    have hgy22 := up_n egy17 hgy21 (ne_o (i := a) (c := 2) (d := 0) rfl)
    exact z_vret C hr hlk dX0_add_22 (by decide) (by decide) ⟨rfl, rfl, rfl, ⟨_, _, _, q, h1, hgy18, hgy20, ⟨rwv, hgy22, h5⟩, fun k hk => by rw [egy17, va_up_ne _ _ (by omega)]; rw [egy14, va_up_ne _ _ (by omega)]; exact h6 k hk⟩, fun j j1 => by rw [egy17, va_up_ne _ _ (by omega)]; rw [egy14, va_up_ne _ _ (by omega)]⟩

set_option maxRecDepth 100000 in
set_option maxHeartbeats 4000000 in
theorem c_X0_see (l : Launch) (D : va_G) (A : Nat → Prop) (cs : Nat → ClassId) (tt : Nat) (N : Nat) (ad : Nat → Nat) (g : Nat → va_E) (a : Nat) (hN : a + 7 ≤ N) (ha : okGss cs ad g a) (z : Int) (hzs : 0 ≤ z ∧ z ≤ 3) (z1 : Int) (hz1 : -2147483648 ≤ z1 ∧ z1 ≤ 2147483647) : zM l yX0_see cX0_see 5 none ({ frames := 1, cells := 0, slots := 0, locals := 60 } : Room) D A cs tt N ad g [.ref (ad a), .int (zI (z)), .int (zI (z1))] (rV0 N ad fun g' => okGss cs ad g' a ∧ ∀ j, j < a ∨ a + 7 ≤ j → g' j = g j) := by
  obtain ⟨mn, fi, u, q, h1, h2, h3, ⟨rwv, h4, h5⟩, h6⟩ := id ha
  have hay1 : zAt ad (a) (ad a) := rfl
  have hay2 : zAt ad (a + 1) (ad (a + 1)) := rfl
  have hay3 : zAt ad (a + 2) (ad (a + 2)) := rfl
  refine z_of (by decide) (Nat.le_of_ble_eq_true rfl) ?_
  intro p e s m below meth c C hr hlk hnm
  refine z_lv (lv' := [(0, .ref (ad a)), (1, .int (zI (z))), (2, .int (zI (z1)))]) [0, 1, 2] rfl ?_
  have huz := h1 (z).toNat (by omega)
  refine z_aload_n C 0 dX0_see_0 rfl ?_
  refine z_get (v := .ref (ad (a + 2))) C (lt_A0 hN rfl) hay1 h2 rfl inA_X0 3 (by decide) q_297 rfl rfl dX0_see_1 ?_
  refine z_iload_n C 1 dX0_see_4 rfl ?_
  refine z_aaldA C (lt_A (c := 2) hN rfl) hay3 h4 6 rfl (z).toNat (by omega) (by omega) (by decide) (h5 (z).toNat (by omega)) dX0_see_5 ?_
  have hay4 : zAt ad (a + 3 + (z).toNat) (ad (a + 3 + (z).toNat)) := rfl
  refine z_astore_n (lv' := [(3, .ref (ad (a + 3 + (z).toNat))), (0, .ref (ad a)), (1, .int (zI (z))), (2, .int (zI (z1)))]) C dX0_see_6 rfl (by decide) rfl ?_
  refine z_iconst (z := 0) C dX0_see_7 rfl ?_
  refine z_istore (lv' := [(4, .int (zI (0))), (3, .ref (ad (a + 3 + (z).toNat))), (0, .ref (ad a)), (1, .int (zI (z))), (2, .int (zI (z1)))]) C dX0_see_8 (by decide) rfl ?_
  have lp : ∀ (n9 : Nat) (k : Int) (g1 : Nat → va_E), (1200 - k).toNat = n9 → (g1 = g) → (0 ≤ k ∧ k ≤ 1200) → zV p l e ({ frames := 1, cells := 0, slots := 0, locals := 60 } : Room) s m ([.ref (ad a), .int (zI (z)), .int (zI (z1))] : List Value).toArray below meth c (MQ below (zPost D A (rV0 N ad fun g' => okGss cs ad g' a ∧ ∀ j, j < a ∨ a + 7 ≤ j → g' j = g j)) ([.ref (ad a), .int (zI (z)), .int (zI (z1))] : List Value).toArray s ({ frames := 1, cells := 0, slots := 0, locals := 60 } : Room).cells ({ frames := 1, cells := 0, slots := 0, locals := 60 } : Room).slots A) D A 5 (N) ad g1 (0) (0) 10 [(4, .int (zI (k))), (3, .ref (ad (a + 3 + (z).toNat))), (0, .ref (ad a)), (1, .int (zI (z))), (2, .int (zI (z1)))] [] := by
    intro n9
    induction n9 using Nat.strongRecOn with
    | ind n9 ih =>
      intro k g1 hm9 hg1 hk9
      subst hg1
      have hay5 : zAt ad (a) (ad a) := rfl
      have hay6 : zAt ad (a + 1) (ad (a + 1)) := rfl
      have hay7 : zAt ad (a + 2) (ad (a + 2)) := rfl
      have hay8 : zAt ad (a + 3 + (z).toNat) (ad (a + 3 + (z).toNat)) := rfl
      refine z_iload C 0 dX0_see_10 rfl ?_
      refine z_aload_n C 2 dX0_see_12 rfl ?_
      refine z_get (v := .ref (ad (a + 1))) C (lt_A0 hN rfl) hay5 h2 rfl inA_X0 2 (by decide) q_295 rfl rfl dX0_see_13 ?_
      refine z_iload_n C 3 dX0_see_16 rfl ?_
      refine z_iald C (lt_A (c := 1) hN rfl) hay6 h3 ((z).toNat) (by omega) (by omega) (by decide) dX0_see_17 ?_
      refine z_icmp_ge (tgt := 36) C dX0_see_18 (by decide) (by omega) (by omega) (fun hby9 => ?_) (fun hby9 => ?_)
      · refine z_aload_n C 2 dX0_see_36 rfl ?_
        refine z_get (v := .ref (ad (a + 1))) C (lt_A0 hN rfl) hay5 h2 rfl inA_X0 2 (by decide) q_295 rfl rfl dX0_see_37 ?_
        refine z_iload_n C 3 dX0_see_40 rfl ?_
        refine z_iald C (lt_A (c := 1) hN rfl) hay6 h3 ((z).toNat) (by omega) (by omega) (by decide) dX0_see_41 ?_
        refine z_aload_n C 1 dX0_see_42 rfl ?_
        refine z_alen (z := 1200) C (by omega) hay8 (h6 (z).toNat (by omega)) 1 rfl rfl dX0_see_43 ?_
        refine z_icmp_ge (tgt := 66) C dX0_see_44 (by decide) (by omega) (by omega) (fun hby10 => ?_) (fun hby10 => ?_)
        · exact z_vret C hr hlk dX0_see_66 (by decide) (by decide) ⟨rfl, rfl, rfl, ha, fun j _ => rfl⟩
        · refine z_aload_n C 1 dX0_see_47 rfl ?_
          refine z_aload_n C 2 dX0_see_48 rfl ?_
          refine z_get (v := .ref (ad (a + 1))) C (lt_A0 hN rfl) hay5 h2 rfl inA_X0 2 (by decide) q_295 rfl rfl dX0_see_49 ?_
          refine z_iload_n C 3 dX0_see_52 rfl ?_
          refine z_iald C (lt_A (c := 1) hN rfl) hay6 h3 ((z).toNat) (by omega) (by omega) (by decide) dX0_see_53 ?_
          refine z_iload_n C 4 dX0_see_54 rfl ?_
          refine z_iast C (by omega) hay8 (h6 (z).toNat (by omega)) ((u ((z).toNat)).toNat) (by omega) (by omega) (by decide) dX0_see_55 (fun gy11 egy12 => ?_)
          have hgy13 := up_s egy12
          refine z_aload_n C 2 dX0_see_56 rfl ?_
          have hgy14 := up_n egy12 h2 (by omega)
          refine z_get (v := .ref (ad (a + 1))) C (lt_A0 hN rfl) hay5 hgy14 rfl inA_X0 2 (by decide) q_295 rfl rfl dX0_see_57 ?_
          refine z_iload_n C 3 dX0_see_60 rfl ?_
          refine z_dup2 C dX0_see_61 rfl rfl ?_
          have hgy15 := up_n egy12 h3 (by omega)
          refine z_iald C (lt_A (c := 1) hN rfl) hay6 hgy15 ((z).toNat) (by omega) (by omega) (by decide) dX0_see_62 ?_
          refine z_iconst (z := 1) C dX0_see_63 rfl ?_
          refine z_iadd C dX0_see_64 ?_
          refine z_iast C (lt_A (c := 1) hN rfl) hay6 hgy15 ((z).toNat) (by omega) (by omega) (by decide) dX0_see_65 (fun gy16 egy17 => ?_)
          have hgy18 := up_s egy17
          have hgy19 := up_n egy17 hgy14 (ne_o (i := a) (c := 0) (d := 1) rfl)
          have hgy20 := up_n egy12 h4 (by omega)
          have hgy21 := up_n egy17 hgy20 (ne_o (i := a) (c := 2) (d := 1) rfl)
          have hgy22 := up_n egy17 hgy13 (by omega)
          have hu : ∀ k, k < 4 → 0 ≤ (uZ (u) ((z).toNat) ((u ((z).toNat)) + 1)) k ∧ (uZ (u) ((z).toNat) ((u ((z).toNat)) + 1)) k ≤ 1200 := fun k hk => by
              by_cases e : k = (z).toNat
              · subst e; rw [uZ_s]; omega
              · rw [uZ_n _ _ e]; exact h1 k hk
          have hq6 : ∀ k, k < 4 → gy16 (a + 3 + k) = iA cs 1200 (if k = (z).toNat then uZ (q (z).toNat) ((u ((z).toNat)).toNat) (z1) else q k) := fun k hk => by
              by_cases e : k = (z).toNat
              · subst e; rw [if_pos rfl]; exact hgy22
              · rw [if_neg e]; rw [egy17, va_up_ne _ _ (by omega)]; rw [egy12, va_up_ne _ _ (by omega)]; exact h6 k hk
          exact z_vret C hr hlk dX0_see_66 (by decide) (by decide) ⟨rfl, rfl, rfl, ⟨_, _, _, _, hu, hgy19, hgy18, ⟨rwv, hgy21, h5⟩, hq6⟩, fun j j1 => by rw [egy17, va_up_ne _ _ (by omega)]; rw [egy12, va_up_ne _ _ (by omega)]⟩
      · refine z_aload_n C 1 dX0_see_21 rfl ?_
        refine z_iload C 0 dX0_see_22 rfl ?_
        refine z_iald C (by omega) hay8 (h6 (z).toNat (by omega)) ((k).toNat) (by omega) (by omega) (by decide) dX0_see_24 ?_
        refine z_iload_n C 4 dX0_see_25 rfl ?_
        obtain ⟨xy23, exy24, hxy25⟩ := zI_of (zI ((q (z).toNat) ((k).toNat)))
        rw [exy24]
        refine z_icmp_ne (tgt := 30) C dX0_see_26 (by decide) (by omega) (by omega) (fun hby26 => ?_) (fun hby26 => ?_)
        · refine z_iinc (z := k + 1) (lv' := [(4, .int (zI (k + 1))), (3, .ref (ad (a + 3 + (z).toNat))), (0, .ref (ad a)), (1, .int (zI (z))), (2, .int (zI (z1)))]) (j := 0) C dX0_see_30 rfl rfl (by decide) rfl ?_
          refine z_goto (tgt := 10) C dX0_see_33 (by decide) ?_
          refine z_lv (lv' := [(4, .int (zI (k + 1))), (3, .ref (ad (a + 3 + (z).toNat))), (0, .ref (ad a)), (1, .int (zI (z))), (2, .int (zI (z1)))]) [0, 1, 2, 3, 4] rfl ?_
          exact ih _ (by omega) (k + 1) _ rfl rfl (by omega)
        · exact z_vret C hr hlk dX0_see_29 (by decide) (by decide) ⟨rfl, rfl, rfl, ha, fun j _ => rfl⟩
  refine z_lv (lv' := [(4, .int (zI (0))), (3, .ref (ad (a + 3 + (z).toNat))), (0, .ref (ad a)), (1, .int (zI (z))), (2, .int (zI (z1)))]) [0, 1, 2, 3, 4] rfl ?_
  exact lp _ 0 _ rfl rfl (by omega)

set_option maxRecDepth 100000 in
set_option maxHeartbeats 4000000 in
theorem c_X1_longestRow (l : Launch) (D : va_G) (A : Nat → Prop) (cs : Nat → ClassId) (tt : Nat) (N : Nat) (ad : Nat → Nat) (g : Nat → va_E) (c0 : Nat) (hNc : c0 + 2 ≤ N) (r0 : Nat → Int) (hc : isLike cs ad g c0 r0) (a : Nat) (hN : a + 2 ≤ N) (sz ro : Int) (r : Nat → Int) (hz : 0 ≤ sz ∧ sz ≤ 12) (ha : isPack cs ad g a sz ro r) (a2 : Nat) (hN2 : a2 + 2 ≤ N) (sz2 ro2 : Int) (r2 : Nat → Int) (hz2 : 0 ≤ sz2 ∧ sz2 ≤ 12) (ha2 : isPack cs ad g a2 sz2 ro2 r2) (hca : c0 + 2 ≤ a ∨ a + 2 ≤ c0) (hca2 : c0 + 2 ≤ a2 ∨ a2 + 2 ≤ c0) : zM l yX1_longestRow cX1_longestRow 8 (some .int) ({ frames := 2, cells := 0, slots := 0, locals := 120 } : Room) D A cs tt N ad g [.ref (ad c0), .ref (ad a), .ref (ad a2)] (rI0 N ad fun r g' => (-2147483648 ≤ r ∧ r ≤ 2147483647) ∧ okLike cs ad g' c0 ∧ ∀ j, j ≠ c0 + 1 → g' j = g j) := by
  have hay1 : zAt ad (c0) (ad c0) := rfl
  have hay2 : zAt ad (c0 + 1) (ad (c0 + 1)) := rfl
  have hay3 : zAt ad (a) (ad a) := rfl
  have hay4 : zAt ad (a + 1) (ad (a + 1)) := rfl
  have hay5 : zAt ad (a2) (ad a2) := rfl
  have hay6 : zAt ad (a2 + 1) (ad (a2 + 1)) := rfl
  refine z_of (by decide) (Nat.le_of_ble_eq_true rfl) ?_
  intro p e s m below meth c C hr hlk hnm
  refine z_lv (lv' := [(0, .ref (ad c0)), (1, .ref (ad a)), (2, .ref (ad a2))]) [0, 1, 2] rfl ?_
  have lp2 : ∀ (n9 : Nat) (i : Int) (r9 : Nat → Int) (g1 : Nat → va_E), (12 - i).toNat = n9 → (g1 (c0 + 1) = iA cs 13 r9) → (∀ j, j ≠ c0 + 1 → g1 j = g j) → (0 ≤ i ∧ i ≤ 12) → zV p l e ({ frames := 2, cells := 0, slots := 0, locals := 120 } : Room) s m ([.ref (ad c0), .ref (ad a), .ref (ad a2)] : List Value).toArray below meth c (MQ below (zPost D A (rI0 N ad fun r g' => (-2147483648 ≤ r ∧ r ≤ 2147483647) ∧ okLike cs ad g' c0 ∧ ∀ j, j ≠ c0 + 1 → g' j = g j)) ([.ref (ad c0), .ref (ad a), .ref (ad a2)] : List Value).toArray s ({ frames := 2, cells := 0, slots := 0, locals := 120 } : Room).cells ({ frames := 2, cells := 0, slots := 0, locals := 120 } : Room).slots A) D A 8 (N) ad g1 (0) (0) 25 [(3, .int (zI (i))), (0, .ref (ad c0)), (1, .ref (ad a)), (2, .ref (ad a2))] [] := by
    intro n9
    induction n9 using Nat.strongRecOn with
    | ind n9 ih_lp2 =>
      intro i r9 g1 hm9 f1 f3 hx0
      have hay7 : zAt ad (c0) (ad c0) := rfl
      have hay8 : zAt ad (c0 + 1) (ad (c0 + 1)) := rfl
      have hay9 : zAt ad (a) (ad a) := rfl
      have hay10 : zAt ad (a + 1) (ad (a + 1)) := rfl
      have hay11 : zAt ad (a2) (ad a2) := rfl
      have hay12 : zAt ad (a2 + 1) (ad (a2 + 1)) := rfl
      refine z_iload_n C 0 dX1_longestRow_25 rfl ?_
      refine z_aload_n C 2 dX1_longestRow_26 rfl ?_
      refine z_get (v := .int (zI (sz))) C (lt_A0 hN rfl) hay9 ((f3 _ (by omega)).trans ha.1) rfl inA_X3 0 (by decide) q_155 rfl rfl dX1_longestRow_27 ?_
      refine z_icmp_ge (tgt := 135) C dX1_longestRow_30 (by decide) (by omega) (by omega) (fun hby13 => ?_) (fun hby13 => ?_)
      · refine z_aload_n C 1 dX1_longestRow_135 rfl ?_
        refine z_get (v := .ref (ad (c0 + 1))) C (by omega) hay7 ((f3 _ (by omega)).trans hc.1) rfl inA_X1 0 (by decide) q_313 rfl rfl dX1_longestRow_136 ?_
        refine z_aload_n C 3 dX1_longestRow_139 rfl ?_
        refine z_get (v := .int (zI (sz2))) C (by omega) hay11 ((f3 _ (by omega)).trans ha2.1) rfl inA_X3 0 (by decide) q_155 rfl rfl dX1_longestRow_140 ?_
        refine z_iald C (by omega) hay8 f1 ((sz2).toNat) (by omega) (by omega) (by decide) dX1_longestRow_143 ?_
        obtain ⟨xy14, exy15, hxy16⟩ := zI_of (zI (r9 ((sz2).toNat)))
        rw [exy15]
        exact z_iret C hr hlk dX1_longestRow_144 (by decide) (by decide) ⟨xy14, rfl, rfl, rfl, by omega, ⟨_, ((f3 _ (by omega)).trans hc.1), f1⟩, fun j j1 => by exact f3 j j1⟩
      · refine z_iconst (z := 0) C dX1_longestRow_33 rfl ?_
        refine z_istore (lv' := [(4, .int (zI (0))), (3, .int (zI (i))), (0, .ref (ad c0)), (1, .ref (ad a)), (2, .ref (ad a2))]) C dX1_longestRow_34 (by decide) rfl ?_
        refine z_iconst (z := 0) C dX1_longestRow_36 rfl ?_
        refine z_istore (lv' := [(5, .int (zI (0))), (4, .int (zI (0))), (3, .int (zI (i))), (0, .ref (ad c0)), (1, .ref (ad a)), (2, .ref (ad a2))]) C dX1_longestRow_37 (by decide) rfl ?_
        have lp3 : ∀ (n9 : Nat) (j : Int) (co : Int) (r9 : Nat → Int) (g1 : Nat → va_E), (12 - j).toNat = n9 → (g1 (c0 + 1) = iA cs 13 r9) → (∀ j, j ≠ c0 + 1 → g1 j = g j) → (0 ≤ j ∧ j ≤ 12) → (-2147483648 ≤ co ∧ co ≤ 2147483647) → zV p l e ({ frames := 2, cells := 0, slots := 0, locals := 120 } : Room) s m ([.ref (ad c0), .ref (ad a), .ref (ad a2)] : List Value).toArray below meth c (MQ below (zPost D A (rI0 N ad fun r g' => (-2147483648 ≤ r ∧ r ≤ 2147483647) ∧ okLike cs ad g' c0 ∧ ∀ j, j ≠ c0 + 1 → g' j = g j)) ([.ref (ad c0), .ref (ad a), .ref (ad a2)] : List Value).toArray s ({ frames := 2, cells := 0, slots := 0, locals := 120 } : Room).cells ({ frames := 2, cells := 0, slots := 0, locals := 120 } : Room).slots A) D A 8 (N) ad g1 (0) (0) 39 [(5, .int (zI (j))), (4, .int (zI (co))), (3, .int (zI (i))), (0, .ref (ad c0)), (1, .ref (ad a)), (2, .ref (ad a2))] [] := by
          intro n9
          induction n9 using Nat.strongRecOn with
          | ind n9 ih_lp3 =>
            intro j co r9 g1 hm9 f1 f3 hy0 hy1
            have hay17 : zAt ad (c0) (ad c0) := rfl
            have hay18 : zAt ad (c0 + 1) (ad (c0 + 1)) := rfl
            have hay19 : zAt ad (a) (ad a) := rfl
            have hay20 : zAt ad (a + 1) (ad (a + 1)) := rfl
            have hay21 : zAt ad (a2) (ad a2) := rfl
            have hay22 : zAt ad (a2 + 1) (ad (a2 + 1)) := rfl
            refine z_iload C 0 dX1_longestRow_39 rfl ?_
            refine z_aload_n C 5 dX1_longestRow_41 rfl ?_
            refine z_get (v := .int (zI (sz2))) C (by omega) hay21 ((f3 _ (by omega)).trans ha2.1) rfl inA_X3 0 (by decide) q_155 rfl rfl dX1_longestRow_42 ?_
            refine z_icmp_ge (tgt := 129) C dX1_longestRow_45 (by decide) (by omega) (by omega) (fun hby23 => ?_) (fun hby23 => ?_)
            · refine z_iinc (z := i + 1) (lv' := [(3, .int (zI (i + 1))), (5, .int (zI (j))), (4, .int (zI (co))), (0, .ref (ad c0)), (1, .ref (ad a)), (2, .ref (ad a2))]) (j := 2) C dX1_longestRow_129 rfl rfl (by decide) rfl ?_
              refine z_goto (tgt := 25) C dX1_longestRow_132 (by decide) ?_
              refine z_lv (lv' := [(3, .int (zI (i + 1))), (0, .ref (ad c0)), (1, .ref (ad a)), (2, .ref (ad a2))]) [0, 3, 4, 5] rfl ?_
              exact ih_lp2 _ (by omega) (i + 1) _ g1 rfl f1 (fun j j1 => by exact f3 j j1) (by omega)
            · refine z_aload_n C 3 dX1_longestRow_48 rfl ?_
              refine z_get (v := .ref (ad (c0 + 1))) C (by omega) hay17 ((f3 _ (by omega)).trans hc.1) rfl inA_X1 0 (by decide) q_313 rfl rfl dX1_longestRow_49 ?_
              refine z_iload C 0 dX1_longestRow_52 rfl ?_
              refine z_iconst (z := 1) C dX1_longestRow_54 rfl ?_
              refine z_iadd C dX1_longestRow_55 ?_
              refine z_iald C (by omega) hay18 f1 ((j + 1).toNat) (by omega) (by omega) (by decide) dX1_longestRow_56 ?_
              refine z_istore (lv' := [(6, .int (zI (r9 ((j + 1).toNat)))), (5, .int (zI (j))), (4, .int (zI (co))), (3, .int (zI (i))), (0, .ref (ad c0)), (1, .ref (ad a)), (2, .ref (ad a2))]) C dX1_longestRow_57 (by decide) rfl ?_
              refine z_aload_n C 5 dX1_longestRow_59 rfl ?_
              refine z_get (v := .ref (ad (a + 1))) C (lt_A0 hN rfl) hay19 ((f3 _ (by omega)).trans ha.1) rfl inA_X3 2 (by decide) q_163 rfl rfl dX1_longestRow_60 ?_
              refine z_iconst (z := 0) C dX1_longestRow_63 rfl ?_
              refine z_iload_n C 3 dX1_longestRow_64 rfl ?_
              refine z_iadd C dX1_longestRow_65 ?_
              refine z_iald C (lt_A (c := 1) hN rfl) hay20 ((f3 _ (by omega)).trans ha.2) ((0 + i).toNat) (by omega) (by omega) (by decide) dX1_longestRow_66 ?_
              refine z_aload_n C 6 dX1_longestRow_67 rfl ?_
              refine z_get (v := .ref (ad (a2 + 1))) C (by omega) hay21 ((f3 _ (by omega)).trans ha2.1) rfl inA_X3 2 (by decide) q_163 rfl rfl dX1_longestRow_68 ?_
              refine z_iconst (z := 0) C dX1_longestRow_71 rfl ?_
              refine z_iload C 1 dX1_longestRow_72 rfl ?_
              refine z_iadd C dX1_longestRow_74 ?_
              refine z_iald C (by omega) hay22 ((f3 _ (by omega)).trans ha2.2) ((0 + j).toNat) (by omega) (by omega) (by decide) dX1_longestRow_75 ?_
              obtain ⟨xy24, exy25, hxy26⟩ := zI_of (zI (r2 ((0 + j).toNat)))
              rw [exy25]
              obtain ⟨xy27, exy28, hxy29⟩ := zI_of (zI (r ((0 + i).toNat)))
              rw [exy28]
              refine z_icmp_ne (tgt := 83) C dX1_longestRow_76 (by decide) (by omega) (by omega) (fun hby30 => ?_) (fun hby30 => ?_)
              · refine z_iconst (z := 0) C dX1_longestRow_83 rfl ?_
                refine z_istore (lv' := [(7, .int (zI (0))), (6, .int (zI (r9 ((j + 1).toNat)))), (5, .int (zI (j))), (4, .int (zI (co))), (3, .int (zI (i))), (0, .ref (ad c0)), (1, .ref (ad a)), (2, .ref (ad a2))]) C dX1_longestRow_84 (by decide) rfl ?_
                refine z_aload_n C 5 dX1_longestRow_86 rfl ?_
                refine z_get (v := .ref (ad (c0 + 1))) C (by omega) hay17 ((f3 _ (by omega)).trans hc.1) rfl inA_X1 0 (by decide) q_313 rfl rfl dX1_longestRow_87 ?_
                refine z_iload C 2 dX1_longestRow_90 rfl ?_
                refine z_iconst (z := 1) C dX1_longestRow_92 rfl ?_
                refine z_iadd C dX1_longestRow_93 ?_
                refine z_iload C 0 dX1_longestRow_94 rfl ?_
                refine z_if_eq (tgt := 106) C dX1_longestRow_96 (by decide) (by omega) (fun _ => ?_) (fun h => absurd h (by omega))
                refine z_iload C 1 dX1_longestRow_106 rfl ?_
                refine z_aload_n C 5 dX1_longestRow_108 rfl ?_
                refine z_get (v := .ref (ad (c0 + 1))) C (by omega) hay17 ((f3 _ (by omega)).trans hc.1) rfl inA_X1 0 (by decide) q_313 rfl rfl dX1_longestRow_109 ?_
                refine z_iload C 2 dX1_longestRow_112 rfl ?_
                refine z_iald C (by omega) hay18 f1 ((j).toNat) (by omega) (by omega) (by decide) dX1_longestRow_114 ?_
                obtain ⟨xy31, exy32, hxy33⟩ := zI_of (zI (r9 ((j).toNat)))
                rw [exy32]
                obtain ⟨xy34, exy35, hxy36⟩ := zI_of (zI (r9 ((j + 1).toNat)))
                rw [exy35]
                refine z_mmax C q_1338 q_470 q_20 q_471 (by omega) (by omega) (by decide) (Nat.le_of_ble_eq_true rfl) (by decide) (by decide) dX1_longestRow_115 ?_
                obtain ⟨xy37, exy38, hxy39⟩ := mm_max (xy34) (xy31)
                rw [exy38]
                refine z_iast C (by omega) hay18 f1 ((j + 1).toNat) (by omega) (by omega) (by decide) dX1_longestRow_118 (fun gy40 egy41 => ?_)
                have hgy42 := up_s egy41
                refine z_iload C 1 dX1_longestRow_119 rfl ?_
                refine z_istore (lv' := [(4, .int (zI (xy34))), (7, .int (zI (0))), (6, .int (zI (xy34))), (5, .int (zI (j))), (3, .int (zI (i))), (0, .ref (ad c0)), (1, .ref (ad a)), (2, .ref (ad a2))]) C dX1_longestRow_121 (by decide) rfl ?_
                refine z_iinc (z := j + 1) (lv' := [(5, .int (zI (j + 1))), (4, .int (zI (xy34))), (7, .int (zI (0))), (6, .int (zI (xy34))), (3, .int (zI (i))), (0, .ref (ad c0)), (1, .ref (ad a)), (2, .ref (ad a2))]) (j := 3) C dX1_longestRow_123 rfl rfl (by decide) rfl ?_
                refine z_goto (tgt := 39) C dX1_longestRow_126 (by decide) ?_
                refine z_lv (lv' := [(5, .int (zI (j + 1))), (4, .int (zI (xy34))), (3, .int (zI (i))), (0, .ref (ad c0)), (1, .ref (ad a)), (2, .ref (ad a2))]) [0, 1, 4, 5, 6, 7] rfl ?_
                exact ih_lp3 _ (by omega) (j + 1) (xy34) _ gy40 rfl hgy42 (fun j j1 => by rw [egy41, va_up_ne _ _ (by omega)]; exact f3 j j1) (by omega) (by omega)
              · refine z_iconst (z := 1) C dX1_longestRow_79 rfl ?_
                refine z_goto (tgt := 84) C dX1_longestRow_80 (by decide) ?_
                refine z_istore (lv' := [(7, .int (zI (1))), (6, .int (zI (r9 ((j + 1).toNat)))), (5, .int (zI (j))), (4, .int (zI (co))), (3, .int (zI (i))), (0, .ref (ad c0)), (1, .ref (ad a)), (2, .ref (ad a2))]) C dX1_longestRow_84 (by decide) rfl ?_
                refine z_aload_n C 5 dX1_longestRow_86 rfl ?_
                refine z_get (v := .ref (ad (c0 + 1))) C (by omega) hay17 ((f3 _ (by omega)).trans hc.1) rfl inA_X1 0 (by decide) q_313 rfl rfl dX1_longestRow_87 ?_
                refine z_iload C 2 dX1_longestRow_90 rfl ?_
                refine z_iconst (z := 1) C dX1_longestRow_92 rfl ?_
                refine z_iadd C dX1_longestRow_93 ?_
                refine z_iload C 0 dX1_longestRow_94 rfl ?_
                refine z_if_eq (tgt := 106) C dX1_longestRow_96 (by decide) (by omega) (fun h => absurd h (by omega)) (fun _ => ?_)
                refine z_iload C 3 dX1_longestRow_99 rfl ?_
                refine z_iconst (z := 1) C dX1_longestRow_101 rfl ?_
                refine z_iadd C dX1_longestRow_102 ?_
                refine z_goto (tgt := 118) C dX1_longestRow_103 (by decide) ?_
                refine z_iast C (by omega) hay18 f1 ((j + 1).toNat) (by omega) (by omega) (by decide) dX1_longestRow_118 (fun gy43 egy44 => ?_)
                have hgy45 := up_s egy44
                refine z_iload C 1 dX1_longestRow_119 rfl ?_
                refine z_istore (lv' := [(4, .int (zI (r9 ((j + 1).toNat)))), (7, .int (zI (1))), (6, .int (zI (r9 ((j + 1).toNat)))), (5, .int (zI (j))), (3, .int (zI (i))), (0, .ref (ad c0)), (1, .ref (ad a)), (2, .ref (ad a2))]) C dX1_longestRow_121 (by decide) rfl ?_
                refine z_iinc (z := j + 1) (lv' := [(5, .int (zI (j + 1))), (4, .int (zI (r9 ((j + 1).toNat)))), (7, .int (zI (1))), (6, .int (zI (r9 ((j + 1).toNat)))), (3, .int (zI (i))), (0, .ref (ad c0)), (1, .ref (ad a)), (2, .ref (ad a2))]) (j := 3) C dX1_longestRow_123 rfl rfl (by decide) rfl ?_
                refine z_goto (tgt := 39) C dX1_longestRow_126 (by decide) ?_
                obtain ⟨xy46, exy47, hxy48⟩ := zI_of (zI (r9 ((j + 1).toNat)))
                rw [exy47]
                refine z_lv (lv' := [(5, .int (zI (j + 1))), (4, .int (zI (xy46))), (3, .int (zI (i))), (0, .ref (ad c0)), (1, .ref (ad a)), (2, .ref (ad a2))]) [0, 1, 4, 5, 6, 7] rfl ?_
                exact ih_lp3 _ (by omega) (j + 1) (xy46) _ gy43 rfl hgy45 (fun j j1 => by rw [egy44, va_up_ne _ _ (by omega)]; exact f3 j j1) (by omega) (by omega)
        refine z_lv (lv' := [(5, .int (zI (0))), (4, .int (zI (0))), (3, .int (zI (i))), (0, .ref (ad c0)), (1, .ref (ad a)), (2, .ref (ad a2))]) [0, 1, 2, 3, 4, 5] rfl ?_
        exact lp3 _ (0) (0) _ g1 rfl f1 (fun j j1 => by exact f3 j j1) (by omega) (by omega)
  have lp1 : ∀ (n9 : Nat) (j : Int) (r9 : Nat → Int) (g1 : Nat → va_E), (13 - j).toNat = n9 → (g1 (c0 + 1) = iA cs 13 r9) → (∀ j, j ≠ c0 + 1 → g1 j = g j) → (0 ≤ j ∧ j ≤ 13) → zV p l e ({ frames := 2, cells := 0, slots := 0, locals := 120 } : Room) s m ([.ref (ad c0), .ref (ad a), .ref (ad a2)] : List Value).toArray below meth c (MQ below (zPost D A (rI0 N ad fun r g' => (-2147483648 ≤ r ∧ r ≤ 2147483647) ∧ okLike cs ad g' c0 ∧ ∀ j, j ≠ c0 + 1 → g' j = g j)) ([.ref (ad c0), .ref (ad a), .ref (ad a2)] : List Value).toArray s ({ frames := 2, cells := 0, slots := 0, locals := 120 } : Room).cells ({ frames := 2, cells := 0, slots := 0, locals := 120 } : Room).slots A) D A 8 (N) ad g1 (0) (0) 2 [(3, .int (zI (j))), (0, .ref (ad c0)), (1, .ref (ad a)), (2, .ref (ad a2))] [] := by
    intro n9
    induction n9 using Nat.strongRecOn with
    | ind n9 ih_lp1 =>
      intro j r9 g1 hm9 f1 f3 hw0
      have hay49 : zAt ad (c0) (ad c0) := rfl
      have hay50 : zAt ad (c0 + 1) (ad (c0 + 1)) := rfl
      have hay51 : zAt ad (a) (ad a) := rfl
      have hay52 : zAt ad (a + 1) (ad (a + 1)) := rfl
      have hay53 : zAt ad (a2) (ad a2) := rfl
      have hay54 : zAt ad (a2 + 1) (ad (a2 + 1)) := rfl
      refine z_iload_n C 0 dX1_longestRow_2 rfl ?_
      refine z_aload_n C 3 dX1_longestRow_3 rfl ?_
      refine z_get (v := .int (zI (sz2))) C (by omega) hay53 ((f3 _ (by omega)).trans ha2.1) rfl inA_X3 0 (by decide) q_155 rfl rfl dX1_longestRow_4 ?_
      refine z_icmp_gt (tgt := 23) C dX1_longestRow_7 (by decide) (by omega) (by omega) (fun hby55 => ?_) (fun hby55 => ?_)
      · refine z_iconst (z := 0) C dX1_longestRow_23 rfl ?_
        refine z_istore_n (lv' := [(3, .int (zI (0))), (0, .ref (ad c0)), (1, .ref (ad a)), (2, .ref (ad a2))]) C dX1_longestRow_24 rfl (by decide) rfl ?_
        refine z_lv (lv' := [(3, .int (zI (0))), (0, .ref (ad c0)), (1, .ref (ad a)), (2, .ref (ad a2))]) [0, 1, 2, 3] rfl ?_
        exact lp2 _ (0) _ g1 rfl f1 (fun j j1 => by exact f3 j j1) (by omega)
      · refine z_aload_n C 1 dX1_longestRow_10 rfl ?_
        refine z_get (v := .ref (ad (c0 + 1))) C (by omega) hay49 ((f3 _ (by omega)).trans hc.1) rfl inA_X1 0 (by decide) q_313 rfl rfl dX1_longestRow_11 ?_
        refine z_iload_n C 0 dX1_longestRow_14 rfl ?_
        refine z_iconst (z := 0) C dX1_longestRow_15 rfl ?_
        refine z_iast C (by omega) hay50 f1 ((j).toNat) (by omega) (by omega) (by decide) dX1_longestRow_16 (fun gy56 egy57 => ?_)
        have hgy58 := up_s egy57
        refine z_iinc (z := j + 1) (lv' := [(3, .int (zI (j + 1))), (0, .ref (ad c0)), (1, .ref (ad a)), (2, .ref (ad a2))]) (j := 0) C dX1_longestRow_17 rfl rfl (by decide) rfl ?_
        refine z_goto (tgt := 2) C dX1_longestRow_20 (by decide) ?_
        refine z_lv (lv' := [(3, .int (zI (j + 1))), (0, .ref (ad c0)), (1, .ref (ad a)), (2, .ref (ad a2))]) [0, 1, 2, 3] rfl ?_
        exact ih_lp1 _ (by omega) (j + 1) _ gy56 rfl hgy58 (fun j j1 => by rw [egy57, va_up_ne _ _ (by omega)]; exact f3 j j1) (by omega)
  refine z_iconst (z := 0) C dX1_longestRow_0 rfl ?_
  refine z_istore_n (lv' := [(3, .int (zI (0))), (0, .ref (ad c0)), (1, .ref (ad a)), (2, .ref (ad a2))]) C dX1_longestRow_1 rfl (by decide) rfl ?_
  refine z_lv (lv' := [(3, .int (zI (0))), (0, .ref (ad c0)), (1, .ref (ad a)), (2, .ref (ad a2))]) [0, 1, 2, 3] rfl ?_
  exact lp1 _ (0) _ g rfl hc.2 (fun j j1 => by rfl) (by omega)

set_option maxRecDepth 100000 in
set_option maxHeartbeats 4000000 in
theorem c_X1_fewestSteps (l : Launch) (D : va_G) (A : Nat → Prop) (cs : Nat → ClassId) (tt : Nat) (N : Nat) (ad : Nat → Nat) (g : Nat → va_E) (c0 : Nat) (hNc : c0 + 2 ≤ N) (r0 : Nat → Int) (hc : isLike cs ad g c0 r0) (a : Nat) (hN : a + 2 ≤ N) (sz ro : Int) (r : Nat → Int) (hz : 0 ≤ sz ∧ sz ≤ 12) (ha : isPack cs ad g a sz ro r) (a2 : Nat) (hN2 : a2 + 2 ≤ N) (sz2 ro2 : Int) (r2 : Nat → Int) (hz2 : 0 ≤ sz2 ∧ sz2 ≤ 12) (ha2 : isPack cs ad g a2 sz2 ro2 r2) (hca : c0 + 2 ≤ a ∨ a + 2 ≤ c0) (hca2 : c0 + 2 ≤ a2 ∨ a2 + 2 ≤ c0) : zM l yX1_fewestSteps cX1_fewestSteps 9 (some .int) ({ frames := 2, cells := 0, slots := 0, locals := 120 } : Room) D A cs tt N ad g [.ref (ad c0), .ref (ad a), .ref (ad a2)] (rI0 N ad fun r g' => (-2147483648 ≤ r ∧ r ≤ 2147483647) ∧ okLike cs ad g' c0 ∧ ∀ j, j ≠ c0 + 1 → g' j = g j) := by
  have hay1 : zAt ad (c0) (ad c0) := rfl
  have hay2 : zAt ad (c0 + 1) (ad (c0 + 1)) := rfl
  have hay3 : zAt ad (a) (ad a) := rfl
  have hay4 : zAt ad (a + 1) (ad (a + 1)) := rfl
  have hay5 : zAt ad (a2) (ad a2) := rfl
  have hay6 : zAt ad (a2 + 1) (ad (a2 + 1)) := rfl
  refine z_of (by decide) (Nat.le_of_ble_eq_true rfl) ?_
  intro p e s m below meth c C hr hlk hnm
  refine z_lv (lv' := [(0, .ref (ad c0)), (1, .ref (ad a)), (2, .ref (ad a2))]) [0, 1, 2] rfl ?_
  have lp2 : ∀ (n9 : Nat) (i : Int) (r9 : Nat → Int) (g1 : Nat → va_E), (12 - i).toNat = n9 → (g1 (c0 + 1) = iA cs 13 r9) → (∀ j, j ≠ c0 + 1 → g1 j = g j) → (0 ≤ i ∧ i ≤ 12) → zV p l e ({ frames := 2, cells := 0, slots := 0, locals := 120 } : Room) s m ([.ref (ad c0), .ref (ad a), .ref (ad a2)] : List Value).toArray below meth c (MQ below (zPost D A (rI0 N ad fun r g' => (-2147483648 ≤ r ∧ r ≤ 2147483647) ∧ okLike cs ad g' c0 ∧ ∀ j, j ≠ c0 + 1 → g' j = g j)) ([.ref (ad c0), .ref (ad a), .ref (ad a2)] : List Value).toArray s ({ frames := 2, cells := 0, slots := 0, locals := 120 } : Room).cells ({ frames := 2, cells := 0, slots := 0, locals := 120 } : Room).slots A) D A 9 (N) ad g1 (0) (0) 25 [(3, .int (zI (i))), (0, .ref (ad c0)), (1, .ref (ad a)), (2, .ref (ad a2))] [] := by
    intro n9
    induction n9 using Nat.strongRecOn with
    | ind n9 ih_lp2 =>
      intro i r9 g1 hm9 f1 f3 hx0
      have hay7 : zAt ad (c0) (ad c0) := rfl
      have hay8 : zAt ad (c0 + 1) (ad (c0 + 1)) := rfl
      have hay9 : zAt ad (a) (ad a) := rfl
      have hay10 : zAt ad (a + 1) (ad (a + 1)) := rfl
      have hay11 : zAt ad (a2) (ad a2) := rfl
      have hay12 : zAt ad (a2 + 1) (ad (a2 + 1)) := rfl
      refine z_iload_n C 0 dX1_fewestSteps_25 rfl ?_
      refine z_aload_n C 2 dX1_fewestSteps_26 rfl ?_
      refine z_get (v := .int (zI (sz))) C (lt_A0 hN rfl) hay9 ((f3 _ (by omega)).trans ha.1) rfl inA_X3 0 (by decide) q_155 rfl rfl dX1_fewestSteps_27 ?_
      refine z_icmp_ge (tgt := 160) C dX1_fewestSteps_30 (by decide) (by omega) (by omega) (fun hby13 => ?_) (fun hby13 => ?_)
      · refine z_aload_n C 1 dX1_fewestSteps_160 rfl ?_
        refine z_get (v := .ref (ad (c0 + 1))) C (by omega) hay7 ((f3 _ (by omega)).trans hc.1) rfl inA_X1 0 (by decide) q_313 rfl rfl dX1_fewestSteps_161 ?_
        refine z_aload_n C 3 dX1_fewestSteps_164 rfl ?_
        refine z_get (v := .int (zI (sz2))) C (by omega) hay11 ((f3 _ (by omega)).trans ha2.1) rfl inA_X3 0 (by decide) q_155 rfl rfl dX1_fewestSteps_165 ?_
        refine z_iald C (by omega) hay8 f1 ((sz2).toNat) (by omega) (by omega) (by decide) dX1_fewestSteps_168 ?_
        obtain ⟨xy14, exy15, hxy16⟩ := zI_of (zI (r9 ((sz2).toNat)))
        rw [exy15]
        exact z_iret C hr hlk dX1_fewestSteps_169 (by decide) (by decide) ⟨xy14, rfl, rfl, rfl, by omega, ⟨_, ((f3 _ (by omega)).trans hc.1), f1⟩, fun j j1 => by exact f3 j j1⟩
      · refine z_aload_n C 1 dX1_fewestSteps_33 rfl ?_
        refine z_get (v := .ref (ad (c0 + 1))) C (by omega) hay7 ((f3 _ (by omega)).trans hc.1) rfl inA_X1 0 (by decide) q_313 rfl rfl dX1_fewestSteps_34 ?_
        refine z_iconst (z := 0) C dX1_fewestSteps_37 rfl ?_
        refine z_iald C (by omega) hay8 f1 (0) (by omega) (by omega) (by decide) dX1_fewestSteps_38 ?_
        refine z_istore (lv' := [(4, .int (zI (r9 (0)))), (3, .int (zI (i))), (0, .ref (ad c0)), (1, .ref (ad a)), (2, .ref (ad a2))]) C dX1_fewestSteps_39 (by decide) rfl ?_
        refine z_aload_n C 2 dX1_fewestSteps_41 rfl ?_
        refine z_get (v := .ref (ad (c0 + 1))) C (by omega) hay7 ((f3 _ (by omega)).trans hc.1) rfl inA_X1 0 (by decide) q_313 rfl rfl dX1_fewestSteps_42 ?_
        refine z_iconst (z := 0) C dX1_fewestSteps_45 rfl ?_
        refine z_iload_n C 1 dX1_fewestSteps_46 rfl ?_
        refine z_iconst (z := 1) C dX1_fewestSteps_47 rfl ?_
        refine z_iadd C dX1_fewestSteps_48 ?_
        refine z_iast C (by omega) hay8 f1 (0) (by omega) (by omega) (by decide) dX1_fewestSteps_49 (fun gy17 egy18 => ?_)
        have hgy19 := up_s egy18
        refine z_iconst (z := 0) C dX1_fewestSteps_50 rfl ?_
        refine z_istore (lv' := [(5, .int (zI (0))), (4, .int (zI (r9 (0)))), (3, .int (zI (i))), (0, .ref (ad c0)), (1, .ref (ad a)), (2, .ref (ad a2))]) C dX1_fewestSteps_51 (by decide) rfl ?_
        have lp3 : ∀ (n9 : Nat) (j : Int) (co : Int) (r9 : Nat → Int) (g1 : Nat → va_E), (12 - j).toNat = n9 → (g1 (c0 + 1) = iA cs 13 r9) → (∀ j, j ≠ c0 + 1 → g1 j = g j) → (0 ≤ j ∧ j ≤ 12) → (-2147483648 ≤ co ∧ co ≤ 2147483647) → zV p l e ({ frames := 2, cells := 0, slots := 0, locals := 120 } : Room) s m ([.ref (ad c0), .ref (ad a), .ref (ad a2)] : List Value).toArray below meth c (MQ below (zPost D A (rI0 N ad fun r g' => (-2147483648 ≤ r ∧ r ≤ 2147483647) ∧ okLike cs ad g' c0 ∧ ∀ j, j ≠ c0 + 1 → g' j = g j)) ([.ref (ad c0), .ref (ad a), .ref (ad a2)] : List Value).toArray s ({ frames := 2, cells := 0, slots := 0, locals := 120 } : Room).cells ({ frames := 2, cells := 0, slots := 0, locals := 120 } : Room).slots A) D A 9 (N) ad g1 (0) (0) 53 [(5, .int (zI (j))), (4, .int (zI (co))), (3, .int (zI (i))), (0, .ref (ad c0)), (1, .ref (ad a)), (2, .ref (ad a2))] [] := by
          intro n9
          induction n9 using Nat.strongRecOn with
          | ind n9 ih_lp3 =>
            intro j co r9 g1 hm9 f1 f3 hy0 hy1
            have hay20 : zAt ad (c0) (ad c0) := rfl
            have hay21 : zAt ad (c0 + 1) (ad (c0 + 1)) := rfl
            have hay22 : zAt ad (a) (ad a) := rfl
            have hay23 : zAt ad (a + 1) (ad (a + 1)) := rfl
            have hay24 : zAt ad (a2) (ad a2) := rfl
            have hay25 : zAt ad (a2 + 1) (ad (a2 + 1)) := rfl
            refine z_iload C 0 dX1_fewestSteps_53 rfl ?_
            refine z_aload_n C 5 dX1_fewestSteps_55 rfl ?_
            refine z_get (v := .int (zI (sz2))) C (by omega) hay24 ((f3 _ (by omega)).trans ha2.1) rfl inA_X3 0 (by decide) q_155 rfl rfl dX1_fewestSteps_56 ?_
            refine z_icmp_ge (tgt := 154) C dX1_fewestSteps_59 (by decide) (by omega) (by omega) (fun hby26 => ?_) (fun hby26 => ?_)
            · refine z_iinc (z := i + 1) (lv' := [(3, .int (zI (i + 1))), (5, .int (zI (j))), (4, .int (zI (co))), (0, .ref (ad c0)), (1, .ref (ad a)), (2, .ref (ad a2))]) (j := 2) C dX1_fewestSteps_154 rfl rfl (by decide) rfl ?_
              refine z_goto (tgt := 25) C dX1_fewestSteps_157 (by decide) ?_
              refine z_lv (lv' := [(3, .int (zI (i + 1))), (0, .ref (ad c0)), (1, .ref (ad a)), (2, .ref (ad a2))]) [0, 3, 4, 5] rfl ?_
              exact ih_lp2 _ (by omega) (i + 1) _ g1 rfl f1 (fun j j1 => by exact f3 j j1) (by omega)
            · refine z_aload_n C 3 dX1_fewestSteps_62 rfl ?_
              refine z_get (v := .ref (ad (c0 + 1))) C (by omega) hay20 ((f3 _ (by omega)).trans hc.1) rfl inA_X1 0 (by decide) q_313 rfl rfl dX1_fewestSteps_63 ?_
              refine z_iload C 0 dX1_fewestSteps_66 rfl ?_
              refine z_iconst (z := 1) C dX1_fewestSteps_68 rfl ?_
              refine z_iadd C dX1_fewestSteps_69 ?_
              refine z_iald C (by omega) hay21 f1 ((j + 1).toNat) (by omega) (by omega) (by decide) dX1_fewestSteps_70 ?_
              refine z_istore (lv' := [(6, .int (zI (r9 ((j + 1).toNat)))), (5, .int (zI (j))), (4, .int (zI (co))), (3, .int (zI (i))), (0, .ref (ad c0)), (1, .ref (ad a)), (2, .ref (ad a2))]) C dX1_fewestSteps_71 (by decide) rfl ?_
              refine z_aload_n C 5 dX1_fewestSteps_73 rfl ?_
              refine z_get (v := .ref (ad (a + 1))) C (lt_A0 hN rfl) hay22 ((f3 _ (by omega)).trans ha.1) rfl inA_X3 2 (by decide) q_163 rfl rfl dX1_fewestSteps_74 ?_
              refine z_iconst (z := 0) C dX1_fewestSteps_77 rfl ?_
              refine z_iload_n C 3 dX1_fewestSteps_78 rfl ?_
              refine z_iadd C dX1_fewestSteps_79 ?_
              refine z_iald C (lt_A (c := 1) hN rfl) hay23 ((f3 _ (by omega)).trans ha.2) ((0 + i).toNat) (by omega) (by omega) (by decide) dX1_fewestSteps_80 ?_
              refine z_aload_n C 6 dX1_fewestSteps_81 rfl ?_
              refine z_get (v := .ref (ad (a2 + 1))) C (by omega) hay24 ((f3 _ (by omega)).trans ha2.1) rfl inA_X3 2 (by decide) q_163 rfl rfl dX1_fewestSteps_82 ?_
              refine z_iconst (z := 0) C dX1_fewestSteps_85 rfl ?_
              refine z_iload C 1 dX1_fewestSteps_86 rfl ?_
              refine z_iadd C dX1_fewestSteps_88 ?_
              refine z_iald C (by omega) hay25 ((f3 _ (by omega)).trans ha2.2) ((0 + j).toNat) (by omega) (by omega) (by decide) dX1_fewestSteps_89 ?_
              obtain ⟨xy27, exy28, hxy29⟩ := zI_of (zI (r2 ((0 + j).toNat)))
              rw [exy28]
              obtain ⟨xy30, exy31, hxy32⟩ := zI_of (zI (r ((0 + i).toNat)))
              rw [exy31]
              refine z_icmp_ne (tgt := 97) C dX1_fewestSteps_90 (by decide) (by omega) (by omega) (fun hby33 => ?_) (fun hby33 => ?_)
              · refine z_iconst (z := 0) C dX1_fewestSteps_97 rfl ?_
                refine z_istore (lv' := [(7, .int (zI (0))), (6, .int (zI (r9 ((j + 1).toNat)))), (5, .int (zI (j))), (4, .int (zI (co))), (3, .int (zI (i))), (0, .ref (ad c0)), (1, .ref (ad a)), (2, .ref (ad a2))]) C dX1_fewestSteps_98 (by decide) rfl ?_
                refine z_iload C 0 dX1_fewestSteps_100 rfl ?_
                refine z_if_eq (tgt := 110) C dX1_fewestSteps_102 (by decide) (by omega) (fun _ => ?_) (fun h => absurd h (by omega))
                refine z_iload C 3 dX1_fewestSteps_110 rfl ?_
                refine z_iconst (z := 1) C dX1_fewestSteps_112 rfl ?_
                refine z_iadd C dX1_fewestSteps_113 ?_
                refine z_istore (lv' := [(8, .int (zI (co + 1))), (7, .int (zI (0))), (6, .int (zI (r9 ((j + 1).toNat)))), (5, .int (zI (j))), (4, .int (zI (co))), (3, .int (zI (i))), (0, .ref (ad c0)), (1, .ref (ad a)), (2, .ref (ad a2))]) C dX1_fewestSteps_114 (by decide) rfl ?_
                refine z_aload_n C 6 dX1_fewestSteps_116 rfl ?_
                refine z_get (v := .ref (ad (c0 + 1))) C (by omega) hay20 ((f3 _ (by omega)).trans hc.1) rfl inA_X1 0 (by decide) q_313 rfl rfl dX1_fewestSteps_117 ?_
                refine z_iload C 3 dX1_fewestSteps_120 rfl ?_
                refine z_iconst (z := 1) C dX1_fewestSteps_122 rfl ?_
                refine z_iadd C dX1_fewestSteps_123 ?_
                refine z_iload C 0 dX1_fewestSteps_124 rfl ?_
                refine z_iload C 2 dX1_fewestSteps_126 rfl ?_
                refine z_aload_n C 6 dX1_fewestSteps_128 rfl ?_
                refine z_get (v := .ref (ad (c0 + 1))) C (by omega) hay20 ((f3 _ (by omega)).trans hc.1) rfl inA_X1 0 (by decide) q_313 rfl rfl dX1_fewestSteps_129 ?_
                refine z_iload C 3 dX1_fewestSteps_132 rfl ?_
                refine z_iald C (by omega) hay21 f1 ((j).toNat) (by omega) (by omega) (by decide) dX1_fewestSteps_134 ?_
                obtain ⟨xy34, exy35, hxy36⟩ := zI_of (zI (r9 ((j).toNat)))
                rw [exy35]
                obtain ⟨xy37, exy38, hxy39⟩ := zI_of (zI (r9 ((j + 1).toNat)))
                rw [exy38]
                refine z_mmin C q_1343 q_473 q_20 q_474 (by omega) (by omega) (by decide) (Nat.le_of_ble_eq_true rfl) (by decide) (by decide) dX1_fewestSteps_135 ?_
                obtain ⟨xy40, exy41, hxy42⟩ := mm_min (xy37) (xy34)
                rw [exy41]
                refine z_iconst (z := 1) C dX1_fewestSteps_138 rfl ?_
                refine z_iadd C dX1_fewestSteps_139 ?_
                obtain ⟨xy43, exy44, hxy45⟩ := zI_of (zI (xy40 + 1))
                rw [exy44]
                obtain ⟨xy46, exy47, hxy48⟩ := zI_of (zI (co + 1))
                rw [exy47]
                refine z_mmin C q_1343 q_473 q_20 q_474 (by omega) (by omega) (by decide) (Nat.le_of_ble_eq_true rfl) (by decide) (by decide) dX1_fewestSteps_140 ?_
                obtain ⟨xy49, exy50, hxy51⟩ := mm_min (xy46) (xy43)
                rw [exy50]
                refine z_iast C (by omega) hay21 f1 ((j + 1).toNat) (by omega) (by omega) (by decide) dX1_fewestSteps_143 (fun gy52 egy53 => ?_)
                have hgy54 := up_s egy53
                refine z_iload C 2 dX1_fewestSteps_144 rfl ?_
                refine z_istore (lv' := [(4, .int (zI (xy37))), (8, .int (zI (xy46))), (7, .int (zI (0))), (6, .int (zI (xy37))), (5, .int (zI (j))), (3, .int (zI (i))), (0, .ref (ad c0)), (1, .ref (ad a)), (2, .ref (ad a2))]) C dX1_fewestSteps_146 (by decide) rfl ?_
                refine z_iinc (z := j + 1) (lv' := [(5, .int (zI (j + 1))), (4, .int (zI (xy37))), (8, .int (zI (xy46))), (7, .int (zI (0))), (6, .int (zI (xy37))), (3, .int (zI (i))), (0, .ref (ad c0)), (1, .ref (ad a)), (2, .ref (ad a2))]) (j := 4) C dX1_fewestSteps_148 rfl rfl (by decide) rfl ?_
                refine z_goto (tgt := 53) C dX1_fewestSteps_151 (by decide) ?_
                refine z_lv (lv' := [(5, .int (zI (j + 1))), (4, .int (zI (xy37))), (3, .int (zI (i))), (0, .ref (ad c0)), (1, .ref (ad a)), (2, .ref (ad a2))]) [0, 1, 5, 6, 7, 8] rfl ?_
                exact ih_lp3 _ (by omega) (j + 1) (xy37) _ gy52 rfl hgy54 (fun j j1 => by rw [egy53, va_up_ne _ _ (by omega)]; exact f3 j j1) (by omega) (by omega)
              · refine z_iconst (z := 1) C dX1_fewestSteps_93 rfl ?_
                refine z_goto (tgt := 98) C dX1_fewestSteps_94 (by decide) ?_
                refine z_istore (lv' := [(7, .int (zI (1))), (6, .int (zI (r9 ((j + 1).toNat)))), (5, .int (zI (j))), (4, .int (zI (co))), (3, .int (zI (i))), (0, .ref (ad c0)), (1, .ref (ad a)), (2, .ref (ad a2))]) C dX1_fewestSteps_98 (by decide) rfl ?_
                refine z_iload C 0 dX1_fewestSteps_100 rfl ?_
                refine z_if_eq (tgt := 110) C dX1_fewestSteps_102 (by decide) (by omega) (fun h => absurd h (by omega)) (fun _ => ?_)
                refine z_iload C 3 dX1_fewestSteps_105 rfl ?_
                refine z_goto (tgt := 114) C dX1_fewestSteps_107 (by decide) ?_
                refine z_istore (lv' := [(8, .int (zI (co))), (7, .int (zI (1))), (6, .int (zI (r9 ((j + 1).toNat)))), (5, .int (zI (j))), (4, .int (zI (co))), (3, .int (zI (i))), (0, .ref (ad c0)), (1, .ref (ad a)), (2, .ref (ad a2))]) C dX1_fewestSteps_114 (by decide) rfl ?_
                refine z_aload_n C 6 dX1_fewestSteps_116 rfl ?_
                refine z_get (v := .ref (ad (c0 + 1))) C (by omega) hay20 ((f3 _ (by omega)).trans hc.1) rfl inA_X1 0 (by decide) q_313 rfl rfl dX1_fewestSteps_117 ?_
                refine z_iload C 3 dX1_fewestSteps_120 rfl ?_
                refine z_iconst (z := 1) C dX1_fewestSteps_122 rfl ?_
                refine z_iadd C dX1_fewestSteps_123 ?_
                refine z_iload C 0 dX1_fewestSteps_124 rfl ?_
                refine z_iload C 2 dX1_fewestSteps_126 rfl ?_
                refine z_aload_n C 6 dX1_fewestSteps_128 rfl ?_
                refine z_get (v := .ref (ad (c0 + 1))) C (by omega) hay20 ((f3 _ (by omega)).trans hc.1) rfl inA_X1 0 (by decide) q_313 rfl rfl dX1_fewestSteps_129 ?_
                refine z_iload C 3 dX1_fewestSteps_132 rfl ?_
                refine z_iald C (by omega) hay21 f1 ((j).toNat) (by omega) (by omega) (by decide) dX1_fewestSteps_134 ?_
                obtain ⟨xy55, exy56, hxy57⟩ := zI_of (zI (r9 ((j).toNat)))
                rw [exy56]
                obtain ⟨xy58, exy59, hxy60⟩ := zI_of (zI (r9 ((j + 1).toNat)))
                rw [exy59]
                refine z_mmin C q_1343 q_473 q_20 q_474 (by omega) (by omega) (by decide) (Nat.le_of_ble_eq_true rfl) (by decide) (by decide) dX1_fewestSteps_135 ?_
                obtain ⟨xy61, exy62, hxy63⟩ := mm_min (xy58) (xy55)
                rw [exy62]
                refine z_iconst (z := 1) C dX1_fewestSteps_138 rfl ?_
                refine z_iadd C dX1_fewestSteps_139 ?_
                obtain ⟨xy64, exy65, hxy66⟩ := zI_of (zI (xy61 + 1))
                rw [exy65]
                refine z_mmin C q_1343 q_473 q_20 q_474 (by omega) (by omega) (by decide) (Nat.le_of_ble_eq_true rfl) (by decide) (by decide) dX1_fewestSteps_140 ?_
                obtain ⟨xy67, exy68, hxy69⟩ := mm_min (co) (xy64)
                rw [exy68]
                refine z_iast C (by omega) hay21 f1 ((j + 1).toNat) (by omega) (by omega) (by decide) dX1_fewestSteps_143 (fun gy70 egy71 => ?_)
                have hgy72 := up_s egy71
                refine z_iload C 2 dX1_fewestSteps_144 rfl ?_
                refine z_istore (lv' := [(4, .int (zI (xy58))), (8, .int (zI (co))), (7, .int (zI (1))), (6, .int (zI (xy58))), (5, .int (zI (j))), (3, .int (zI (i))), (0, .ref (ad c0)), (1, .ref (ad a)), (2, .ref (ad a2))]) C dX1_fewestSteps_146 (by decide) rfl ?_
                refine z_iinc (z := j + 1) (lv' := [(5, .int (zI (j + 1))), (4, .int (zI (xy58))), (8, .int (zI (co))), (7, .int (zI (1))), (6, .int (zI (xy58))), (3, .int (zI (i))), (0, .ref (ad c0)), (1, .ref (ad a)), (2, .ref (ad a2))]) (j := 4) C dX1_fewestSteps_148 rfl rfl (by decide) rfl ?_
                refine z_goto (tgt := 53) C dX1_fewestSteps_151 (by decide) ?_
                refine z_lv (lv' := [(5, .int (zI (j + 1))), (4, .int (zI (xy58))), (3, .int (zI (i))), (0, .ref (ad c0)), (1, .ref (ad a)), (2, .ref (ad a2))]) [0, 1, 5, 6, 7, 8] rfl ?_
                exact ih_lp3 _ (by omega) (j + 1) (xy58) _ gy70 rfl hgy72 (fun j j1 => by rw [egy71, va_up_ne _ _ (by omega)]; exact f3 j j1) (by omega) (by omega)
        obtain ⟨xy73, exy74, hxy75⟩ := zI_of (zI (r9 (0)))
        rw [exy74]
        refine z_lv (lv' := [(5, .int (zI (0))), (4, .int (zI (xy73))), (3, .int (zI (i))), (0, .ref (ad c0)), (1, .ref (ad a)), (2, .ref (ad a2))]) [0, 1, 2, 3, 4, 5] rfl ?_
        exact lp3 _ (0) (xy73) _ gy17 rfl hgy19 (fun j j1 => by rw [egy18, va_up_ne _ _ (by omega)]; exact f3 j j1) (by omega) (by omega)
  have lp1 : ∀ (n9 : Nat) (j : Int) (r9 : Nat → Int) (g1 : Nat → va_E), (13 - j).toNat = n9 → (g1 (c0 + 1) = iA cs 13 r9) → (∀ j, j ≠ c0 + 1 → g1 j = g j) → (0 ≤ j ∧ j ≤ 13) → zV p l e ({ frames := 2, cells := 0, slots := 0, locals := 120 } : Room) s m ([.ref (ad c0), .ref (ad a), .ref (ad a2)] : List Value).toArray below meth c (MQ below (zPost D A (rI0 N ad fun r g' => (-2147483648 ≤ r ∧ r ≤ 2147483647) ∧ okLike cs ad g' c0 ∧ ∀ j, j ≠ c0 + 1 → g' j = g j)) ([.ref (ad c0), .ref (ad a), .ref (ad a2)] : List Value).toArray s ({ frames := 2, cells := 0, slots := 0, locals := 120 } : Room).cells ({ frames := 2, cells := 0, slots := 0, locals := 120 } : Room).slots A) D A 9 (N) ad g1 (0) (0) 2 [(3, .int (zI (j))), (0, .ref (ad c0)), (1, .ref (ad a)), (2, .ref (ad a2))] [] := by
    intro n9
    induction n9 using Nat.strongRecOn with
    | ind n9 ih_lp1 =>
      intro j r9 g1 hm9 f1 f3 hw0
      have hay76 : zAt ad (c0) (ad c0) := rfl
      have hay77 : zAt ad (c0 + 1) (ad (c0 + 1)) := rfl
      have hay78 : zAt ad (a) (ad a) := rfl
      have hay79 : zAt ad (a + 1) (ad (a + 1)) := rfl
      have hay80 : zAt ad (a2) (ad a2) := rfl
      have hay81 : zAt ad (a2 + 1) (ad (a2 + 1)) := rfl
      refine z_iload_n C 0 dX1_fewestSteps_2 rfl ?_
      refine z_aload_n C 3 dX1_fewestSteps_3 rfl ?_
      refine z_get (v := .int (zI (sz2))) C (by omega) hay80 ((f3 _ (by omega)).trans ha2.1) rfl inA_X3 0 (by decide) q_155 rfl rfl dX1_fewestSteps_4 ?_
      refine z_icmp_gt (tgt := 23) C dX1_fewestSteps_7 (by decide) (by omega) (by omega) (fun hby82 => ?_) (fun hby82 => ?_)
      · refine z_iconst (z := 0) C dX1_fewestSteps_23 rfl ?_
        refine z_istore_n (lv' := [(3, .int (zI (0))), (0, .ref (ad c0)), (1, .ref (ad a)), (2, .ref (ad a2))]) C dX1_fewestSteps_24 rfl (by decide) rfl ?_
        refine z_lv (lv' := [(3, .int (zI (0))), (0, .ref (ad c0)), (1, .ref (ad a)), (2, .ref (ad a2))]) [0, 1, 2, 3] rfl ?_
        exact lp2 _ (0) _ g1 rfl f1 (fun j j1 => by exact f3 j j1) (by omega)
      · refine z_aload_n C 1 dX1_fewestSteps_10 rfl ?_
        refine z_get (v := .ref (ad (c0 + 1))) C (by omega) hay76 ((f3 _ (by omega)).trans hc.1) rfl inA_X1 0 (by decide) q_313 rfl rfl dX1_fewestSteps_11 ?_
        refine z_iload_n C 0 dX1_fewestSteps_14 rfl ?_
        refine z_iload_n C 0 dX1_fewestSteps_15 rfl ?_
        refine z_iast C (by omega) hay77 f1 ((j).toNat) (by omega) (by omega) (by decide) dX1_fewestSteps_16 (fun gy83 egy84 => ?_)
        have hgy85 := up_s egy84
        refine z_iinc (z := j + 1) (lv' := [(3, .int (zI (j + 1))), (0, .ref (ad c0)), (1, .ref (ad a)), (2, .ref (ad a2))]) (j := 0) C dX1_fewestSteps_17 rfl rfl (by decide) rfl ?_
        refine z_goto (tgt := 2) C dX1_fewestSteps_20 (by decide) ?_
        refine z_lv (lv' := [(3, .int (zI (j + 1))), (0, .ref (ad c0)), (1, .ref (ad a)), (2, .ref (ad a2))]) [0, 1, 2, 3] rfl ?_
        exact ih_lp1 _ (by omega) (j + 1) _ gy83 rfl hgy85 (fun j j1 => by rw [egy84, va_up_ne _ _ (by omega)]; exact f3 j j1) (by omega)
  refine z_iconst (z := 0) C dX1_fewestSteps_0 rfl ?_
  refine z_istore_n (lv' := [(3, .int (zI (0))), (0, .ref (ad c0)), (1, .ref (ad a)), (2, .ref (ad a2))]) C dX1_fewestSteps_1 rfl (by decide) rfl ?_
  refine z_lv (lv' := [(3, .int (zI (0))), (0, .ref (ad c0)), (1, .ref (ad a)), (2, .ref (ad a2))]) [0, 1, 2, 3] rfl ?_
  exact lp1 _ (0) _ g rfl hc.2 (fun j j1 => by rfl) (by omega)
end
section
-- 38.words.lean.txt
-- words of rec0
theorem q_1266 : (Jvm.Cond.methodLink "SnowRecorder" (424 : Nat) ({ cls := "java/lang/Math", name := "min", desc := "(II)I" } : Jvm.MethodName)) ∈ AW := AW_m6 66 (by decide +kernel) (by decide +kernel)
theorem q_1440 : (Jvm.Cond.constant "SnowRecorder" (466 : Nat) (1103515245 : Int32)) ∈ AW := AW_m7 0 (by decide +kernel) (by decide +kernel)
theorem q_158 : (Jvm.Cond.fieldLink "SnowRecorder" (193 : Nat) "SnowRecorder$Pack" "size" "I") ∈ AW := AW_m1 158 (by decide +kernel) (by decide +kernel)
theorem q_186 : (Jvm.Cond.fieldLink "SnowRecorder" (150 : Nat) "SnowRecorder$World" "pits" "I") ∈ AW := AW_m1 186 (by decide +kernel) (by decide +kernel)
theorem q_19 : (Jvm.Cond.initialized "java/lang/IllegalArgumentException") ∈ AW := AW_m1 19 (by decide +kernel) (by decide +kernel)
theorem q_191 : (Jvm.Cond.fieldLink "SnowRecorder" (280 : Nat) "SnowRecorder$World" "packs" "[LSnowRecorder$Pack;") ∈ AW := AW_m1 191 (by decide +kernel) (by decide +kernel)
theorem q_24 : (Jvm.Cond.initialized "java/util/NoSuchElementException") ∈ AW := AW_m1 24 (by decide +kernel) (by decide +kernel)
theorem q_258 : (Jvm.Cond.fieldLink "SnowRecorder" (112 : Nat) "SnowRecorder$State" "now" "LSnowRecorder$World;") ∈ AW := AW_m2 18 (by decide +kernel) (by decide +kernel)
theorem q_537 : (Jvm.Cond.methodLink "SnowRecorder" (268 : Nat) ({ cls := "SnowRecorder", name := "isSlope", desc := "(I)Z" } : Jvm.MethodName)) ∈ AW := AW_m3 57 (by decide +kernel) (by decide +kernel)
theorem q_539 : (Jvm.Cond.instanceMethod ({ cls := "SnowRecorder", name := "isSlope", desc := "(I)Z" } : Jvm.MethodName)) ∈ AW := AW_m3 59 (by decide +kernel) (by decide +kernel)
theorem q_540 : (Jvm.Cond.code ({ cls := "SnowRecorder", name := "isSlope", desc := "(I)Z" } : Jvm.MethodName) prog_1_method_37_code (2 : Nat) (Option.some Jvm.ClassFile.FieldType.boolean)) ∈ AW := AW_m3 60 (by decide +kernel) (by decide +kernel)
theorem q_658 : (Jvm.Cond.classLink "SnowRecorder" (86 : Nat) "java/lang/IllegalArgumentException") ∈ AW := AW_m3 178 (by decide +kernel) (by decide +kernel)
theorem q_90 : (Jvm.Cond.fieldLink "SnowRecorder" (115 : Nat) "SnowRecorder$Plan" "slopes" "I") ∈ AW := AW_m1 90 (by decide +kernel) (by decide +kernel)
theorem q_904 : (Jvm.Cond.classLink "SnowRecorder" (165 : Nat) "java/util/NoSuchElementException") ∈ AW := AW_m4 184 (by decide +kernel) (by decide +kernel)
theorem q_940 : (Jvm.Cond.methodLink "SnowRecorder" (300 : Nat) ({ cls := "SnowRecorder", name := "needSlope", desc := "(I)V" } : Jvm.MethodName)) ∈ AW := AW_m4 220 (by decide +kernel) (by decide +kernel)
theorem q_942 : (Jvm.Cond.instanceMethod ({ cls := "SnowRecorder", name := "needSlope", desc := "(I)V" } : Jvm.MethodName)) ∈ AW := AW_m4 222 (by decide +kernel) (by decide +kernel)
theorem q_943 : (Jvm.Cond.code ({ cls := "SnowRecorder", name := "needSlope", desc := "(I)V" } : Jvm.MethodName) prog_1_method_38_code (2 : Nat) (Option.none : Option Jvm.ClassFile.FieldType)) ∈ AW := AW_m4 223 (by decide +kernel) (by decide +kernel)
theorem s_24 : Cond.selects "SnowRecorder" ({ cls := "SnowRecorder", name := "needSlope", desc := "(I)V" } : Jvm.MethodName) ({ cls := "SnowRecorder", name := "needSlope", desc := "(I)V" } : Jvm.MethodName) ∈ AW := AW_m 24 (by decide +kernel) (by decide +kernel)
theorem s_5 : Cond.selects "SnowRecorder" ({ cls := "SnowRecorder", name := "isSlope", desc := "(I)Z" } : Jvm.MethodName) ({ cls := "SnowRecorder", name := "isSlope", desc := "(I)Z" } : Jvm.MethodName) ∈ AW := AW_m 5 (by decide +kernel) (by decide +kernel)
theorem hd_yX9_isSlope : yX9_isSlope.cls ≠ "java/lang/invoke/MethodHandle" ∧ yX9_isSlope.cls ≠ "java/lang/invoke/VarHandle" ∧ (parseMethodDescriptor yX9_isSlope.desc).map (fun d => d.parameters.length) = some 1 := by decide +kernel
theorem hd_yX9_needSlope : yX9_needSlope.cls ≠ "java/lang/invoke/MethodHandle" ∧ yX9_needSlope.cls ≠ "java/lang/invoke/VarHandle" ∧ (parseMethodDescriptor yX9_needSlope.desc).map (fun d => d.parameters.length) = some 1 := by decide +kernel
theorem mv_yX9_isSlope : zWv yX9_isSlope cX9_isSlope 2 (some .boolean) := ⟨q_539, s_5, q_1, q_540⟩
theorem mv_yX9_needSlope : zWv yX9_needSlope cX9_needSlope 2 none := ⟨q_942, s_24, q_1, q_943⟩
end
section
-- 39.dec.lean.txt
-- decode rows of rec0
theorem dX9_isSlope_0 : decode cX9_isSlope 0 = .ok (.iload_n 1, 1) := by decide +kernel
theorem dX9_isSlope_1 : decode cX9_isSlope 1 = .ok (.ifCond .lt 18, 3) := by decide +kernel
theorem dX9_isSlope_19 : decode cX9_isSlope 19 = .ok (.iconst 0, 1) := by decide +kernel
theorem dX9_isSlope_20 : decode cX9_isSlope 20 = .ok (.ireturn, 1) := by decide +kernel
theorem dX9_isSlope_4 : decode cX9_isSlope 4 = .ok (.iload_n 1, 1) := by decide +kernel
theorem dX9_isSlope_5 : decode cX9_isSlope 5 = .ok (.aload_n 0, 1) := by decide +kernel
theorem dX9_isSlope_6 : decode cX9_isSlope 6 = .ok (.getfield 30, 3) := by decide +kernel
theorem dX9_isSlope_9 : decode cX9_isSlope 9 = .ok (.getfield 115, 3) := by decide +kernel
theorem dX9_isSlope_12 : decode cX9_isSlope 12 = .ok (.if_icmp .ge 7, 3) := by decide +kernel
theorem dX9_isSlope_15 : decode cX9_isSlope 15 = .ok (.iconst 1, 1) := by decide +kernel
theorem dX9_isSlope_16 : decode cX9_isSlope 16 = .ok (.goto 4, 3) := by decide +kernel
theorem dX9_needSlope_0 : decode cX9_needSlope 0 = .ok (.aload_n 0, 1) := by decide +kernel
theorem dX9_needSlope_1 : decode cX9_needSlope 1 = .ok (.iload_n 1, 1) := by decide +kernel
theorem dX9_needSlope_2 : decode cX9_needSlope 2 = .ok (.invokevirtual 268, 3) := by decide +kernel
theorem dX9_needSlope_5 : decode cX9_needSlope 5 = .ok (.ifCond .ne 14, 3) := by decide +kernel
theorem dX9_needSlope_19 : decode cX9_needSlope 19 = .ok (.return_, 1) := by decide +kernel
theorem dX9_needSlope_8 : decode cX9_needSlope 8 = .ok (.new 165, 3) := by decide +kernel
theorem dX9_needSlope_11 : decode cX9_needSlope 11 = .ok (.dup, 1) := by decide +kernel
theorem dX9_needSlope_12 : decode cX9_needSlope 12 = .ok (.ldc_w 414, 3) := by decide +kernel
theorem dX9_needSlope_15 : decode cX9_needSlope 15 = .ok (.invokespecial 169, 3) := by decide +kernel
theorem dX9_needSlope_18 : decode cX9_needSlope 18 = .ok (.athrow, 1) := by decide +kernel
theorem dX9_packOf_0 : decode cX9_packOf 0 = .ok (.aload_n 0, 1) := by decide +kernel
theorem dX9_packOf_1 : decode cX9_packOf 1 = .ok (.iload_n 1, 1) := by decide +kernel
theorem dX9_packOf_2 : decode cX9_packOf 2 = .ok (.invokevirtual 300, 3) := by decide +kernel
theorem dX9_packOf_5 : decode cX9_packOf 5 = .ok (.aload_n 0, 1) := by decide +kernel
theorem dX9_packOf_6 : decode cX9_packOf 6 = .ok (.getfield 37, 3) := by decide +kernel
theorem dX9_packOf_9 : decode cX9_packOf 9 = .ok (.getfield 112, 3) := by decide +kernel
theorem dX9_packOf_12 : decode cX9_packOf 12 = .ok (.getfield 280, 3) := by decide +kernel
theorem dX9_packOf_15 : decode cX9_packOf 15 = .ok (.iload_n 1, 1) := by decide +kernel
theorem dX9_packOf_16 : decode cX9_packOf 16 = .ok (.aaload, 1) := by decide +kernel
theorem dX9_packOf_17 : decode cX9_packOf 17 = .ok (.areturn, 1) := by decide +kernel
theorem dX9_needLayer_0 : decode cX9_needLayer 0 = .ok (.iload_n 2, 1) := by decide +kernel
theorem dX9_needLayer_1 : decode cX9_needLayer 1 = .ok (.ifCond .lt 11, 3) := by decide +kernel
theorem dX9_needLayer_12 : decode cX9_needLayer 12 = .ok (.new 165, 3) := by decide +kernel
theorem dX9_needLayer_15 : decode cX9_needLayer 15 = .ok (.dup, 1) := by decide +kernel
theorem dX9_needLayer_16 : decode cX9_needLayer 16 = .ok (.ldc_w 416, 3) := by decide +kernel
theorem dX9_needLayer_19 : decode cX9_needLayer 19 = .ok (.invokespecial 169, 3) := by decide +kernel
theorem dX9_needLayer_22 : decode cX9_needLayer 22 = .ok (.athrow, 1) := by decide +kernel
theorem dX9_needLayer_4 : decode cX9_needLayer 4 = .ok (.iload_n 2, 1) := by decide +kernel
theorem dX9_needLayer_5 : decode cX9_needLayer 5 = .ok (.aload_n 1, 1) := by decide +kernel
theorem dX9_needLayer_6 : decode cX9_needLayer 6 = .ok (.getfield 193, 3) := by decide +kernel
theorem dX9_needLayer_9 : decode cX9_needLayer 9 = .ok (.if_icmp .lt 14, 3) := by decide +kernel
theorem dX9_needLayer_23 : decode cX9_needLayer 23 = .ok (.return_, 1) := by decide +kernel
theorem dX9_needPit_0 : decode cX9_needPit 0 = .ok (.iload_n 1, 1) := by decide +kernel
theorem dX9_needPit_1 : decode cX9_needPit 1 = .ok (.ifCond .lt 17, 3) := by decide +kernel
theorem dX9_needPit_18 : decode cX9_needPit 18 = .ok (.new 165, 3) := by decide +kernel
theorem dX9_needPit_21 : decode cX9_needPit 21 = .ok (.dup, 1) := by decide +kernel
theorem dX9_needPit_22 : decode cX9_needPit 22 = .ok (.ldc_w 418, 3) := by decide +kernel
theorem dX9_needPit_25 : decode cX9_needPit 25 = .ok (.invokespecial 169, 3) := by decide +kernel
theorem dX9_needPit_28 : decode cX9_needPit 28 = .ok (.athrow, 1) := by decide +kernel
theorem dX9_needPit_4 : decode cX9_needPit 4 = .ok (.iload_n 1, 1) := by decide +kernel
theorem dX9_needPit_5 : decode cX9_needPit 5 = .ok (.aload_n 0, 1) := by decide +kernel
theorem dX9_needPit_6 : decode cX9_needPit 6 = .ok (.getfield 37, 3) := by decide +kernel
theorem dX9_needPit_9 : decode cX9_needPit 9 = .ok (.getfield 112, 3) := by decide +kernel
theorem dX9_needPit_12 : decode cX9_needPit 12 = .ok (.getfield 150, 3) := by decide +kernel
theorem dX9_needPit_15 : decode cX9_needPit 15 = .ok (.if_icmp .lt 14, 3) := by decide +kernel
theorem dX9_needPit_29 : decode cX9_needPit 29 = .ok (.return_, 1) := by decide +kernel
theorem dX9_needWhat_0 : decode cX9_needWhat 0 = .ok (.iload_n 0, 1) := by decide +kernel
theorem dX9_needWhat_1 : decode cX9_needWhat 1 = .ok (.ifCond .lt 8, 3) := by decide +kernel
theorem dX9_needWhat_9 : decode cX9_needWhat 9 = .ok (.new 165, 3) := by decide +kernel
theorem dX9_needWhat_12 : decode cX9_needWhat 12 = .ok (.dup, 1) := by decide +kernel
theorem dX9_needWhat_13 : decode cX9_needWhat 13 = .ok (.ldc_w 420, 3) := by decide +kernel
theorem dX9_needWhat_16 : decode cX9_needWhat 16 = .ok (.invokespecial 169, 3) := by decide +kernel
theorem dX9_needWhat_19 : decode cX9_needWhat 19 = .ok (.athrow, 1) := by decide +kernel
theorem dX9_needWhat_4 : decode cX9_needWhat 4 = .ok (.iload_n 0, 1) := by decide +kernel
theorem dX9_needWhat_5 : decode cX9_needWhat 5 = .ok (.iload_n 1, 1) := by decide +kernel
theorem dX9_needWhat_6 : decode cX9_needWhat 6 = .ok (.if_icmp .le 14, 3) := by decide +kernel
theorem dX9_needWhat_20 : decode cX9_needWhat 20 = .ok (.return_, 1) := by decide +kernel
theorem dX9_needHours_0 : decode cX9_needHours 0 = .ok (.iload_n 0, 1) := by decide +kernel
theorem dX9_needHours_1 : decode cX9_needHours 1 = .ok (.iload_n 1, 1) := by decide +kernel
theorem dX9_needHours_2 : decode cX9_needHours 2 = .ok (.if_icmp .lt 8, 3) := by decide +kernel
theorem dX9_needHours_10 : decode cX9_needHours 10 = .ok (.new 86, 3) := by decide +kernel
theorem dX9_needHours_13 : decode cX9_needHours 13 = .ok (.dup, 1) := by decide +kernel
theorem dX9_needHours_14 : decode cX9_needHours 14 = .ok (.ldc_w 422, 3) := by decide +kernel
theorem dX9_needHours_17 : decode cX9_needHours 17 = .ok (.invokespecial 90, 3) := by decide +kernel
theorem dX9_needHours_20 : decode cX9_needHours 20 = .ok (.athrow, 1) := by decide +kernel
theorem dX9_needHours_5 : decode cX9_needHours 5 = .ok (.iload_n 0, 1) := by decide +kernel
theorem dX9_needHours_6 : decode cX9_needHours 6 = .ok (.iload_n 2, 1) := by decide +kernel
theorem dX9_needHours_7 : decode cX9_needHours 7 = .ok (.if_icmp .le 14, 3) := by decide +kernel
theorem dX9_needHours_21 : decode cX9_needHours 21 = .ok (.return_, 1) := by decide +kernel
theorem dX9_extraOf_0 : decode cX9_extraOf 0 = .ok (.iload_n 0, 1) := by decide +kernel
theorem dX9_extraOf_1 : decode cX9_extraOf 1 = .ok (.bipush 10, 2) := by decide +kernel
theorem dX9_extraOf_3 : decode cX9_extraOf 3 = .ok (.invokestatic 424, 3) := by decide +kernel
theorem dX9_extraOf_6 : decode cX9_extraOf 6 = .ok (.istore_n 1, 1) := by decide +kernel
theorem dX9_extraOf_7 : decode cX9_extraOf 7 = .ok (.iload_n 0, 1) := by decide +kernel
theorem dX9_extraOf_8 : decode cX9_extraOf 8 = .ok (.iload_n 1, 1) := by decide +kernel
theorem dX9_extraOf_9 : decode cX9_extraOf 9 = .ok (.isub, 1) := by decide +kernel
theorem dX9_extraOf_10 : decode cX9_extraOf 10 = .ok (.bipush 10, 2) := by decide +kernel
theorem dX9_extraOf_12 : decode cX9_extraOf 12 = .ok (.invokestatic 424, 3) := by decide +kernel
theorem dX9_extraOf_15 : decode cX9_extraOf 15 = .ok (.istore_n 2, 1) := by decide +kernel
theorem dX9_extraOf_16 : decode cX9_extraOf 16 = .ok (.iload_n 0, 1) := by decide +kernel
theorem dX9_extraOf_17 : decode cX9_extraOf 17 = .ok (.iload_n 1, 1) := by decide +kernel
theorem dX9_extraOf_18 : decode cX9_extraOf 18 = .ok (.isub, 1) := by decide +kernel
theorem dX9_extraOf_19 : decode cX9_extraOf 19 = .ok (.iload_n 2, 1) := by decide +kernel
theorem dX9_extraOf_20 : decode cX9_extraOf 20 = .ok (.isub, 1) := by decide +kernel
theorem dX9_extraOf_21 : decode cX9_extraOf 21 = .ok (.istore_n 3, 1) := by decide +kernel
theorem dX9_extraOf_22 : decode cX9_extraOf 22 = .ok (.iload_n 1, 1) := by decide +kernel
theorem dX9_extraOf_23 : decode cX9_extraOf 23 = .ok (.iconst 2, 1) := by decide +kernel
theorem dX9_extraOf_24 : decode cX9_extraOf 24 = .ok (.iload_n 2, 1) := by decide +kernel
theorem dX9_extraOf_25 : decode cX9_extraOf 25 = .ok (.imul, 1) := by decide +kernel
theorem dX9_extraOf_26 : decode cX9_extraOf 26 = .ok (.iadd, 1) := by decide +kernel
theorem dX9_extraOf_27 : decode cX9_extraOf 27 = .ok (.iconst 4, 1) := by decide +kernel
theorem dX9_extraOf_28 : decode cX9_extraOf 28 = .ok (.iload_n 3, 1) := by decide +kernel
theorem dX9_extraOf_29 : decode cX9_extraOf 29 = .ok (.imul, 1) := by decide +kernel
theorem dX9_extraOf_30 : decode cX9_extraOf 30 = .ok (.iadd, 1) := by decide +kernel
theorem dX9_extraOf_31 : decode cX9_extraOf 31 = .ok (.ireturn, 1) := by decide +kernel
theorem dX9_nextSeed_0 : decode cX9_nextSeed 0 = .ok (.iload_n 0, 1) := by decide +kernel
theorem dX9_nextSeed_1 : decode cX9_nextSeed 1 = .ok (.ldc_w 466, 3) := by decide +kernel
theorem dX9_nextSeed_4 : decode cX9_nextSeed 4 = .ok (.imul, 1) := by decide +kernel
theorem dX9_nextSeed_5 : decode cX9_nextSeed 5 = .ok (.sipush 12345, 3) := by decide +kernel
theorem dX9_nextSeed_8 : decode cX9_nextSeed 8 = .ok (.iadd, 1) := by decide +kernel
theorem dX9_nextSeed_9 : decode cX9_nextSeed 9 = .ok (.ireturn, 1) := by decide +kernel
end
section
-- 40.rec0.lean.txt
theorem okState.now2 {cs : Nat → ClassId} {ad : Nat → Nat} {g g' : Nat → va_E} {i : Nat} {ac nz : Int} (h : okState cs ad g i ac nz) (hG : ∀ j, i ≤ j → j < i + 436 → (j < i + 1 ∨ i + 11 ≤ j) → g' j = g j) (hw : okWorld cs ad g' (i + 1)) : okState cs ad g' i ac nz := by
  obtain ⟨h1, h2, h3, ⟨b, f, h4, h5⟩, h6, ⟨b2, h7, h8⟩, h9, h10, r, h11⟩ := h
  exact ⟨by rw [hG _ (by omega) (by omega) (by omega)]; exact h1, h2, hw, ⟨b, f, by rw [hG _ (by omega) (by omega) (by omega)]; exact h4, h5⟩, fun k hk => (h6 k hk).mv (fun j _ _ => hG j (by omega) (by omega) (by omega)), ⟨b2, by rw [hG _ (by omega) (by omega) (by omega)]; exact h7, h8⟩, fun k hk => (h9 k hk).mv (fun _ _ _ => rfl) (fun j _ _ => hG j (by omega) (by omega) (by omega)), h10.mv (fun _ _ _ => rfl) (fun j _ _ => hG j (by omega) (by omega) (by omega)), r, by rw [hG _ (by omega) (by omega) (by omega)]; exact h11⟩
abbrev okRdr (ad : Nat → Nat) (g : Nat → va_E) (i : Nat) : Prop := ∃ (x0 x1 x3 x4 x5 x6 x7 x8 : Int) (tx : Nat), g i = oC 9 [.int (zI x0), .int (zI x1), .ref tx, .int (zI x3), .int (zI x4), .int (zI x5), .int (zI x6), .int (zI x7), .int (zI x8)]
theorem okRdr.mv {ad ad' : Nat → Nat} {g g' : Nat → va_E} {i : Nat} (hA : ∀ j, i ≤ j → j < i + 1 → ad' j = ad j) (hG : ∀ j, i ≤ j → j < i + 1 → g' j = g j) (h : okRdr ad g i) : okRdr ad' g' i := by
  obtain ⟨x0, x1, x3, x4, x5, x6, x7, x8, tx, h⟩ := h
  exact ⟨x0, x1, x3, x4, x5, x6, x7, x8, tx, by rw [hG _ (by omega) (by omega)]; exact h⟩
abbrev okPlan (cs : Nat → ClassId) (ad : Nat → Nat) (g : Nat → va_E) (i : Nat) : Prop := ∃ (sl ho ua : Int) (st op ai fa mu tb : Nat → Int), (0 ≤ sl ∧ sl ≤ 4) ∧ (0 ≤ ho ∧ ho ≤ 24) ∧ isPlan cs ad g i sl ho ua st op ai fa mu tb
theorem okPlan.mv {cs : Nat → ClassId} {ad ad' : Nat → Nat} {g g' : Nat → va_E} {i : Nat} (hA : ∀ j, i ≤ j → j < i + 7 → ad' j = ad j) (hG : ∀ j, i ≤ j → j < i + 7 → g' j = g j) (h : okPlan cs ad g i) : okPlan cs ad' g' i := by
  obtain ⟨sl, ho, ua, st, op, ai, fa, mu, tb, h1, h2, h3⟩ := h
  exact ⟨sl, ho, ua, st, op, ai, fa, mu, tb, h1, h2, h3.mv hA hG⟩
/-- the builder: its bytes lie at the role that was made with it, or at one that came later -/
abbrev okBld (cs : Nat → ClassId) (ad : Nat → Nat) (g : Nat → va_E) (N : Nat) : Prop := ∃ (v cap : Nat) (ml cn : Int) (by' : Nat → Int), (v = 920 ∨ 952 ≤ v) ∧ v < N ∧ cap ≤ 1000 ∧ (0 ≤ cn ∧ cn ≤ (cap : Int)) ∧ ((0 ≤ ml ∧ ml ≤ 1) ∧ ∀ j, -128 ≤ by' j ∧ by' j ≤ 127) ∧ g 919 = oC 1 [.ref (ad v), .int (zI 0), .int (zI ml), .int (zI cn)] ∧ g v = bA cs cap by'
theorem okBld.mv {cs : Nat → ClassId} {ad ad' : Nat → Nat} {g g' : Nat → va_E} {N : Nat} (hA : ∀ j, 919 ≤ j → (j < 921 ∨ (952 ≤ j ∧ j < N)) → ad' j = ad j) (hG : ∀ j, 919 ≤ j → (j < 921 ∨ (952 ≤ j ∧ j < N)) → g' j = g j) (h : okBld cs ad g N) : okBld cs ad' g' N := by
  obtain ⟨v, cap, ml, cn, b, h1, h2, h3, h4, h5, h6, h7⟩ := h
  exact ⟨v, cap, ml, cn, b, h1, h2, h3, h4, h5, by rw [hG _ (by omega) (by omega), hA v (by omega) (by omega)]; exact h6, by rw [hG _ (by omega) (by omega)]; exact h7⟩
abbrev rcC (ad : Nat → Nat) (t fp im : Int) : va_E := oC 11 [.ref (ad 1), .int (zI t), .int (zI fp), .ref (ad 2), .ref (ad 4), .ref (ad 11), .ref (ad 447), .int (zI im), .ref (ad 883), .ref (ad 890), .ref (ad 900), .ref (ad 910), .ref (ad 917), .ref (ad 919)]
/-- the recorder at role 0: tape size t, fault place fp, imaged im, notes nz (kept kz), the plan -/
def okRec (cs : Nat → ClassId) (ad : Nat → Nat) (g : Nat → va_E) (N : Nat) (t fp im nz kz sl ho ua : Int) (st op ai fa mu tb tp : Nat → Int) : Prop :=
  g 0 = rcC ad t fp im ∧ (0 ≤ t ∧ t ≤ 900) ∧ (0 ≤ im ∧ im ≤ 1) ∧ g 1 = bA cs 900 tp ∧ okRdr ad g 2 ∧ isPlan cs ad g 4 sl ho ua st op ai fa mu tb ∧ (0 ≤ sl ∧ sl ≤ 4) ∧ (0 ≤ ho ∧ ho ≤ 24) ∧ (∃ ac : Int, okState cs ad g 11 ac nz) ∧ (∃ ac : Int, okState cs ad g 447 ac kz) ∧ okPlan cs ad g 883 ∧ okWorld cs ad g 890 ∧ okWorld cs ad g 900 ∧ okGss cs ad g 910 ∧ okLike cs ad g 917 ∧ okBld cs ad g N

abbrev oX (g g' : Nat → va_E) : Prop := ∀ j, 921 ≤ j → j < 952 → g' j = g j

set_option maxRecDepth 100000 in
set_option maxHeartbeats 4000000 in
theorem c_X9_isSlope (l : Launch) (D : va_G) (A : Nat → Prop) (cs : Nat → ClassId) (tt : Nat) (N : Nat) (ad : Nat → Nat) (g : Nat → va_E) (hN : 952 ≤ N) (t fp im nz kz sl ho ua : Int) (st op ai fa mu tb tp : Nat → Int) (hR : okRec cs ad g N t fp im nz kz sl ho ua st op ai fa mu tb tp) (z : Int) (hz : -2147483648 ≤ z ∧ z ≤ 2147483647) : zM l yX9_isSlope cX9_isSlope 2 (some .boolean) ({ frames := 1, cells := 0, slots := 0, locals := 60 } : Room) D A cs tt N ad g [.ref (ad 0), .int (zI (z))] (rI0 N ad fun r g' => (r = (if 0 ≤ z ∧ z < sl then 1 else 0)) ∧ g = g') := by
  obtain ⟨ary1, bry1, cry1, dry1, ery1, fry1, gry11, hry1, ⟨acry1, iry1⟩, ⟨kcry1, jry1⟩, kry1, lry1, mry1, nry1, ory1, pry1⟩ := id hR
  have hay2 : zAt ad (0) (ad 0) := rfl
  have hay3 : zAt ad (1) (ad 1) := rfl
  have hay4 : zAt ad (2) (ad 2) := rfl
  have hay5 : zAt ad (4) (ad 4) := rfl
  have hay6 : zAt ad (11) (ad 11) := rfl
  have hay7 : zAt ad (447) (ad 447) := rfl
  have hay8 : zAt ad (883) (ad 883) := rfl
  have hay9 : zAt ad (890) (ad 890) := rfl
  have hay10 : zAt ad (900) (ad 900) := rfl
  have hay11 : zAt ad (910) (ad 910) := rfl
  have hay12 : zAt ad (917) (ad 917) := rfl
  have hay13 : zAt ad (919) (ad 919) := rfl
  have hay14 : zAt ad (4 + 1) (ad (4 + 1)) := rfl
  have hay15 : zAt ad (4 + 2) (ad (4 + 2)) := rfl
  have hay16 : zAt ad (4 + 3) (ad (4 + 3)) := rfl
  have hay17 : zAt ad (4 + 4) (ad (4 + 4)) := rfl
  have hay18 : zAt ad (4 + 5) (ad (4 + 5)) := rfl
  have hay19 : zAt ad (4 + 6) (ad (4 + 6)) := rfl
  obtain ⟨thcy20, zhcy20, ohcy20, rhcy20, hzhcy20, hthcy20, hwhcy20⟩ := id lry1
  obtain ⟨thcy21, zhcy21, ohcy21, rhcy21, hzhcy21, hthcy21, hwhcy21⟩ := id mry1
  refine z_of (by decide) (Nat.le_of_ble_eq_true rfl) ?_
  intro p e s m below meth c C hr hlk hnm
  refine z_lv (lv' := [(0, .ref (ad 0)), (1, .int (zI (z)))]) [0, 1] rfl ?_
  refine z_iload_n C 1 dX9_isSlope_0 rfl ?_
  refine z_if_lt (tgt := 19) C dX9_isSlope_1 (by decide) (by omega) (fun hby22 => ?_) (fun hby22 => ?_)
  · refine z_iconst (z := 0) C dX9_isSlope_19 rfl ?_
    exact z_zret C hr hlk dX9_isSlope_20 (by decide) (by decide) (by decide) ⟨0, rfl, rfl, rfl, by rw [if_neg (by omega)], rfl⟩
  · refine z_iload_n C 1 dX9_isSlope_4 rfl ?_
    refine z_aload_n C 0 dX9_isSlope_5 rfl ?_
    refine z_get (v := .ref (ad 4)) C (lt_K hN (rfl : Nat.blt (0) 952 = true)) hay2 ary1 rfl inA_X9 4 (by decide) q_353 rfl rfl dX9_isSlope_6 ?_
    refine z_get (v := .int (zI (sl))) C (lt_K hN (rfl : Nat.blt (4) 952 = true)) hay5 fry1.1 rfl inA_X5 0 (by decide) q_90 rfl rfl dX9_isSlope_9 ?_
    refine z_icmp_ge (tgt := 19) C dX9_isSlope_12 (by decide) (by omega) (by omega) (fun hby23 => ?_) (fun hby23 => ?_)
    · refine z_iconst (z := 0) C dX9_isSlope_19 rfl ?_
      exact z_zret C hr hlk dX9_isSlope_20 (by decide) (by decide) (by decide) ⟨0, rfl, rfl, rfl, by rw [if_neg (by omega)], rfl⟩
    · refine z_iconst (z := 1) C dX9_isSlope_15 rfl ?_
      refine z_goto (tgt := 20) C dX9_isSlope_16 (by decide) ?_
      exact z_zret C hr hlk dX9_isSlope_20 (by decide) (by decide) (by decide) ⟨1, rfl, rfl, rfl, by rw [if_pos (by omega)], rfl⟩

set_option maxRecDepth 100000 in
set_option maxHeartbeats 4000000 in
theorem c_X9_needSlope (l : Launch) (D : va_G) (A : Nat → Prop) (cs : Nat → ClassId) (tt : Nat) (N : Nat) (ad : Nat → Nat) (g : Nat → va_E) (hN : 952 ≤ N) (t fp im nz kz sl ho ua : Int) (st op ai fa mu tb tp : Nat → Int) (hR : okRec cs ad g N t fp im nz kz sl ho ua st op ai fa mu tb tp) (hl0 : l.stackTraces = false) (z : Int) (hz : -2147483648 ≤ z ∧ z ≤ 2147483647) : zMX l yX9_needSlope cX9_needSlope 2 none ({ frames := 6, cells := 1, slots := 6, locals := 360 } : Room) D A cs tt N ad g [.ref (ad 0), .int (zI (z))] (rV0 N ad fun g' => (0 ≤ z ∧ z < sl) ∧ g = g') (fun E N' ad' g' => E = eNS ∧ N' = N ∧ ad' = ad ∧ g' = g) := by
  obtain ⟨ary1, bry1, cry1, dry1, ery1, fry1, gry11, hry1, ⟨acry1, iry1⟩, ⟨kcry1, jry1⟩, kry1, lry1, mry1, nry1, ory1, pry1⟩ := id hR
  have hay2 : zAt ad (0) (ad 0) := rfl
  have hay3 : zAt ad (1) (ad 1) := rfl
  have hay4 : zAt ad (2) (ad 2) := rfl
  have hay5 : zAt ad (4) (ad 4) := rfl
  have hay6 : zAt ad (11) (ad 11) := rfl
  have hay7 : zAt ad (447) (ad 447) := rfl
  have hay8 : zAt ad (883) (ad 883) := rfl
  have hay9 : zAt ad (890) (ad 890) := rfl
  have hay10 : zAt ad (900) (ad 900) := rfl
  have hay11 : zAt ad (910) (ad 910) := rfl
  have hay12 : zAt ad (917) (ad 917) := rfl
  have hay13 : zAt ad (919) (ad 919) := rfl
  have hay14 : zAt ad (4 + 1) (ad (4 + 1)) := rfl
  have hay15 : zAt ad (4 + 2) (ad (4 + 2)) := rfl
  have hay16 : zAt ad (4 + 3) (ad (4 + 3)) := rfl
  have hay17 : zAt ad (4 + 4) (ad (4 + 4)) := rfl
  have hay18 : zAt ad (4 + 5) (ad (4 + 5)) := rfl
  have hay19 : zAt ad (4 + 6) (ad (4 + 6)) := rfl
  obtain ⟨thcy20, zhcy20, ohcy20, rhcy20, hzhcy20, hthcy20, hwhcy20⟩ := id lry1
  obtain ⟨thcy21, zhcy21, ohcy21, rhcy21, hzhcy21, hthcy21, hwhcy21⟩ := id mry1
  refine z_ofX (by decide) (Nat.le_of_ble_eq_true rfl) ?_
  intro p e s m below meth c C hr hlk hxt
  refine z_lv (lv' := [(0, .ref (ad 0)), (1, .int (zI (z)))]) [0, 1] rfl ?_
  refine z_aload_n C 0 dX9_needSlope_0 rfl ?_
  refine z_iload_n C 1 dX9_needSlope_1 rfl ?_
  have hrecy23 : okRec cs ad g N (t) (fp) (im) (nz) (kz) (sl) (ho) (ua) (st) (op) (ai) (fa) (mu) (tb) (tp) := ⟨ary1, bry1, cry1, dry1, ery1, fry1, gry11, hry1, ⟨_, iry1⟩, ⟨_, jry1⟩, kry1, lry1, mry1, nry1, ory1, pry1⟩
  refine z_cV (As := [.int (zI (z))]) (rest := []) (ci := 11) C (c_X9_isSlope l D A cs tt N ad _ hN _ _ _ _ _ _ _ _ _ _ _ _ _ _ _ hrecy23 (z) (by omega)) (lt_K hN (rfl : Nat.blt (0) 952 = true)) hay2 ary1 rfl rfl mv_yX9_isSlope q_537 hd_yX9_isSlope (by decide) (Nat.le_of_ble_eq_true rfl) (by decide) dX9_needSlope_2 rfl (kI0 fun vy22 gvy22 hvy22 => ?_)
  obtain ⟨hvy22, rfl⟩ := hvy22
  have hbvy22 : (vy22 = 1 ∧ 0 ≤ z ∧ z < sl) ∨ (vy22 = 0 ∧ ¬ (0 ≤ z ∧ z < sl)) := by rw [hvy22]; by_cases e9 : 0 ≤ z ∧ z < sl; (rw [if_pos e9]; exact Or.inl ⟨rfl, e9⟩); (rw [if_neg e9]; exact Or.inr ⟨rfl, e9⟩)
  refine z_if_ne (tgt := 19) C dX9_needSlope_5 (by decide) (by omega) (fun hby24 => ?_) (fun hby24 => ?_)
  · exact z_rX (z_vret C hr hlk dX9_needSlope_19 (by decide) (by decide) ⟨rfl, rfl, rfl, by omega, rfl⟩)
  · exact z_thrNW (cls := eNS) (text := "no such slope") C hl0 (ix := 13) (rx := nsB) ns0 ns1 ns2 ns5 (by decide +kernel) q_904 q_24 (by decide +kernel) at_NS gd_NS dX9_needSlope_8 dX9_needSlope_11 dX9_needSlope_12 dX9_needSlope_15 dX9_needSlope_18 hxt (by decide) (Nat.le_of_ble_eq_true rfl) (by decide) (by decide) hlk (by decide) (by decide) ⟨rfl, rfl, rfl, rfl⟩

set_option maxRecDepth 100000 in
set_option maxHeartbeats 4000000 in
theorem c_X9_packOf (l : Launch) (D : va_G) (A : Nat → Prop) (cs : Nat → ClassId) (tt : Nat) (N : Nat) (ad : Nat → Nat) (g : Nat → va_E) (hN : 952 ≤ N) (t fp im nz kz sl ho ua : Int) (st op ai fa mu tb tp : Nat → Int) (hR : okRec cs ad g N t fp im nz kz sl ho ua st op ai fa mu tb tp) (hl0 : l.stackTraces = false) (z : Int) (hz : -2147483648 ≤ z ∧ z ≤ 2147483647) : zMX l yX9_packOf cX9_packOf 2 (some (.object "SnowRecorder$Pack")) ({ frames := 7, cells := 1, slots := 6, locals := 420 } : Room) D A cs tt N ad g [.ref (ad 0), .int (zI (z))] (rR0 N ad fun a g' => (0 ≤ z ∧ z < sl) ∧ a = ad (11 + 1 + 2 + 2 * (z).toNat) ∧ g = g') (fun E N' ad' g' => E = eNS ∧ N' = N ∧ ad' = ad ∧ g' = g) := by
  obtain ⟨ary1, bry1, cry1, dry1, ery1, fry1, gry11, hry1, ⟨acry1, iry1⟩, ⟨kcry1, jry1⟩, kry1, lry1, mry1, nry1, ory1, pry1⟩ := id hR
  have hay2 : zAt ad (0) (ad 0) := rfl
  have hay3 : zAt ad (1) (ad 1) := rfl
  have hay4 : zAt ad (2) (ad 2) := rfl
  have hay5 : zAt ad (4) (ad 4) := rfl
  have hay6 : zAt ad (11) (ad 11) := rfl
  have hay7 : zAt ad (447) (ad 447) := rfl
  have hay8 : zAt ad (883) (ad 883) := rfl
  have hay9 : zAt ad (890) (ad 890) := rfl
  have hay10 : zAt ad (900) (ad 900) := rfl
  have hay11 : zAt ad (910) (ad 910) := rfl
  have hay12 : zAt ad (917) (ad 917) := rfl
  have hay13 : zAt ad (919) (ad 919) := rfl
  have hay14 : zAt ad (4 + 1) (ad (4 + 1)) := rfl
  have hay15 : zAt ad (4 + 2) (ad (4 + 2)) := rfl
  have hay16 : zAt ad (4 + 3) (ad (4 + 3)) := rfl
  have hay17 : zAt ad (4 + 4) (ad (4 + 4)) := rfl
  have hay18 : zAt ad (4 + 5) (ad (4 + 5)) := rfl
  have hay19 : zAt ad (4 + 6) (ad (4 + 6)) := rfl
  obtain ⟨thcy20, zhcy20, ohcy20, rhcy20, hzhcy20, hthcy20, hwhcy20⟩ := id lry1
  obtain ⟨thcy21, zhcy21, ohcy21, rhcy21, hzhcy21, hthcy21, hwhcy21⟩ := id mry1
  obtain ⟨asy22, bsy22, csy22, dsy22, esy22, ⟨ptsy22, fsy22, gsy221⟩, hsy22, ⟨nusy22, nvsy22, nwsy22, isy22, jsy22, ksy22, lsy22, msy22, nsy22⟩, rfsy22, osy22⟩ := id iry1
  have hay23 : zAt ad (11 + 1) (ad (11 + 1)) := rfl
  have hay24 : zAt ad (11 + 11) (ad (11 + 11)) := rfl
  have hay25 : zAt ad (11 + 12) (ad (11 + 12)) := rfl
  have hay26 : zAt ad (11 + 13) (ad (11 + 13)) := rfl
  have hay27 : zAt ad (11 + 13 + 1) (ad (11 + 13 + 1)) := rfl
  have hay28 : zAt ad (11 + 13 + 2) (ad (11 + 13 + 2)) := rfl
  have hay29 : zAt ad (11 + 13 + 3) (ad (11 + 13 + 3)) := rfl
  have hay30 : zAt ad (11 + 17) (ad (11 + 17)) := rfl
  obtain ⟨uy31t, uy31z, uy31o, uy31r, uy31z4, uy31t5, uy311, ⟨uy31u, uy312, uy313⟩, uy314⟩ := id csy22
  have hay32 : zAt ad (11 + 1) (ad (11 + 1)) := rfl
  have hay33 : zAt ad (11 + 1 + 1) (ad (11 + 1 + 1)) := rfl
  refine z_ofX (by decide) (Nat.le_of_ble_eq_true rfl) ?_
  intro p e s m below meth c C hr hlk hxt
  refine z_lv (lv' := [(0, .ref (ad 0)), (1, .int (zI (z)))]) [0, 1] rfl ?_
  refine z_aload_n C 0 dX9_packOf_0 rfl ?_
  refine z_iload_n C 1 dX9_packOf_1 rfl ?_
  have hrecy35 : okRec cs ad g N (t) (fp) (im) (nz) (kz) (sl) (ho) (ua) (st) (op) (ai) (fa) (mu) (tb) (tp) := ⟨ary1, bry1, cry1, dry1, ery1, fry1, gry11, hry1, ⟨_, iry1⟩, ⟨_, jry1⟩, kry1, lry1, mry1, nry1, ory1, pry1⟩
  refine z_cVX (As := [.int (zI (z))]) (rest := []) (ci := 11) C (c_X9_needSlope l D A cs tt N ad _ hN _ _ _ _ _ _ _ _ _ _ _ _ _ _ _ hrecy35 hl0 (z) (by omega)) (lt_K hN (rfl : Nat.blt (0) 952 = true)) hay2 ary1 rfl rfl mv_yX9_needSlope q_940 hd_yX9_needSlope (by decide) (Nat.le_of_ble_eq_true rfl) (by decide) dX9_packOf_2 rfl (fun E N' ad' g' h => by obtain ⟨rfl, rfl, rfl, rfl⟩ := h; exact z_uout C hxt hlk (by decide) (by decide) ⟨rfl, rfl, rfl, rfl⟩) (kV0 fun gvy34 hvy34 => ?_)
  obtain ⟨hvy34, rfl⟩ := hvy34
  refine z_aload_n C 0 dX9_packOf_5 rfl ?_
  refine z_get (v := .ref (ad 11)) C (lt_K hN (rfl : Nat.blt (0) 952 = true)) hay2 ary1 rfl inA_X9 5 (by decide) q_354 rfl rfl dX9_packOf_6 ?_
  refine z_get (v := .ref (ad (11 + 1))) C (lt_K hN (rfl : Nat.blt (11) 952 = true)) hay6 iry1.1 rfl inA_X6 0 (by decide) q_258 rfl rfl dX9_packOf_9 ?_
  refine z_get (v := .ref (ad (11 + 1 + 1))) C (lt_K hN (rfl : Nat.blt (11 + 1) 952 = true)) hay32 uy311 rfl inA_X8 6 (by decide) q_191 rfl rfl dX9_packOf_12 ?_
  refine z_iload_n C 1 dX9_packOf_15 rfl ?_
  refine z_aald C (lt_K hN (rfl : Nat.blt (11 + 1 + 1) 952 = true)) hay33 uy312 3 rfl ((z).toNat) (by omega) (by omega) (by decide) (uy313 (z).toNat (by omega)) dX9_packOf_16 ?_
  have hay36 : zAt ad (11 + 1 + 2 + 2 * (z).toNat) (ad (11 + 1 + 2 + 2 * (z).toNat)) := rfl
  have hay37 : zAt ad (11 + 1 + 2 + 2 * (z).toNat + 1) (ad (11 + 1 + 2 + 2 * (z).toNat + 1)) := rfl
  have hpy38 := uy314 (z).toNat (by omega)
  have hqy39 := uy31z4 (z).toNat (by omega)
  exact z_rX (z_aret C hr (Or.inl ⟨_, rfl⟩) hlk dX9_packOf_17 (by decide) (by decide) ⟨_, rfl, rfl, rfl, by omega, rfl, rfl⟩)

set_option maxRecDepth 100000 in
set_option maxHeartbeats 4000000 in
theorem c_X9_needLayer (l : Launch) (D : va_G) (A : Nat → Prop) (cs : Nat → ClassId) (tt : Nat) (N : Nat) (ad : Nat → Nat) (g : Nat → va_E) (a : Nat) (hN : a + 2 ≤ N) (sz ro : Int) (r : Nat → Int) (hz : 0 ≤ sz ∧ sz ≤ 12) (ha : isPack cs ad g a sz ro r) (hl0 : l.stackTraces = false) (x : Nat) (z : Int) (hzz : -2147483648 ≤ z ∧ z ≤ 2147483647) : zMX l yX9_needLayer cX9_needLayer 3 none ({ frames := 6, cells := 1, slots := 6, locals := 360 } : Room) D A cs tt N ad g [.ref x, .ref (ad a), .int (zI (z))] (rV0 N ad fun g' => (0 ≤ z ∧ z < sz) ∧ g = g') (fun E N' ad' g' => E = eNS ∧ N' = N ∧ ad' = ad ∧ g' = g) := by
  have hay1 : zAt ad (a) (ad a) := rfl
  have hay2 : zAt ad (a + 1) (ad (a + 1)) := rfl
  refine z_ofX (by decide) (Nat.le_of_ble_eq_true rfl) ?_
  intro p e s m below meth c C hr hlk hxt
  refine z_lv (lv' := [(0, .ref x), (1, .ref (ad a)), (2, .int (zI (z)))]) [0, 1, 2] rfl ?_
  refine z_iload_n C 2 dX9_needLayer_0 rfl ?_
  refine z_if_lt (tgt := 12) C dX9_needLayer_1 (by decide) (by omega) (fun hby3 => ?_) (fun hby3 => ?_)
  · exact z_thrNW (cls := eNS) (text := "no such layer") C hl0 (ix := 13) (rx := nsB) ns0 ns1 ns2 ns5 (by decide +kernel) q_904 q_24 (by decide +kernel) at_NS gd_NS dX9_needLayer_12 dX9_needLayer_15 dX9_needLayer_16 dX9_needLayer_19 dX9_needLayer_22 hxt (by decide) (Nat.le_of_ble_eq_true rfl) (by decide) (by decide) hlk (by decide) (by decide) ⟨rfl, rfl, rfl, rfl⟩
  · refine z_iload_n C 2 dX9_needLayer_4 rfl ?_
    refine z_aload_n C 1 dX9_needLayer_5 rfl ?_
    refine z_get (v := .int (zI (sz))) C (lt_A0 hN rfl) hay1 ha.1 rfl inA_X3 0 (by decide) q_158 rfl rfl dX9_needLayer_6 ?_
    refine z_icmp_lt (tgt := 23) C dX9_needLayer_9 (by decide) (by omega) (by omega) (fun hby4 => ?_) (fun hby4 => ?_)
    · exact z_rX (z_vret C hr hlk dX9_needLayer_23 (by decide) (by decide) ⟨rfl, rfl, rfl, by omega, rfl⟩)
    · exact z_thrNW (cls := eNS) (text := "no such layer") C hl0 (ix := 13) (rx := nsB) ns0 ns1 ns2 ns5 (by decide +kernel) q_904 q_24 (by decide +kernel) at_NS gd_NS dX9_needLayer_12 dX9_needLayer_15 dX9_needLayer_16 dX9_needLayer_19 dX9_needLayer_22 hxt (by decide) (Nat.le_of_ble_eq_true rfl) (by decide) (by decide) hlk (by decide) (by decide) ⟨rfl, rfl, rfl, rfl⟩

set_option maxRecDepth 100000 in
set_option maxHeartbeats 4000000 in
theorem c_X9_needPit (l : Launch) (D : va_G) (A : Nat → Prop) (cs : Nat → ClassId) (tt : Nat) (N : Nat) (ad : Nat → Nat) (g : Nat → va_E) (hN : 952 ≤ N) (t fp im nz kz sl ho ua : Int) (st op ai fa mu tb tp : Nat → Int) (hR : okRec cs ad g N t fp im nz kz sl ho ua st op ai fa mu tb tp) (hl0 : l.stackTraces = false) (z : Int) (hz : -2147483648 ≤ z ∧ z ≤ 2147483647) : zMX l yX9_needPit cX9_needPit 2 none ({ frames := 6, cells := 1, slots := 6, locals := 360 } : Room) D A cs tt N ad g [.ref (ad 0), .int (zI (z))] (rV0 N ad fun g' => (0 ≤ z ∧ z ≤ 5) ∧ g = g') (fun E N' ad' g' => E = eNS ∧ N' = N ∧ ad' = ad ∧ g' = g) := by
  obtain ⟨ary1, bry1, cry1, dry1, ery1, fry1, gry11, hry1, ⟨acry1, iry1⟩, ⟨kcry1, jry1⟩, kry1, lry1, mry1, nry1, ory1, pry1⟩ := id hR
  have hay2 : zAt ad (0) (ad 0) := rfl
  have hay3 : zAt ad (1) (ad 1) := rfl
  have hay4 : zAt ad (2) (ad 2) := rfl
  have hay5 : zAt ad (4) (ad 4) := rfl
  have hay6 : zAt ad (11) (ad 11) := rfl
  have hay7 : zAt ad (447) (ad 447) := rfl
  have hay8 : zAt ad (883) (ad 883) := rfl
  have hay9 : zAt ad (890) (ad 890) := rfl
  have hay10 : zAt ad (900) (ad 900) := rfl
  have hay11 : zAt ad (910) (ad 910) := rfl
  have hay12 : zAt ad (917) (ad 917) := rfl
  have hay13 : zAt ad (919) (ad 919) := rfl
  have hay14 : zAt ad (4 + 1) (ad (4 + 1)) := rfl
  have hay15 : zAt ad (4 + 2) (ad (4 + 2)) := rfl
  have hay16 : zAt ad (4 + 3) (ad (4 + 3)) := rfl
  have hay17 : zAt ad (4 + 4) (ad (4 + 4)) := rfl
  have hay18 : zAt ad (4 + 5) (ad (4 + 5)) := rfl
  have hay19 : zAt ad (4 + 6) (ad (4 + 6)) := rfl
  obtain ⟨thcy20, zhcy20, ohcy20, rhcy20, hzhcy20, hthcy20, hwhcy20⟩ := id lry1
  obtain ⟨thcy21, zhcy21, ohcy21, rhcy21, hzhcy21, hthcy21, hwhcy21⟩ := id mry1
  obtain ⟨asy22, bsy22, csy22, dsy22, esy22, ⟨ptsy22, fsy22, gsy221⟩, hsy22, ⟨nusy22, nvsy22, nwsy22, isy22, jsy22, ksy22, lsy22, msy22, nsy22⟩, rfsy22, osy22⟩ := id iry1
  have hay23 : zAt ad (11 + 1) (ad (11 + 1)) := rfl
  have hay24 : zAt ad (11 + 11) (ad (11 + 11)) := rfl
  have hay25 : zAt ad (11 + 12) (ad (11 + 12)) := rfl
  have hay26 : zAt ad (11 + 13) (ad (11 + 13)) := rfl
  have hay27 : zAt ad (11 + 13 + 1) (ad (11 + 13 + 1)) := rfl
  have hay28 : zAt ad (11 + 13 + 2) (ad (11 + 13 + 2)) := rfl
  have hay29 : zAt ad (11 + 13 + 3) (ad (11 + 13 + 3)) := rfl
  have hay30 : zAt ad (11 + 17) (ad (11 + 17)) := rfl
  obtain ⟨uy31t, uy31z, uy31o, uy31r, uy31z4, uy31t5, uy311, ⟨uy31u, uy312, uy313⟩, uy314⟩ := id csy22
  have hay32 : zAt ad (11 + 1) (ad (11 + 1)) := rfl
  have hay33 : zAt ad (11 + 1 + 1) (ad (11 + 1 + 1)) := rfl
  refine z_ofX (by decide) (Nat.le_of_ble_eq_true rfl) ?_
  intro p e s m below meth c C hr hlk hxt
  refine z_lv (lv' := [(0, .ref (ad 0)), (1, .int (zI (z)))]) [0, 1] rfl ?_
  refine z_iload_n C 1 dX9_needPit_0 rfl ?_
  refine z_if_lt (tgt := 18) C dX9_needPit_1 (by decide) (by omega) (fun hby34 => ?_) (fun hby34 => ?_)
  · exact z_thrNW (cls := eNS) (text := "no such pit") C hl0 (ix := 13) (rx := nsB) ns0 ns1 ns2 ns5 (by decide +kernel) q_904 q_24 (by decide +kernel) at_NS gd_NS dX9_needPit_18 dX9_needPit_21 dX9_needPit_22 dX9_needPit_25 dX9_needPit_28 hxt (by decide) (Nat.le_of_ble_eq_true rfl) (by decide) (by decide) hlk (by decide) (by decide) ⟨rfl, rfl, rfl, rfl⟩
  · refine z_iload_n C 1 dX9_needPit_4 rfl ?_
    refine z_aload_n C 0 dX9_needPit_5 rfl ?_
    refine z_get (v := .ref (ad 11)) C (lt_K hN (rfl : Nat.blt (0) 952 = true)) hay2 ary1 rfl inA_X9 5 (by decide) q_354 rfl rfl dX9_needPit_6 ?_
    refine z_get (v := .ref (ad (11 + 1))) C (lt_K hN (rfl : Nat.blt (11) 952 = true)) hay6 iry1.1 rfl inA_X6 0 (by decide) q_258 rfl rfl dX9_needPit_9 ?_
    refine z_get (v := .int (zI (uy31t 5))) C (lt_K hN (rfl : Nat.blt (11 + 1) 952 = true)) hay32 uy311 rfl inA_X8 5 (by decide) q_186 rfl rfl dX9_needPit_12 ?_
    refine z_icmp_lt (tgt := 29) C dX9_needPit_15 (by decide) (by omega) (by omega) (fun hby35 => ?_) (fun hby35 => ?_)
    · exact z_rX (z_vret C hr hlk dX9_needPit_29 (by decide) (by decide) ⟨rfl, rfl, rfl, by omega, rfl⟩)
    · exact z_thrNW (cls := eNS) (text := "no such pit") C hl0 (ix := 13) (rx := nsB) ns0 ns1 ns2 ns5 (by decide +kernel) q_904 q_24 (by decide +kernel) at_NS gd_NS dX9_needPit_18 dX9_needPit_21 dX9_needPit_22 dX9_needPit_25 dX9_needPit_28 hxt (by decide) (Nat.le_of_ble_eq_true rfl) (by decide) (by decide) hlk (by decide) (by decide) ⟨rfl, rfl, rfl, rfl⟩

set_option maxRecDepth 100000 in
set_option maxHeartbeats 4000000 in
theorem c_X9_needWhat (l : Launch) (D : va_G) (A : Nat → Prop) (cs : Nat → ClassId) (tt : Nat) (N : Nat) (ad : Nat → Nat) (g : Nat → va_E) (hl0 : l.stackTraces = false) (z : Int) (hz : -2147483648 ≤ z ∧ z ≤ 2147483647) (w : Int) (hw : -2147483648 ≤ w ∧ w ≤ 2147483647) : zMX l yX9_needWhat cX9_needWhat 2 none ({ frames := 6, cells := 1, slots := 6, locals := 360 } : Room) D A cs tt N ad g [.int (zI (z)), .int (zI (w))] (rV0 N ad fun g' => (0 ≤ z ∧ z ≤ w) ∧ g = g') (fun E N' ad' g' => (E = eNS ∧ ¬ (0 ≤ z ∧ z ≤ w)) ∧ N' = N ∧ ad' = ad ∧ g' = g) := by
  refine z_ofX (by decide) (Nat.le_of_ble_eq_true rfl) ?_
  intro p e s m below meth c C hr hlk hxt
  refine z_lv (lv' := [(0, .int (zI (z))), (1, .int (zI (w)))]) [0, 1] rfl ?_
  refine z_iload_n C 0 dX9_needWhat_0 rfl ?_
  refine z_if_lt (tgt := 9) C dX9_needWhat_1 (by decide) (by omega) (fun hby1 => ?_) (fun hby1 => ?_)
  · exact z_thrNW (cls := eNS) (text := "no such thing to ask") C hl0 (ix := 13) (rx := nsB) ns0 ns1 ns2 ns5 (by decide +kernel) q_904 q_24 (by decide +kernel) at_NS gd_NS dX9_needWhat_9 dX9_needWhat_12 dX9_needWhat_13 dX9_needWhat_16 dX9_needWhat_19 hxt (by decide) (Nat.le_of_ble_eq_true rfl) (by decide) (by decide) hlk (by decide) (by decide) ⟨⟨rfl, by omega⟩, rfl, rfl, rfl⟩
  · refine z_iload_n C 0 dX9_needWhat_4 rfl ?_
    refine z_iload_n C 1 dX9_needWhat_5 rfl ?_
    refine z_icmp_le (tgt := 20) C dX9_needWhat_6 (by decide) (by omega) (by omega) (fun hby2 => ?_) (fun hby2 => ?_)
    · exact z_rX (z_vret C hr hlk dX9_needWhat_20 (by decide) (by decide) ⟨rfl, rfl, rfl, by omega, rfl⟩)
    · exact z_thrNW (cls := eNS) (text := "no such thing to ask") C hl0 (ix := 13) (rx := nsB) ns0 ns1 ns2 ns5 (by decide +kernel) q_904 q_24 (by decide +kernel) at_NS gd_NS dX9_needWhat_9 dX9_needWhat_12 dX9_needWhat_13 dX9_needWhat_16 dX9_needWhat_19 hxt (by decide) (Nat.le_of_ble_eq_true rfl) (by decide) (by decide) hlk (by decide) (by decide) ⟨⟨rfl, by omega⟩, rfl, rfl, rfl⟩

set_option maxRecDepth 100000 in
set_option maxHeartbeats 4000000 in
theorem c_X9_needHours (l : Launch) (D : va_G) (A : Nat → Prop) (cs : Nat → ClassId) (tt : Nat) (N : Nat) (ad : Nat → Nat) (g : Nat → va_E) (hl0 : l.stackTraces = false) (z : Int) (hz : -2147483648 ≤ z ∧ z ≤ 2147483647) (lo : Int) (hlo : -2147483648 ≤ lo ∧ lo ≤ 2147483647) (hi : Int) (hhi : -2147483648 ≤ hi ∧ hi ≤ 2147483647) : zMX l yX9_needHours cX9_needHours 3 none ({ frames := 6, cells := 1, slots := 6, locals := 360 } : Room) D A cs tt N ad g [.int (zI (z)), .int (zI (lo)), .int (zI (hi))] (rV0 N ad fun g' => (lo ≤ z ∧ z ≤ hi) ∧ g = g') (fun E N' ad' g' => (E = eIA ∧ ¬ (lo ≤ z ∧ z ≤ hi)) ∧ N' = N ∧ ad' = ad ∧ g' = g) := by
  refine z_ofX (by decide) (Nat.le_of_ble_eq_true rfl) ?_
  intro p e s m below meth c C hr hlk hxt
  refine z_lv (lv' := [(0, .int (zI (z))), (1, .int (zI (lo))), (2, .int (zI (hi)))]) [0, 1, 2] rfl ?_
  refine z_iload_n C 0 dX9_needHours_0 rfl ?_
  refine z_iload_n C 1 dX9_needHours_1 rfl ?_
  refine z_icmp_lt (tgt := 10) C dX9_needHours_2 (by decide) (by omega) (by omega) (fun hby1 => ?_) (fun hby1 => ?_)
  · exact z_thrW (cls := eIA) (text := "not so many hours") C hl0 (by decide +kernel) q_658 q_19 (by decide +kernel) at_IA gd_IA dX9_needHours_10 dX9_needHours_13 dX9_needHours_14 dX9_needHours_17 dX9_needHours_20 hxt (by decide) (Nat.le_of_ble_eq_true rfl) (by decide) (by decide) hlk (by decide) (by decide) ⟨⟨rfl, by omega⟩, rfl, rfl, rfl⟩
  · refine z_iload_n C 0 dX9_needHours_5 rfl ?_
    refine z_iload_n C 2 dX9_needHours_6 rfl ?_
    refine z_icmp_le (tgt := 21) C dX9_needHours_7 (by decide) (by omega) (by omega) (fun hby2 => ?_) (fun hby2 => ?_)
    · exact z_rX (z_vret C hr hlk dX9_needHours_21 (by decide) (by decide) ⟨rfl, rfl, rfl, by omega, rfl⟩)
    · exact z_thrW (cls := eIA) (text := "not so many hours") C hl0 (by decide +kernel) q_658 q_19 (by decide +kernel) at_IA gd_IA dX9_needHours_10 dX9_needHours_13 dX9_needHours_14 dX9_needHours_17 dX9_needHours_20 hxt (by decide) (Nat.le_of_ble_eq_true rfl) (by decide) (by decide) hlk (by decide) (by decide) ⟨⟨rfl, by omega⟩, rfl, rfl, rfl⟩

set_option maxRecDepth 100000 in
set_option maxHeartbeats 4000000 in
theorem c_X9_extraOf (l : Launch) (D : va_G) (A : Nat → Prop) (cs : Nat → ClassId) (tt : Nat) (N : Nat) (ad : Nat → Nat) (g : Nat → va_E) (z : Int) (hz : -2147483648 ≤ z ∧ z ≤ 2147483647) : zM l yX9_extraOf cX9_extraOf 4 (some .int) ({ frames := 2, cells := 0, slots := 0, locals := 120 } : Room) D A cs tt N ad g [.int (zI (z))] (rI0 N ad fun r g' => (-2147483648 ≤ r ∧ r ≤ 2147483647) ∧ g = g') := by
  refine z_of (by decide) (Nat.le_of_ble_eq_true rfl) ?_
  intro p e s m below meth c C hr hlk hnm
  refine z_lv (lv' := [(0, .int (zI (z)))]) [0] rfl ?_
  refine z_iload_n C 0 dX9_extraOf_0 rfl ?_
  refine z_bipush (z := 10) C dX9_extraOf_1 (by decide) ?_
  refine z_mmin C q_1266 q_473 q_20 q_474 (by omega) (by omega) (by decide) (Nat.le_of_ble_eq_true rfl) (by decide) (by decide) dX9_extraOf_3 ?_
  obtain ⟨xy1, exy2, hxy3⟩ := mm_min (z) (10)
  rw [exy2]
  refine z_istore_n (lv' := [(1, .int (zI (xy1))), (0, .int (zI (z)))]) C dX9_extraOf_6 rfl (by decide) rfl ?_
  refine z_iload_n C 1 dX9_extraOf_7 rfl ?_
  refine z_iload_n C 0 dX9_extraOf_8 rfl ?_
  refine z_isub C dX9_extraOf_9 ?_
  refine z_bipush (z := 10) C dX9_extraOf_10 (by decide) ?_
  obtain ⟨xy4, exy5, hxy6⟩ := zI_of (zI (z - xy1))
  rw [exy5]
  refine z_mmin C q_1266 q_473 q_20 q_474 (by omega) (by omega) (by decide) (Nat.le_of_ble_eq_true rfl) (by decide) (by decide) dX9_extraOf_12 ?_
  obtain ⟨xy7, exy8, hxy9⟩ := mm_min (xy4) (10)
  rw [exy8]
  refine z_istore_n (lv' := [(2, .int (zI (xy7))), (1, .int (zI (xy1))), (0, .int (zI (z)))]) C dX9_extraOf_15 rfl (by decide) rfl ?_
  refine z_iload_n C 2 dX9_extraOf_16 rfl ?_
  refine z_iload_n C 1 dX9_extraOf_17 rfl ?_
  refine z_isub C dX9_extraOf_18 ?_
  refine z_iload_n C 0 dX9_extraOf_19 rfl ?_
  refine z_isub C dX9_extraOf_20 ?_
  refine z_istore_n (lv' := [(3, .int (zI ((z - xy1) - xy7))), (2, .int (zI (xy7))), (1, .int (zI (xy1))), (0, .int (zI (z)))]) C dX9_extraOf_21 rfl (by decide) rfl ?_
  refine z_iload_n C 2 dX9_extraOf_22 rfl ?_
  refine z_iconst (z := 2) C dX9_extraOf_23 rfl ?_
  refine z_iload_n C 1 dX9_extraOf_24 rfl ?_
  refine z_imul C dX9_extraOf_25 ?_
  refine z_iadd C dX9_extraOf_26 ?_
  refine z_iconst (z := 4) C dX9_extraOf_27 rfl ?_
  refine z_iload_n C 0 dX9_extraOf_28 rfl ?_
  refine z_imul C dX9_extraOf_29 ?_
  refine z_iadd C dX9_extraOf_30 ?_
  obtain ⟨xy10, exy11, hxy12⟩ := zI_of (zI ((xy1 + (2 * xy7)) + (4 * ((z - xy1) - xy7))))
  rw [exy11]
  exact z_iret C hr hlk dX9_extraOf_31 (by decide) (by decide) ⟨xy10, rfl, rfl, rfl, by omega, rfl⟩

set_option maxRecDepth 100000 in
set_option maxHeartbeats 4000000 in
theorem c_X9_nextSeed (l : Launch) (D : va_G) (A : Nat → Prop) (cs : Nat → ClassId) (tt : Nat) (N : Nat) (ad : Nat → Nat) (g : Nat → va_E) (z : Int) (hz : -2147483648 ≤ z ∧ z ≤ 2147483647) : zM l yX9_nextSeed cX9_nextSeed 1 (some .int) ({ frames := 1, cells := 0, slots := 0, locals := 60 } : Room) D A cs tt N ad g [.int (zI (z))] (rI0 N ad fun r g' => (-2147483648 ≤ r ∧ r ≤ 2147483647) ∧ g = g') := by
  refine z_of (by decide) (Nat.le_of_ble_eq_true rfl) ?_
  intro p e s m below meth c C hr hlk hnm
  refine z_lv (lv' := [(0, .int (zI (z)))]) [0] rfl ?_
  refine z_iload_n C 0 dX9_nextSeed_0 rfl ?_
  refine z_ldcw (z := 1103515245) C dX9_nextSeed_1 q_1440 (by decide) ?_
  refine z_imul C dX9_nextSeed_4 ?_
  refine z_sipush (z := 12345) C dX9_nextSeed_5 (by decide) ?_
  refine z_iadd C dX9_nextSeed_8 ?_
  obtain ⟨xy1, exy2, hxy3⟩ := zI_of (zI ((z * 1103515245) + 12345))
  rw [exy2]
  exact z_iret C hr hlk dX9_nextSeed_9 (by decide) (by decide) ⟨xy1, rfl, rfl, rfl, by omega, rfl⟩
end
section
-- 41.words.lean.txt
-- words of ask
theorem q_102 : (Jvm.Cond.fieldLink "SnowRecorder" (190 : Nat) "SnowRecorder$Plan" "open" "[I") ∈ AW := AW_m1 102 (by decide +kernel) (by decide +kernel)
theorem q_105 : (Jvm.Cond.fieldLink "SnowRecorder" (172 : Nat) "SnowRecorder$Plan" "air" "[I") ∈ AW := AW_m1 105 (by decide +kernel) (by decide +kernel)
theorem q_108 : (Jvm.Cond.fieldLink "SnowRecorder" (175 : Nat) "SnowRecorder$Plan" "fall" "[I") ∈ AW := AW_m1 108 (by decide +kernel) (by decide +kernel)
theorem q_111 : (Jvm.Cond.fieldLink "SnowRecorder" (178 : Nat) "SnowRecorder$Plan" "much" "[I") ∈ AW := AW_m1 111 (by decide +kernel) (by decide +kernel)
theorem q_1220 : (Jvm.Cond.methodLink "SnowRecorder" (303 : Nat) ({ cls := "SnowRecorder", name := "needWhat", desc := "(II)V" } : Jvm.MethodName)) ∈ AW := AW_m6 20 (by decide +kernel) (by decide +kernel)
theorem q_1221 : (Jvm.Cond.static ({ cls := "SnowRecorder", name := "needWhat", desc := "(II)V" } : Jvm.MethodName)) ∈ AW := AW_m6 21 (by decide +kernel) (by decide +kernel)
theorem q_1222 : (Jvm.Cond.code ({ cls := "SnowRecorder", name := "needWhat", desc := "(II)V" } : Jvm.MethodName) prog_1_method_42_code (2 : Nat) (Option.none : Option Jvm.ClassFile.FieldType)) ∈ AW := AW_m6 22 (by decide +kernel) (by decide +kernel)
theorem q_1263 : (Jvm.Cond.methodLink "SnowRecorder" (321 : Nat) ({ cls := "SnowRecorder", name := "extraOf", desc := "(I)I" } : Jvm.MethodName)) ∈ AW := AW_m6 63 (by decide +kernel) (by decide +kernel)
theorem q_1264 : (Jvm.Cond.static ({ cls := "SnowRecorder", name := "extraOf", desc := "(I)I" } : Jvm.MethodName)) ∈ AW := AW_m6 64 (by decide +kernel) (by decide +kernel)
theorem q_1265 : (Jvm.Cond.code ({ cls := "SnowRecorder", name := "extraOf", desc := "(I)I" } : Jvm.MethodName) prog_1_method_47_code (4 : Nat) (Option.some Jvm.ClassFile.FieldType.int)) ∈ AW := AW_m6 65 (by decide +kernel) (by decide +kernel)
theorem q_1316 : (Jvm.Cond.methodLink "SnowRecorder" (338 : Nat) ({ cls := "SnowRecorder", name := "needPit", desc := "(I)V" } : Jvm.MethodName)) ∈ AW := AW_m6 116 (by decide +kernel) (by decide +kernel)
theorem q_1318 : (Jvm.Cond.instanceMethod ({ cls := "SnowRecorder", name := "needPit", desc := "(I)V" } : Jvm.MethodName)) ∈ AW := AW_m6 118 (by decide +kernel) (by decide +kernel)
theorem q_1319 : (Jvm.Cond.code ({ cls := "SnowRecorder", name := "needPit", desc := "(I)V" } : Jvm.MethodName) prog_1_method_41_code (2 : Nat) (Option.none : Option Jvm.ClassFile.FieldType)) ∈ AW := AW_m6 119 (by decide +kernel) (by decide +kernel)
theorem q_161 : (Jvm.Cond.fieldLink "SnowRecorder" (197 : Nat) "SnowRecorder$Pack" "runoff" "I") ∈ AW := AW_m1 161 (by decide +kernel) (by decide +kernel)
theorem q_164 : (Jvm.Cond.fieldLink "SnowRecorder" (216 : Nat) "SnowRecorder$Pack" "cells" "[I") ∈ AW := AW_m1 164 (by decide +kernel) (by decide +kernel)
theorem q_174 : (Jvm.Cond.fieldLink "SnowRecorder" (121 : Nat) "SnowRecorder$World" "time" "I") ∈ AW := AW_m1 174 (by decide +kernel) (by decide +kernel)
theorem q_177 : (Jvm.Cond.fieldLink "SnowRecorder" (128 : Nat) "SnowRecorder$World" "names" "I") ∈ AW := AW_m1 177 (by decide +kernel) (by decide +kernel)
theorem q_180 : (Jvm.Cond.fieldLink "SnowRecorder" (134 : Nat) "SnowRecorder$World" "taken" "I") ∈ AW := AW_m1 180 (by decide +kernel) (by decide +kernel)
theorem q_182 : (Jvm.Cond.fieldLink "SnowRecorder" (137 : Nat) "SnowRecorder$World" "slid" "I") ∈ AW := AW_m1 182 (by decide +kernel) (by decide +kernel)
theorem q_184 : (Jvm.Cond.fieldLink "SnowRecorder" (140 : Nat) "SnowRecorder$World" "slides" "I") ∈ AW := AW_m1 184 (by decide +kernel) (by decide +kernel)
theorem q_218 : (Jvm.Cond.fieldLink "SnowRecorder" (160 : Nat) "SnowRecorder$Notes" "size" "I") ∈ AW := AW_m1 218 (by decide +kernel) (by decide +kernel)
theorem q_243 : (Jvm.Cond.fieldLink "SnowRecorder" (344 : Nat) "SnowRecorder$Pit" "slope" "I") ∈ AW := AW_m2 3 (by decide +kernel) (by decide +kernel)
theorem q_246 : (Jvm.Cond.fieldLink "SnowRecorder" (353 : Nat) "SnowRecorder$Pit" "time" "I") ∈ AW := AW_m2 6 (by decide +kernel) (by decide +kernel)
theorem q_249 : (Jvm.Cond.fieldLink "SnowRecorder" (349 : Nat) "SnowRecorder$Pit" "pack" "LSnowRecorder$Pack;") ∈ AW := AW_m2 9 (by decide +kernel) (by decide +kernel)
theorem q_261 : (Jvm.Cond.fieldLink "SnowRecorder" (153 : Nat) "SnowRecorder$State" "acts" "I") ∈ AW := AW_m2 21 (by decide +kernel) (by decide +kernel)
theorem q_263 : (Jvm.Cond.fieldLink "SnowRecorder" (341 : Nat) "SnowRecorder$State" "pits" "[LSnowRecorder$Pit;") ∈ AW := AW_m2 23 (by decide +kernel) (by decide +kernel)
theorem q_265 : (Jvm.Cond.fieldLink "SnowRecorder" (156 : Nat) "SnowRecorder$State" "notes" "LSnowRecorder$Notes;") ∈ AW := AW_m2 25 (by decide +kernel) (by decide +kernel)
theorem q_267 : (Jvm.Cond.fieldLink "SnowRecorder" (100 : Nat) "SnowRecorder$State" "refused" "[I") ∈ AW := AW_m2 27 (by decide +kernel) (by decide +kernel)
theorem q_545 : (Jvm.Cond.methodLink "SnowRecorder" (225 : Nat) ({ cls := "SnowRecorder$Plan", name := "airAt", desc := "(I)I" } : Jvm.MethodName)) ∈ AW := AW_m3 65 (by decide +kernel) (by decide +kernel)
theorem q_564 : (Jvm.Cond.methodLink "SnowRecorder" (206 : Nat) ({ cls := "SnowRecorder$Pack", name := "lowestUnstable", desc := "(IILSnowRecorder$Plan;)I" } : Jvm.MethodName)) ∈ AW := AW_m3 84 (by decide +kernel) (by decide +kernel)
theorem q_565 : (Jvm.Cond.instanceMethod ({ cls := "SnowRecorder$Pack", name := "lowestUnstable", desc := "(IILSnowRecorder$Plan;)I" } : Jvm.MethodName)) ∈ AW := AW_m3 85 (by decide +kernel) (by decide +kernel)
theorem q_566 : (Jvm.Cond.selects "SnowRecorder$Pack" ({ cls := "SnowRecorder$Pack", name := "lowestUnstable", desc := "(IILSnowRecorder$Plan;)I" } : Jvm.MethodName) ({ cls := "SnowRecorder$Pack", name := "lowestUnstable", desc := "(IILSnowRecorder$Plan;)I" } : Jvm.MethodName)) ∈ AW := AW_m3 86 (by decide +kernel) (by decide +kernel)
theorem q_567 : (Jvm.Cond.code ({ cls := "SnowRecorder$Pack", name := "lowestUnstable", desc := "(IILSnowRecorder$Plan;)I" } : Jvm.MethodName) prog_5_method_26_code (7 : Nat) (Option.some Jvm.ClassFile.FieldType.int)) ∈ AW := AW_m3 87 (by decide +kernel) (by decide +kernel)
theorem q_878 : (Jvm.Cond.methodLink "SnowRecorder" (124 : Nat) ({ cls := "SnowRecorder$World", name := "layers", desc := "()I" } : Jvm.MethodName)) ∈ AW := AW_m4 158 (by decide +kernel) (by decide +kernel)
theorem q_879 : (Jvm.Cond.instanceMethod ({ cls := "SnowRecorder$World", name := "layers", desc := "()I" } : Jvm.MethodName)) ∈ AW := AW_m4 159 (by decide +kernel) (by decide +kernel)
theorem q_880 : (Jvm.Cond.selects "SnowRecorder$World" ({ cls := "SnowRecorder$World", name := "layers", desc := "()I" } : Jvm.MethodName) ({ cls := "SnowRecorder$World", name := "layers", desc := "()I" } : Jvm.MethodName)) ∈ AW := AW_m4 160 (by decide +kernel) (by decide +kernel)
theorem q_881 : (Jvm.Cond.code ({ cls := "SnowRecorder$World", name := "layers", desc := "()I" } : Jvm.MethodName) prog_10_method_4_code (3 : Nat) (Option.some Jvm.ClassFile.FieldType.int)) ∈ AW := AW_m4 161 (by decide +kernel) (by decide +kernel)
theorem q_882 : (Jvm.Cond.methodLink "SnowRecorder" (131 : Nat) ({ cls := "SnowRecorder$World", name := "runoff", desc := "()I" } : Jvm.MethodName)) ∈ AW := AW_m4 162 (by decide +kernel) (by decide +kernel)
theorem q_883 : (Jvm.Cond.instanceMethod ({ cls := "SnowRecorder$World", name := "runoff", desc := "()I" } : Jvm.MethodName)) ∈ AW := AW_m4 163 (by decide +kernel) (by decide +kernel)
theorem q_884 : (Jvm.Cond.selects "SnowRecorder$World" ({ cls := "SnowRecorder$World", name := "runoff", desc := "()I" } : Jvm.MethodName) ({ cls := "SnowRecorder$World", name := "runoff", desc := "()I" } : Jvm.MethodName)) ∈ AW := AW_m4 164 (by decide +kernel) (by decide +kernel)
theorem q_885 : (Jvm.Cond.code ({ cls := "SnowRecorder$World", name := "runoff", desc := "()I" } : Jvm.MethodName) prog_10_method_5_code (3 : Nat) (Option.some Jvm.ClassFile.FieldType.int)) ∈ AW := AW_m4 165 (by decide +kernel) (by decide +kernel)
theorem q_886 : (Jvm.Cond.methodLink "SnowRecorder" (143 : Nat) ({ cls := "SnowRecorder$World", name := "sum", desc := "(I)I" } : Jvm.MethodName)) ∈ AW := AW_m4 166 (by decide +kernel) (by decide +kernel)
theorem q_887 : (Jvm.Cond.instanceMethod ({ cls := "SnowRecorder$World", name := "sum", desc := "(I)I" } : Jvm.MethodName)) ∈ AW := AW_m4 167 (by decide +kernel) (by decide +kernel)
theorem q_888 : (Jvm.Cond.selects "SnowRecorder$World" ({ cls := "SnowRecorder$World", name := "sum", desc := "(I)I" } : Jvm.MethodName) ({ cls := "SnowRecorder$World", name := "sum", desc := "(I)I" } : Jvm.MethodName)) ∈ AW := AW_m4 168 (by decide +kernel) (by decide +kernel)
theorem q_889 : (Jvm.Cond.code ({ cls := "SnowRecorder$World", name := "sum", desc := "(I)I" } : Jvm.MethodName) prog_10_method_6_code (4 : Nat) (Option.some Jvm.ClassFile.FieldType.int)) ∈ AW := AW_m4 169 (by decide +kernel) (by decide +kernel)
theorem q_894 : (Jvm.Cond.methodLink "SnowRecorder" (147 : Nat) ({ cls := "SnowRecorder", name := "worst", desc := "()I" } : Jvm.MethodName)) ∈ AW := AW_m4 174 (by decide +kernel) (by decide +kernel)
theorem q_896 : (Jvm.Cond.instanceMethod ({ cls := "SnowRecorder", name := "worst", desc := "()I" } : Jvm.MethodName)) ∈ AW := AW_m4 176 (by decide +kernel) (by decide +kernel)
theorem q_897 : (Jvm.Cond.code ({ cls := "SnowRecorder", name := "worst", desc := "()I" } : Jvm.MethodName) prog_1_method_44_code (5 : Nat) (Option.some Jvm.ClassFile.FieldType.int)) ∈ AW := AW_m4 177 (by decide +kernel) (by decide +kernel)
theorem q_898 : (Jvm.Cond.methodLink "SnowRecorder" (203 : Nat) ({ cls := "SnowRecorder$Pack", name := "leastRatio", desc := "(ILSnowRecorder$Plan;)I" } : Jvm.MethodName)) ∈ AW := AW_m4 178 (by decide +kernel) (by decide +kernel)
theorem q_899 : (Jvm.Cond.instanceMethod ({ cls := "SnowRecorder$Pack", name := "leastRatio", desc := "(ILSnowRecorder$Plan;)I" } : Jvm.MethodName)) ∈ AW := AW_m4 179 (by decide +kernel) (by decide +kernel)
theorem q_900 : (Jvm.Cond.selects "SnowRecorder$Pack" ({ cls := "SnowRecorder$Pack", name := "leastRatio", desc := "(ILSnowRecorder$Plan;)I" } : Jvm.MethodName) ({ cls := "SnowRecorder$Pack", name := "leastRatio", desc := "(ILSnowRecorder$Plan;)I" } : Jvm.MethodName)) ∈ AW := AW_m4 180 (by decide +kernel) (by decide +kernel)
theorem q_901 : (Jvm.Cond.code ({ cls := "SnowRecorder$Pack", name := "leastRatio", desc := "(ILSnowRecorder$Plan;)I" } : Jvm.MethodName) prog_5_method_25_code (4 : Nat) (Option.some Jvm.ClassFile.FieldType.int)) ∈ AW := AW_m4 181 (by decide +kernel) (by decide +kernel)
theorem q_93 : (Jvm.Cond.fieldLink "SnowRecorder" (118 : Nat) "SnowRecorder$Plan" "hours" "I") ∈ AW := AW_m1 93 (by decide +kernel) (by decide +kernel)
theorem q_936 : (Jvm.Cond.methodLink "SnowRecorder" (183 : Nat) ({ cls := "SnowRecorder", name := "packOf", desc := "(I)LSnowRecorder$Pack;" } : Jvm.MethodName)) ∈ AW := AW_m4 216 (by decide +kernel) (by decide +kernel)
theorem q_938 : (Jvm.Cond.instanceMethod ({ cls := "SnowRecorder", name := "packOf", desc := "(I)LSnowRecorder$Pack;" } : Jvm.MethodName)) ∈ AW := AW_m4 218 (by decide +kernel) (by decide +kernel)
theorem q_939 : (Jvm.Cond.code ({ cls := "SnowRecorder", name := "packOf", desc := "(I)LSnowRecorder$Pack;" } : Jvm.MethodName) prog_1_method_39_code (2 : Nat) (Option.some (Jvm.ClassFile.FieldType.object "SnowRecorder$Pack"))) ∈ AW := AW_m4 219 (by decide +kernel) (by decide +kernel)
theorem q_945 : (Jvm.Cond.methodLink "SnowRecorder" (196 : Nat) ({ cls := "SnowRecorder$Pack", name := "sum", desc := "(I)I" } : Jvm.MethodName)) ∈ AW := AW_m4 225 (by decide +kernel) (by decide +kernel)
theorem q_946 : (Jvm.Cond.methodLink "SnowRecorder" (199 : Nat) ({ cls := "SnowRecorder$Pack", name := "weakest", desc := "(ILSnowRecorder$Plan;)I" } : Jvm.MethodName)) ∈ AW := AW_m4 226 (by decide +kernel) (by decide +kernel)
theorem q_955 : (Jvm.Cond.methodLink "SnowRecorder" (212 : Nat) ({ cls := "SnowRecorder", name := "needLayer", desc := "(LSnowRecorder$Pack;I)V" } : Jvm.MethodName)) ∈ AW := AW_m4 235 (by decide +kernel) (by decide +kernel)
theorem q_957 : (Jvm.Cond.instanceMethod ({ cls := "SnowRecorder", name := "needLayer", desc := "(LSnowRecorder$Pack;I)V" } : Jvm.MethodName)) ∈ AW := AW_m4 237 (by decide +kernel) (by decide +kernel)
theorem q_958 : (Jvm.Cond.code ({ cls := "SnowRecorder", name := "needLayer", desc := "(LSnowRecorder$Pack;I)V" } : Jvm.MethodName) prog_1_method_40_code (3 : Nat) (Option.none : Option Jvm.ClassFile.FieldType)) ∈ AW := AW_m4 238 (by decide +kernel) (by decide +kernel)
theorem q_960 : (Jvm.Cond.methodLink "SnowRecorder" (219 : Nat) ({ cls := "SnowRecorder$Pack", name := "massAbove", desc := "(I)I" } : Jvm.MethodName)) ∈ AW := AW_m5 0 (by decide +kernel) (by decide +kernel)
theorem q_961 : (Jvm.Cond.methodLink "SnowRecorder" (222 : Nat) ({ cls := "SnowRecorder$Pack", name := "mass", desc := "(I)I" } : Jvm.MethodName)) ∈ AW := AW_m5 1 (by decide +kernel) (by decide +kernel)
theorem q_962 : (Jvm.Cond.methodLink "SnowRecorder" (228 : Nat) ({ cls := "SnowRecorder$Pack", name := "grade", desc := "(II)I" } : Jvm.MethodName)) ∈ AW := AW_m5 2 (by decide +kernel) (by decide +kernel)
theorem q_963 : (Jvm.Cond.methodLink "SnowRecorder" (232 : Nat) ({ cls := "SnowRecorder$Pack", name := "strength", desc := "(ILSnowRecorder$Plan;)I" } : Jvm.MethodName)) ∈ AW := AW_m5 3 (by decide +kernel) (by decide +kernel)
theorem q_964 : (Jvm.Cond.methodLink "SnowRecorder" (235 : Nat) ({ cls := "SnowRecorder", name := "burden", desc := "(II)I" } : Jvm.MethodName)) ∈ AW := AW_m5 4 (by decide +kernel) (by decide +kernel)
theorem q_965 : (Jvm.Cond.methodLink "SnowRecorder" (238 : Nat) ({ cls := "SnowRecorder$Pack", name := "ratio", desc := "(IILSnowRecorder$Plan;)I" } : Jvm.MethodName)) ∈ AW := AW_m5 5 (by decide +kernel) (by decide +kernel)
theorem q_98 : (Jvm.Cond.fieldLink "SnowRecorder" (187 : Nat) "SnowRecorder$Plan" "steep" "[I") ∈ AW := AW_m1 98 (by decide +kernel) (by decide +kernel)
theorem s_22 : Cond.selects "SnowRecorder" ({ cls := "SnowRecorder", name := "worst", desc := "()I" } : Jvm.MethodName) ({ cls := "SnowRecorder", name := "worst", desc := "()I" } : Jvm.MethodName) ∈ AW := AW_m 22 (by decide +kernel) (by decide +kernel)
theorem s_23 : Cond.selects "SnowRecorder" ({ cls := "SnowRecorder", name := "packOf", desc := "(I)LSnowRecorder$Pack;" } : Jvm.MethodName) ({ cls := "SnowRecorder", name := "packOf", desc := "(I)LSnowRecorder$Pack;" } : Jvm.MethodName) ∈ AW := AW_m 23 (by decide +kernel) (by decide +kernel)
theorem s_25 : Cond.selects "SnowRecorder" ({ cls := "SnowRecorder", name := "needLayer", desc := "(LSnowRecorder$Pack;I)V" } : Jvm.MethodName) ({ cls := "SnowRecorder", name := "needLayer", desc := "(LSnowRecorder$Pack;I)V" } : Jvm.MethodName) ∈ AW := AW_m 25 (by decide +kernel) (by decide +kernel)
theorem s_29 : Cond.selects "SnowRecorder" ({ cls := "SnowRecorder", name := "needPit", desc := "(I)V" } : Jvm.MethodName) ({ cls := "SnowRecorder", name := "needPit", desc := "(I)V" } : Jvm.MethodName) ∈ AW := AW_m 29 (by decide +kernel) (by decide +kernel)
theorem hd_yX3_leastRatio : yX3_leastRatio.cls ≠ "java/lang/invoke/MethodHandle" ∧ yX3_leastRatio.cls ≠ "java/lang/invoke/VarHandle" ∧ (parseMethodDescriptor yX3_leastRatio.desc).map (fun d => d.parameters.length) = some 2 := by decide +kernel
theorem hd_yX3_lowestUnstable : yX3_lowestUnstable.cls ≠ "java/lang/invoke/MethodHandle" ∧ yX3_lowestUnstable.cls ≠ "java/lang/invoke/VarHandle" ∧ (parseMethodDescriptor yX3_lowestUnstable.desc).map (fun d => d.parameters.length) = some 3 := by decide +kernel
theorem hd_yX8_layers : yX8_layers.cls ≠ "java/lang/invoke/MethodHandle" ∧ yX8_layers.cls ≠ "java/lang/invoke/VarHandle" ∧ (parseMethodDescriptor yX8_layers.desc).map (fun d => d.parameters.length) = some 0 := by decide +kernel
theorem hd_yX8_runoff : yX8_runoff.cls ≠ "java/lang/invoke/MethodHandle" ∧ yX8_runoff.cls ≠ "java/lang/invoke/VarHandle" ∧ (parseMethodDescriptor yX8_runoff.desc).map (fun d => d.parameters.length) = some 0 := by decide +kernel
theorem hd_yX8_sum : yX8_sum.cls ≠ "java/lang/invoke/MethodHandle" ∧ yX8_sum.cls ≠ "java/lang/invoke/VarHandle" ∧ (parseMethodDescriptor yX8_sum.desc).map (fun d => d.parameters.length) = some 1 := by decide +kernel
theorem hd_yX9_worst : yX9_worst.cls ≠ "java/lang/invoke/MethodHandle" ∧ yX9_worst.cls ≠ "java/lang/invoke/VarHandle" ∧ (parseMethodDescriptor yX9_worst.desc).map (fun d => d.parameters.length) = some 0 := by decide +kernel
theorem hd_yX9_packOf : yX9_packOf.cls ≠ "java/lang/invoke/MethodHandle" ∧ yX9_packOf.cls ≠ "java/lang/invoke/VarHandle" ∧ (parseMethodDescriptor yX9_packOf.desc).map (fun d => d.parameters.length) = some 1 := by decide +kernel
theorem hd_yX9_needLayer : yX9_needLayer.cls ≠ "java/lang/invoke/MethodHandle" ∧ yX9_needLayer.cls ≠ "java/lang/invoke/VarHandle" ∧ (parseMethodDescriptor yX9_needLayer.desc).map (fun d => d.parameters.length) = some 2 := by decide +kernel
theorem hd_yX9_needWhat : yX9_needWhat.cls ≠ "java/lang/invoke/MethodHandle" ∧ yX9_needWhat.cls ≠ "java/lang/invoke/VarHandle" ∧ (parseMethodDescriptor yX9_needWhat.desc).map (fun d => d.parameters.length) = some 2 := by decide +kernel
theorem hd_yX9_extraOf : yX9_extraOf.cls ≠ "java/lang/invoke/MethodHandle" ∧ yX9_extraOf.cls ≠ "java/lang/invoke/VarHandle" ∧ (parseMethodDescriptor yX9_extraOf.desc).map (fun d => d.parameters.length) = some 1 := by decide +kernel
theorem hd_yX9_needPit : yX9_needPit.cls ≠ "java/lang/invoke/MethodHandle" ∧ yX9_needPit.cls ≠ "java/lang/invoke/VarHandle" ∧ (parseMethodDescriptor yX9_needPit.desc).map (fun d => d.parameters.length) = some 1 := by decide +kernel
theorem mv_yX3_leastRatio : zWv yX3_leastRatio cX3_leastRatio 4 (some .int) := ⟨q_899, q_900, q_6, q_901⟩
theorem mv_yX3_lowestUnstable : zWv yX3_lowestUnstable cX3_lowestUnstable 7 (some .int) := ⟨q_565, q_566, q_6, q_567⟩
theorem mv_yX8_layers : zWv yX8_layers cX8_layers 3 (some .int) := ⟨q_879, q_880, q_5, q_881⟩
theorem mv_yX8_runoff : zWv yX8_runoff cX8_runoff 3 (some .int) := ⟨q_883, q_884, q_5, q_885⟩
theorem mv_yX8_sum : zWv yX8_sum cX8_sum 4 (some .int) := ⟨q_887, q_888, q_5, q_889⟩
theorem mv_yX9_worst : zWv yX9_worst cX9_worst 5 (some .int) := ⟨q_896, s_22, q_1, q_897⟩
theorem mv_yX9_packOf : zWv yX9_packOf cX9_packOf 2 (some (.object "SnowRecorder$Pack")) := ⟨q_938, s_23, q_1, q_939⟩
theorem mv_yX9_needLayer : zWv yX9_needLayer cX9_needLayer 3 none := ⟨q_957, s_25, q_1, q_958⟩
theorem ms_yX9_needWhat : zWs yX9_needWhat cX9_needWhat 2 none := ⟨q_1221, q_1, q_1222⟩
theorem ms_yX9_extraOf : zWs yX9_extraOf cX9_extraOf 4 (some .int) := ⟨q_1264, q_1, q_1265⟩
theorem mv_yX9_needPit : zWv yX9_needPit cX9_needPit 2 none := ⟨q_1318, s_29, q_1, q_1319⟩
end
