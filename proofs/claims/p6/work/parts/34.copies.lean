set_option maxRecDepth 100000 in
set_option maxHeartbeats 4000000 in
theorem c_X4_copyFrom (l : Launch) (D : va_G) (A : Nat → Prop) (cs : Nat → ClassId) (tt : Nat) (N : Nat) (ad : Nat → Nat) (g : Nat → va_E) (a : Nat) (hN : a + 3 ≤ N) (ha : okPit cs ad g a) (b : Nat) (hNb : b + 3 ≤ N) (hb : okPit cs ad g b) (hab : a + 3 ≤ b ∨ b + 3 ≤ a) : zM l yX4_copyFrom cX4_copyFrom 2 none ({ frames := 2, cells := 0, slots := 0, locals := 120 } : Room) D A cs tt N ad g [.ref (ad a), .ref (ad b)] (rV0 N ad fun g' => okPit cs ad g' a ∧ ∀ j, j < a ∨ a + 3 ≤ j → g' j = g j) := by
  obtain ⟨ul, ut, uz, uo, ur, u1, u2, u3, u4⟩ := id ha
  have hay1 : zAt ad (a) (ad a) := rfl
  have hay2 : zAt ad (a + 1) (ad (a + 1)) := rfl
  have hay3 : zAt ad (a + 1 + 1) (ad (a + 1 + 1)) := rfl
  obtain ⟨vl, vt, vz, vo, vr, v1, v2, v3, v4⟩ := id hb
  have hay4 : zAt ad (b) (ad b) := rfl
  have hay5 : zAt ad (b + 1) (ad (b + 1)) := rfl
  have hay6 : zAt ad (b + 1 + 1) (ad (b + 1 + 1)) := rfl
  refine z_of (by decide) (Nat.le_of_ble_eq_true rfl) ?_
  intro p e s m below meth c C hr hlk hnm
  refine z_lv (lv' := [(0, .ref (ad a)), (1, .ref (ad b))]) [0, 1] rfl ?_
  refine z_aload_n C 0 dX4_copyFrom_0 rfl ?_
  refine z_aload_n C 1 dX4_copyFrom_1 rfl ?_
  refine z_get (v := .int (zI (vl))) C (by omega) hay4 v3 rfl inA_X4 0 (by decide) q_241 rfl rfl dX4_copyFrom_2 ?_
  refine z_put (fs' := [.int (zI (vl)), .int (zI (ut)), .ref (ad (a + 1))]) C (lt_A0 hN rfl) hay1 u3 tyX4 tyX4_ok nmX4 rfl inA_X4 0 (by decide) q_241 rfl rfl rfl rfl (Nat.le_of_ble_eq_true rfl) rfl dX4_copyFrom_5 (fun gy7 egy8 => ?_)
  have hgy9 := up_s egy8
  refine z_aload_n C 0 dX4_copyFrom_8 rfl ?_
  refine z_aload_n C 1 dX4_copyFrom_9 rfl ?_
  have hgy10 := up_n egy8 v3 (by omega)
  refine z_get (v := .int (zI (vt))) C (by omega) hay4 hgy10 rfl inA_X4 1 (by decide) q_244 rfl rfl dX4_copyFrom_10 ?_
  refine z_put (fs' := [.int (zI (vl)), .int (zI (vt)), .ref (ad (a + 1))]) C (lt_A0 hN rfl) hay1 hgy9 tyX4 tyX4_ok nmX4 rfl inA_X4 1 (by decide) q_244 rfl rfl rfl rfl (Nat.le_of_ble_eq_true rfl) rfl dX4_copyFrom_13 (fun gy11 egy12 => ?_)
  have hgy13 := up_s egy12
  refine z_aload_n C 0 dX4_copyFrom_16 rfl ?_
  refine z_get (v := .ref (ad (a + 1))) C (lt_A0 hN rfl) hay1 hgy13 rfl inA_X4 2 (by decide) q_247 rfl rfl dX4_copyFrom_17 ?_
  refine z_aload_n C 1 dX4_copyFrom_20 rfl ?_
  have hgy14 := up_n egy12 hgy10 (by omega)
  refine z_get (v := .ref (ad (b + 1))) C (by omega) hay4 hgy14 rfl inA_X4 2 (by decide) q_247 rfl rfl dX4_copyFrom_21 ?_
  have hgy15 := up_n egy8 u4.1 (ne_o (i := a) (c := 1) (d := 0) rfl)
  have hgy16 := up_n egy12 hgy15 (ne_o (i := a) (c := 1) (d := 0) rfl)
  have hgy17 := up_n egy8 u4.2 (ne_o (i := a) (c := 2) (d := 0) rfl)
  have hgy18 := up_n egy12 hgy17 (ne_o (i := a) (c := 2) (d := 0) rfl)
  have hgy19 := up_n egy8 v4.1 (by omega)
  have hgy20 := up_n egy12 hgy19 (by omega)
  have hgy21 := up_n egy8 v4.2 (by omega)
  have hgy22 := up_n egy12 hgy21 (by omega)
  refine z_cV (As := [.ref (ad (b + 1))]) (rest := []) (ci := 5) C (c_X3_copyFrom l D A cs tt N ad _ (a + 1) (by omega) _ _ _ u2 ⟨hgy16, hgy18⟩ (b + 1) (by omega) _ _ _ v2 ⟨hgy20, hgy22⟩ (by omega)) (lt_A (c := 1) hN rfl) hay2 hgy16 rfl rfl mv_yX3_copyFrom q_639 hd_yX3_copyFrom (by decide) (Nat.le_of_ble_eq_true rfl) (by decide) dX4_copyFrom_24 rfl (kV0 fun gc hc => ?_)
  obtain ⟨hp, hf⟩ := hc
  have hgy23 := (hf (a) (ne_o (i := a) (c := 0) (d := 1) rfl) (ne_o (i := a) (c := 0) (d := 2) rfl)).trans hgy13
  exact z_vret C hr hlk dX4_copyFrom_27 (by decide) (by decide) ⟨rfl, rfl, rfl, ⟨_, _, _, _, _, v1, v2, hgy23, hp⟩, fun j j1 => by rw [hf _ (by omega) (by omega)]; rw [egy12, va_up_ne _ _ (by omega)]; rw [egy8, va_up_ne _ _ (by omega)]⟩

set_option maxRecDepth 100000 in
set_option maxHeartbeats 4000000 in
theorem c_X2_copyFrom (l : Launch) (D : va_G) (A : Nat → Prop) (cs : Nat → ClassId) (tt : Nat) (N : Nat) (ad : Nat → Nat) (g : Nat → va_E) (a : Nat) (hN : a + 4 ≤ N) (nz : Int) (ha : okNotes cs ad g a nz) (b : Nat) (hNb : b + 4 ≤ N) (mz : Int) (hb : okNotes cs ad g b mz) (hab : a + 4 ≤ b ∨ b + 4 ≤ a) : zM l yX2_copyFrom cX2_copyFrom 2 none ({ frames := 1, cells := 0, slots := 0, locals := 60 } : Room) D A cs tt N ad g [.ref (ad a), .ref (ad b)] (rV0 N ad fun g' => okNotes cs ad g' a mz ∧ ∀ j, j < a ∨ a + 4 ≤ j → g' j = g j) := by
  obtain ⟨nu, nv, nw, n1, n2, n3, n4, n5, n6⟩ := id ha
  have hay1 : zAt ad (a) (ad a) := rfl
  have hay2 : zAt ad (a + 1) (ad (a + 1)) := rfl
  have hay3 : zAt ad (a + 2) (ad (a + 2)) := rfl
  have hay4 : zAt ad (a + 3) (ad (a + 3)) := rfl
  obtain ⟨mu, mv, mw, m1, m2, m3, m4, m5, m6⟩ := id hb
  have hay5 : zAt ad (b) (ad b) := rfl
  have hay6 : zAt ad (b + 1) (ad (b + 1)) := rfl
  have hay7 : zAt ad (b + 2) (ad (b + 2)) := rfl
  have hay8 : zAt ad (b + 3) (ad (b + 3)) := rfl
  refine z_of (by decide) (Nat.le_of_ble_eq_true rfl) ?_
  intro p e s m below meth c C hr hlk hnm
  refine z_lv (lv' := [(0, .ref (ad a)), (1, .ref (ad b))]) [0, 1] rfl ?_
  refine z_aload_n C 0 dX2_copyFrom_0 rfl ?_
  refine z_aload_n C 1 dX2_copyFrom_1 rfl ?_
  refine z_get (v := .int (zI (mz))) C (by omega) hay5 m3 rfl inA_X2 0 (by decide) q_216 rfl rfl dX2_copyFrom_2 ?_
  refine z_put (fs' := [.int (zI (mz)), .ref (ad (a + 1)), .ref (ad (a + 2)), .ref (ad (a + 3))]) C (lt_A0 hN rfl) hay1 n3 tyX2 tyX2_ok nmX2 rfl inA_X2 0 (by decide) q_216 rfl rfl rfl rfl (Nat.le_of_ble_eq_true rfl) rfl dX2_copyFrom_5 (fun gy9 egy10 => ?_)
  have hgy11 := up_s egy10
  refine z_aload_n C 1 dX2_copyFrom_8 rfl ?_
  have hgy12 := up_n egy10 m3 (by omega)
  refine z_get (v := .ref (ad (b + 1))) C (by omega) hay5 hgy12 rfl inA_X2 1 (by decide) q_219 rfl rfl dX2_copyFrom_9 ?_
  refine z_iconst (z := 0) C dX2_copyFrom_12 rfl ?_
  refine z_aload_n C 0 dX2_copyFrom_13 rfl ?_
  refine z_get (v := .ref (ad (a + 1))) C (lt_A0 hN rfl) hay1 hgy11 rfl inA_X2 1 (by decide) q_219 rfl rfl dX2_copyFrom_14 ?_
  refine z_iconst (z := 0) C dX2_copyFrom_17 rfl ?_
  refine z_aload_n C 0 dX2_copyFrom_18 rfl ?_
  refine z_get (v := .ref (ad (a + 1))) C (lt_A0 hN rfl) hay1 hgy11 rfl inA_X2 1 (by decide) q_219 rfl rfl dX2_copyFrom_19 ?_
  have hgy13 := up_n egy10 n4 (ne_o (i := a) (c := 1) (d := 0) rfl)
  refine z_alen (z := 8) C (lt_A (c := 1) hN rfl) hay2 hgy13 1 rfl rfl dX2_copyFrom_22 ?_
  have hgy14 := up_n egy10 m4 (by omega)
  refine z_copyI C q_644 q_430 q_429 q_21 (by omega) (lt_A (c := 1) hN rfl) hay6 hay2 hgy14 hgy13 0 0 8 rfl rfl rfl (by decide) (by decide) (by decide) (by decide) (Nat.le_of_ble_eq_true rfl) dX2_copyFrom_23 (fun gy15 egy16 => ?_)
  have hgy17 := up_s egy16
  refine z_ext (r' := mu) (lt_A (c := 1) hN rfl) hgy17 (fun j hj => cZ_all hj) (fun gy18 egy19 => ?_)
  have hgy20 := up_s egy19
  refine z_aload_n C 1 dX2_copyFrom_26 rfl ?_
  have hgy21 := up_n egy16 hgy12 (by omega)
  have hgy22 := up_n egy19 hgy21 (by omega)
  refine z_get (v := .ref (ad (b + 2))) C (by omega) hay5 hgy22 rfl inA_X2 2 (by decide) q_221 rfl rfl dX2_copyFrom_27 ?_
  refine z_iconst (z := 0) C dX2_copyFrom_30 rfl ?_
  refine z_aload_n C 0 dX2_copyFrom_31 rfl ?_
  have hgy23 := up_n egy16 hgy11 (ne_o (i := a) (c := 0) (d := 1) rfl)
  have hgy24 := up_n egy19 hgy23 (ne_o (i := a) (c := 0) (d := 1) rfl)
  refine z_get (v := .ref (ad (a + 2))) C (lt_A0 hN rfl) hay1 hgy24 rfl inA_X2 2 (by decide) q_221 rfl rfl dX2_copyFrom_32 ?_
  refine z_iconst (z := 0) C dX2_copyFrom_35 rfl ?_
  refine z_aload_n C 0 dX2_copyFrom_36 rfl ?_
  refine z_get (v := .ref (ad (a + 2))) C (lt_A0 hN rfl) hay1 hgy24 rfl inA_X2 2 (by decide) q_221 rfl rfl dX2_copyFrom_37 ?_
  have hgy25 := up_n egy10 n5 (ne_o (i := a) (c := 2) (d := 0) rfl)
  have hgy26 := up_n egy16 hgy25 (ne_o (i := a) (c := 2) (d := 1) rfl)
  have hgy27 := up_n egy19 hgy26 (ne_o (i := a) (c := 2) (d := 1) rfl)
  refine z_alen (z := 8) C (lt_A (c := 2) hN rfl) hay3 hgy27 1 rfl rfl dX2_copyFrom_40 ?_
  have hgy28 := up_n egy10 m5 (by omega)
  have hgy29 := up_n egy16 hgy28 (by omega)
  have hgy30 := up_n egy19 hgy29 (by omega)
  refine z_copyI C q_644 q_430 q_429 q_21 (by omega) (lt_A (c := 2) hN rfl) hay7 hay3 hgy30 hgy27 0 0 8 rfl rfl rfl (by decide) (by decide) (by decide) (by decide) (Nat.le_of_ble_eq_true rfl) dX2_copyFrom_41 (fun gy31 egy32 => ?_)
  have hgy33 := up_s egy32
  refine z_ext (r' := mv) (lt_A (c := 2) hN rfl) hgy33 (fun j hj => cZ_all hj) (fun gy34 egy35 => ?_)
  have hgy36 := up_s egy35
  refine z_aload_n C 1 dX2_copyFrom_44 rfl ?_
  have hgy37 := up_n egy32 hgy22 (by omega)
  have hgy38 := up_n egy35 hgy37 (by omega)
  refine z_get (v := .ref (ad (b + 3))) C (by omega) hay5 hgy38 rfl inA_X2 3 (by decide) q_223 rfl rfl dX2_copyFrom_45 ?_
  refine z_iconst (z := 0) C dX2_copyFrom_48 rfl ?_
  refine z_aload_n C 0 dX2_copyFrom_49 rfl ?_
  have hgy39 := up_n egy32 hgy24 (ne_o (i := a) (c := 0) (d := 2) rfl)
  have hgy40 := up_n egy35 hgy39 (ne_o (i := a) (c := 0) (d := 2) rfl)
  refine z_get (v := .ref (ad (a + 3))) C (lt_A0 hN rfl) hay1 hgy40 rfl inA_X2 3 (by decide) q_223 rfl rfl dX2_copyFrom_50 ?_
  refine z_iconst (z := 0) C dX2_copyFrom_53 rfl ?_
  refine z_aload_n C 0 dX2_copyFrom_54 rfl ?_
  refine z_get (v := .ref (ad (a + 3))) C (lt_A0 hN rfl) hay1 hgy40 rfl inA_X2 3 (by decide) q_223 rfl rfl dX2_copyFrom_55 ?_
  have hgy41 := up_n egy10 n6 (ne_o (i := a) (c := 3) (d := 0) rfl)
  have hgy42 := up_n egy16 hgy41 (ne_o (i := a) (c := 3) (d := 1) rfl)
  have hgy43 := up_n egy19 hgy42 (ne_o (i := a) (c := 3) (d := 1) rfl)
  have hgy44 := up_n egy32 hgy43 (ne_o (i := a) (c := 3) (d := 2) rfl)
  have hgy45 := up_n egy35 hgy44 (ne_o (i := a) (c := 3) (d := 2) rfl)
  refine z_alen (z := 8) C (lt_A (c := 3) hN rfl) hay4 hgy45 1 rfl rfl dX2_copyFrom_58 ?_
  have hgy46 := up_n egy10 m6 (by omega)
  have hgy47 := up_n egy16 hgy46 (by omega)
  have hgy48 := up_n egy19 hgy47 (by omega)
  have hgy49 := up_n egy32 hgy48 (by omega)
  have hgy50 := up_n egy35 hgy49 (by omega)
  refine z_copyI C q_644 q_430 q_429 q_21 (by omega) (lt_A (c := 3) hN rfl) hay8 hay4 hgy50 hgy45 0 0 8 rfl rfl rfl (by decide) (by decide) (by decide) (by decide) (Nat.le_of_ble_eq_true rfl) dX2_copyFrom_59 (fun gy51 egy52 => ?_)
  have hgy53 := up_s egy52
  refine z_ext (r' := mw) (lt_A (c := 3) hN rfl) hgy53 (fun j hj => cZ_all hj) (fun gy54 egy55 => ?_)
  have hgy56 := up_s egy55
  have hgy57 := up_n egy52 hgy40 (ne_o (i := a) (c := 0) (d := 3) rfl)
  have hgy58 := up_n egy55 hgy57 (ne_o (i := a) (c := 0) (d := 3) rfl)
  have hgy59 := up_n egy32 hgy20 (ne_o (i := a) (c := 1) (d := 2) rfl)
  have hgy60 := up_n egy35 hgy59 (ne_o (i := a) (c := 1) (d := 2) rfl)
  have hgy61 := up_n egy52 hgy60 (ne_o (i := a) (c := 1) (d := 3) rfl)
  have hgy62 := up_n egy55 hgy61 (ne_o (i := a) (c := 1) (d := 3) rfl)
  have hgy63 := up_n egy52 hgy36 (ne_o (i := a) (c := 2) (d := 3) rfl)
  have hgy64 := up_n egy55 hgy63 (ne_o (i := a) (c := 2) (d := 3) rfl)
  exact z_vret C hr hlk dX2_copyFrom_62 (by decide) (by decide) ⟨rfl, rfl, rfl, ⟨_, _, _, m1, m2, hgy58, hgy62, hgy64, hgy56⟩, fun j j1 => by rw [egy55, va_up_ne _ _ (by omega)]; rw [egy52, va_up_ne _ _ (by omega)]; rw [egy35, va_up_ne _ _ (by omega)]; rw [egy32, va_up_ne _ _ (by omega)]; rw [egy19, va_up_ne _ _ (by omega)]; rw [egy16, va_up_ne _ _ (by omega)]; rw [egy10, va_up_ne _ _ (by omega)]⟩

set_option maxRecDepth 100000 in
set_option maxHeartbeats 4000000 in
theorem c_X2_add (l : Launch) (D : va_G) (A : Nat → Prop) (cs : Nat → ClassId) (tt : Nat) (N : Nat) (ad : Nat → Nat) (g : Nat → va_E) (a : Nat) (hN : a + 4 ≤ N) (nz : Int) (ha : okNotes cs ad g a nz) (z : Int) (hzs : 0 ≤ z ∧ z ≤ 3) (z1 : Int) (hz1 : 0 ≤ z1 ∧ z1 ≤ 48) (z2 : Int) (hz2 : -2147483648 ≤ z2 ∧ z2 ≤ 2147483647) : zM l yX2_add cX2_add 4 none ({ frames := 1, cells := 0, slots := 0, locals := 60 } : Room) D A cs tt N ad g [.ref (ad a), .int (zI (z)), .int (zI (z1)), .int (zI (z2))] (rV0 N ad fun g' => okNotes cs ad g' a (if nz < 8 then nz + 1 else nz) ∧ ∀ j, j < a ∨ a + 4 ≤ j → g' j = g j) := by
  obtain ⟨nu, nv, nw, n1, n2, n3, n4, n5, n6⟩ := id ha
  have hay1 : zAt ad (a) (ad a) := rfl
  have hay2 : zAt ad (a + 1) (ad (a + 1)) := rfl
  have hay3 : zAt ad (a + 2) (ad (a + 2)) := rfl
  have hay4 : zAt ad (a + 3) (ad (a + 3)) := rfl
  refine z_of (by decide) (Nat.le_of_ble_eq_true rfl) ?_
  intro p e s m below meth c C hr hlk hnm
  refine z_lv (lv' := [(0, .ref (ad a)), (1, .int (zI (z))), (2, .int (zI (z1))), (3, .int (zI (z2)))]) [0, 1, 2, 3] rfl ?_
  refine z_aload_n C 0 dX2_add_0 rfl ?_
  refine z_get (v := .int (zI (nz))) C (lt_A0 hN rfl) hay1 n3 rfl inA_X2 0 (by decide) q_216 rfl rfl dX2_add_1 ?_
  refine z_bipush (z := 8) C dX2_add_4 (by decide) ?_
  refine z_icmp_ge (tgt := 49) C dX2_add_6 (by decide) (by omega) (by omega) (fun hby5 => ?_) (fun hby5 => ?_)
  · exact z_vret C hr hlk dX2_add_49 (by decide) (by decide) ⟨rfl, rfl, rfl, by rw [if_neg (by omega)]; exact ha, fun j j1 => by rfl⟩
  · refine z_aload_n C 0 dX2_add_9 rfl ?_
    refine z_get (v := .ref (ad (a + 1))) C (lt_A0 hN rfl) hay1 n3 rfl inA_X2 1 (by decide) q_219 rfl rfl dX2_add_10 ?_
    refine z_aload_n C 0 dX2_add_13 rfl ?_
    refine z_get (v := .int (zI (nz))) C (lt_A0 hN rfl) hay1 n3 rfl inA_X2 0 (by decide) q_216 rfl rfl dX2_add_14 ?_
    refine z_iload_n C 1 dX2_add_17 rfl ?_
    refine z_iast C (lt_A (c := 1) hN rfl) hay2 n4 ((nz).toNat) (by omega) (by omega) (by decide) dX2_add_18 (fun gy6 egy7 => ?_)
    have hgy8 := up_s egy7
    refine z_aload_n C 0 dX2_add_19 rfl ?_
    have hgy9 := up_n egy7 n3 (ne_o (i := a) (c := 0) (d := 1) rfl)
    refine z_get (v := .ref (ad (a + 2))) C (lt_A0 hN rfl) hay1 hgy9 rfl inA_X2 2 (by decide) q_221 rfl rfl dX2_add_20 ?_
    refine z_aload_n C 0 dX2_add_23 rfl ?_
    refine z_get (v := .int (zI (nz))) C (lt_A0 hN rfl) hay1 hgy9 rfl inA_X2 0 (by decide) q_216 rfl rfl dX2_add_24 ?_
    refine z_iload_n C 2 dX2_add_27 rfl ?_
    have hgy10 := up_n egy7 n5 (ne_o (i := a) (c := 2) (d := 1) rfl)
    refine z_iast C (lt_A (c := 2) hN rfl) hay3 hgy10 ((nz).toNat) (by omega) (by omega) (by decide) dX2_add_28 (fun gy11 egy12 => ?_)
    have hgy13 := up_s egy12
    refine z_aload_n C 0 dX2_add_29 rfl ?_
    have hgy14 := up_n egy12 hgy9 (ne_o (i := a) (c := 0) (d := 2) rfl)
    refine z_get (v := .ref (ad (a + 3))) C (lt_A0 hN rfl) hay1 hgy14 rfl inA_X2 3 (by decide) q_223 rfl rfl dX2_add_30 ?_
    refine z_aload_n C 0 dX2_add_33 rfl ?_
    refine z_get (v := .int (zI (nz))) C (lt_A0 hN rfl) hay1 hgy14 rfl inA_X2 0 (by decide) q_216 rfl rfl dX2_add_34 ?_
    refine z_iload_n C 3 dX2_add_37 rfl ?_
    have hgy15 := up_n egy7 n6 (ne_o (i := a) (c := 3) (d := 1) rfl)
    have hgy16 := up_n egy12 hgy15 (ne_o (i := a) (c := 3) (d := 2) rfl)
    refine z_iast C (lt_A (c := 3) hN rfl) hay4 hgy16 ((nz).toNat) (by omega) (by omega) (by decide) dX2_add_38 (fun gy17 egy18 => ?_)
    have hgy19 := up_s egy18
    refine z_aload_n C 0 dX2_add_39 rfl ?_
    refine z_dup C dX2_add_40 rfl ?_
    have hgy20 := up_n egy18 hgy14 (ne_o (i := a) (c := 0) (d := 3) rfl)
    refine z_get (v := .int (zI (nz))) C (lt_A0 hN rfl) hay1 hgy20 rfl inA_X2 0 (by decide) q_216 rfl rfl dX2_add_41 ?_
    refine z_iconst (z := 1) C dX2_add_44 rfl ?_
    refine z_iadd C dX2_add_45 ?_
    refine z_put (fs' := [.int (zI (nz + 1)), .ref (ad (a + 1)), .ref (ad (a + 2)), .ref (ad (a + 3))]) C (lt_A0 hN rfl) hay1 hgy20 tyX2 tyX2_ok nmX2 rfl inA_X2 0 (by decide) q_216 rfl rfl rfl rfl (Nat.le_of_ble_eq_true rfl) rfl dX2_add_46 (fun gy21 egy22 => ?_)
    have hgy23 := up_s egy22
    have hgy24 := up_n egy12 hgy8 (ne_o (i := a) (c := 1) (d := 2) rfl)
    have hgy25 := up_n egy18 hgy24 (ne_o (i := a) (c := 1) (d := 3) rfl)
    have hgy26 := up_n egy22 hgy25 (ne_o (i := a) (c := 1) (d := 0) rfl)
    have hgy27 := up_n egy18 hgy13 (ne_o (i := a) (c := 2) (d := 3) rfl)
    have hgy28 := up_n egy22 hgy27 (ne_o (i := a) (c := 2) (d := 0) rfl)
    have hgy29 := up_n egy22 hgy19 (ne_o (i := a) (c := 3) (d := 0) rfl)
    have hu : ∀ k, k < 8 → (0 ≤ (uZ nu (nz).toNat (z)) k ∧ (uZ nu (nz).toNat (z)) k ≤ 3) ∧ 0 ≤ (uZ nv (nz).toNat (z1)) k ∧ (uZ nv (nz).toNat (z1)) k ≤ 48 := fun k hk => by
        by_cases e : k = (nz).toNat
        · subst e; rw [uZ_s, uZ_s]; exact ⟨hzs, hz1⟩
        · rw [uZ_n _ _ e, uZ_n _ _ e]; exact n2 k hk
    exact z_vret C hr hlk dX2_add_49 (by decide) (by decide) ⟨rfl, rfl, rfl, by rw [if_pos (by omega)]; exact ⟨_, _, _, by omega, hu, hgy23, hgy26, hgy28, hgy29⟩, fun j j1 => by rw [egy22, va_up_ne _ _ (by omega)]; rw [egy18, va_up_ne _ _ (by omega)]; rw [egy12, va_up_ne _ _ (by omega)]; rw [egy7, va_up_ne _ _ (by omega)]⟩

set_option maxRecDepth 100000 in
set_option maxHeartbeats 4000000 in
theorem c_X2_slopes (l : Launch) (D : va_G) (A : Nat → Prop) (cs : Nat → ClassId) (tt : Nat) (N : Nat) (ad : Nat → Nat) (g : Nat → va_E) (a : Nat) (hN : a + 4 ≤ N) (nz : Int) (ha : okNotes cs ad g a nz) : zM l yX2_slopes cX2_slopes 3 (some .int) ({ frames := 1, cells := 0, slots := 0, locals := 60 } : Room) D A cs tt N ad g [.ref (ad a)] (rI0 N ad fun r g' => (-2147483648 ≤ r ∧ r ≤ 2147483647) ∧ g = g') := by
  obtain ⟨nu, nv, nw, n1, n2, n3, n4, n5, n6⟩ := id ha
  have hay1 : zAt ad (a) (ad a) := rfl
  have hay2 : zAt ad (a + 1) (ad (a + 1)) := rfl
  have hay3 : zAt ad (a + 2) (ad (a + 2)) := rfl
  have hay4 : zAt ad (a + 3) (ad (a + 3)) := rfl
  refine z_of (by decide) (Nat.le_of_ble_eq_true rfl) ?_
  intro p e s m below meth c C hr hlk hnm
  refine z_lv (lv' := [(0, .ref (ad a))]) [0] rfl ?_
  have lp : ∀ (n9 : Nat) (al : Int) (i : Int) (g1 : Nat → va_E), (nz - i).toNat = n9 → (g1 = g) → (-2147483648 ≤ al ∧ al ≤ 2147483647) → (0 ≤ i ∧ i ≤ 8) → zV p l e ({ frames := 1, cells := 0, slots := 0, locals := 60 } : Room) s m ([.ref (ad a)] : List Value).toArray below meth c (MQ below (zPost D A (rI0 N ad fun r g' => (-2147483648 ≤ r ∧ r ≤ 2147483647) ∧ g = g')) ([.ref (ad a)] : List Value).toArray s ({ frames := 1, cells := 0, slots := 0, locals := 60 } : Room).cells ({ frames := 1, cells := 0, slots := 0, locals := 60 } : Room).slots A) D A 3 (N) ad g1 (0) (0) 4 [(2, .int (zI (i))), (1, .int (zI (al))), (0, .ref (ad a))] [] := by
    intro n9
    induction n9 using Nat.strongRecOn with
    | ind n9 ih =>
      intro al i g1 hm9 hg1 hv0 hv1
      subst hg1
      obtain ⟨nu, nv, nw, n1, n2, n3, n4, n5, n6⟩ := id ha
      have hay5 : zAt ad (a) (ad a) := rfl
      have hay6 : zAt ad (a + 1) (ad (a + 1)) := rfl
      have hay7 : zAt ad (a + 2) (ad (a + 2)) := rfl
      have hay8 : zAt ad (a + 3) (ad (a + 3)) := rfl
      refine z_iload_n C 0 dX2_slopes_4 rfl ?_
      refine z_aload_n C 2 dX2_slopes_5 rfl ?_
      refine z_get (v := .int (zI (nz))) C (lt_A0 hN rfl) hay5 n3 rfl inA_X2 0 (by decide) q_216 rfl rfl dX2_slopes_6 ?_
      refine z_icmp_ge (tgt := 29) C dX2_slopes_9 (by decide) (by omega) (by omega) (fun hby9 => ?_) (fun hby9 => ?_)
      · refine z_iload_n C 1 dX2_slopes_29 rfl ?_
        exact z_iret C hr hlk dX2_slopes_30 (by decide) (by decide) ⟨al, rfl, rfl, rfl, by omega, rfl⟩
      · refine z_iload_n C 1 dX2_slopes_12 rfl ?_
        refine z_iconst (z := 1) C dX2_slopes_13 rfl ?_
        refine z_aload_n C 2 dX2_slopes_14 rfl ?_
        refine z_get (v := .ref (ad (a + 1))) C (lt_A0 hN rfl) hay5 n3 rfl inA_X2 1 (by decide) q_219 rfl rfl dX2_slopes_15 ?_
        refine z_iload_n C 0 dX2_slopes_18 rfl ?_
        refine z_iald C (lt_A (c := 1) hN rfl) hay6 n4 ((i).toNat) (by omega) (by omega) (by decide) dX2_slopes_19 ?_
        have hrfy10 := n2 ((i).toNat) (by omega)
        obtain ⟨xy11, exy12, hxy13⟩ := zI_of (zI (1) <<< (zI (nu ((i).toNat)) &&& 31))
        refine z_ishl (z := xy11) C dX2_slopes_20 exy12 ?_
        obtain ⟨xy14, exy15, hxy16⟩ := zI_of (zI (al) ||| zI (xy11))
        refine z_ior (z := xy14) C dX2_slopes_21 exy15 ?_
        refine z_istore_n (lv' := [(1, .int (zI (xy14))), (2, .int (zI (i))), (0, .ref (ad a))]) C dX2_slopes_22 rfl (by decide) rfl ?_
        refine z_iinc (z := i + 1) (lv' := [(2, .int (zI (i + 1))), (1, .int (zI (xy14))), (0, .ref (ad a))]) (j := 1) C dX2_slopes_23 rfl rfl (by decide) rfl ?_
        refine z_goto (tgt := 4) C dX2_slopes_26 (by decide) ?_
        refine z_lv (lv' := [(2, .int (zI (i + 1))), (1, .int (zI (xy14))), (0, .ref (ad a))]) [0, 1, 2] rfl ?_
        exact ih _ (by omega) (xy14) (i + 1) _ rfl rfl (by omega) (by omega)
  refine z_iconst (z := 0) C dX2_slopes_0 rfl ?_
  refine z_istore_n (lv' := [(1, .int (zI (0))), (0, .ref (ad a))]) C dX2_slopes_1 rfl (by decide) rfl ?_
  refine z_iconst (z := 0) C dX2_slopes_2 rfl ?_
  refine z_istore_n (lv' := [(2, .int (zI (0))), (1, .int (zI (0))), (0, .ref (ad a))]) C dX2_slopes_3 rfl (by decide) rfl ?_
  refine z_lv (lv' := [(2, .int (zI (0))), (1, .int (zI (0))), (0, .ref (ad a))]) [0, 1, 2] rfl ?_
  exact lp _ (0) (0) _ rfl rfl (by omega) (by omega)

set_option maxRecDepth 100000 in
set_option maxHeartbeats 4000000 in
theorem c_X2_lastHour (l : Launch) (D : va_G) (A : Nat → Prop) (cs : Nat → ClassId) (tt : Nat) (N : Nat) (ad : Nat → Nat) (g : Nat → va_E) (a : Nat) (hN : a + 4 ≤ N) (nz : Int) (ha : okNotes cs ad g a nz) : zM l yX2_lastHour cX2_lastHour 3 (some .int) ({ frames := 2, cells := 0, slots := 0, locals := 120 } : Room) D A cs tt N ad g [.ref (ad a)] (rI0 N ad fun r g' => (-1 ≤ r ∧ r ≤ 48) ∧ g = g') := by
  obtain ⟨nu, nv, nw, n1, n2, n3, n4, n5, n6⟩ := id ha
  have hay1 : zAt ad (a) (ad a) := rfl
  have hay2 : zAt ad (a + 1) (ad (a + 1)) := rfl
  have hay3 : zAt ad (a + 2) (ad (a + 2)) := rfl
  have hay4 : zAt ad (a + 3) (ad (a + 3)) := rfl
  refine z_of (by decide) (Nat.le_of_ble_eq_true rfl) ?_
  intro p e s m below meth c C hr hlk hnm
  refine z_lv (lv' := [(0, .ref (ad a))]) [0] rfl ?_
  have lp : ∀ (n9 : Nat) (al : Int) (i : Int) (g1 : Nat → va_E), (nz - i).toNat = n9 → (g1 = g) → (-1 ≤ al ∧ al ≤ 48) → (0 ≤ i ∧ i ≤ 8) → zV p l e ({ frames := 2, cells := 0, slots := 0, locals := 120 } : Room) s m ([.ref (ad a)] : List Value).toArray below meth c (MQ below (zPost D A (rI0 N ad fun r g' => (-1 ≤ r ∧ r ≤ 48) ∧ g = g')) ([.ref (ad a)] : List Value).toArray s ({ frames := 2, cells := 0, slots := 0, locals := 120 } : Room).cells ({ frames := 2, cells := 0, slots := 0, locals := 120 } : Room).slots A) D A 3 (N) ad g1 (0) (0) 4 [(2, .int (zI (i))), (1, .int (zI (al))), (0, .ref (ad a))] [] := by
    intro n9
    induction n9 using Nat.strongRecOn with
    | ind n9 ih =>
      intro al i g1 hm9 hg1 hv0 hv1
      subst hg1
      obtain ⟨nu, nv, nw, n1, n2, n3, n4, n5, n6⟩ := id ha
      have hay5 : zAt ad (a) (ad a) := rfl
      have hay6 : zAt ad (a + 1) (ad (a + 1)) := rfl
      have hay7 : zAt ad (a + 2) (ad (a + 2)) := rfl
      have hay8 : zAt ad (a + 3) (ad (a + 3)) := rfl
      refine z_iload_n C 0 dX2_lastHour_4 rfl ?_
      refine z_aload_n C 2 dX2_lastHour_5 rfl ?_
      refine z_get (v := .int (zI (nz))) C (lt_A0 hN rfl) hay5 n3 rfl inA_X2 0 (by decide) q_216 rfl rfl dX2_lastHour_6 ?_
      refine z_icmp_ge (tgt := 29) C dX2_lastHour_9 (by decide) (by omega) (by omega) (fun hby9 => ?_) (fun hby9 => ?_)
      · refine z_iload_n C 1 dX2_lastHour_29 rfl ?_
        exact z_iret C hr hlk dX2_lastHour_30 (by decide) (by decide) ⟨al, rfl, rfl, rfl, by omega, rfl⟩
      · refine z_iload_n C 1 dX2_lastHour_12 rfl ?_
        refine z_aload_n C 2 dX2_lastHour_13 rfl ?_
        refine z_get (v := .ref (ad (a + 2))) C (lt_A0 hN rfl) hay5 n3 rfl inA_X2 2 (by decide) q_221 rfl rfl dX2_lastHour_14 ?_
        refine z_iload_n C 0 dX2_lastHour_17 rfl ?_
        refine z_iald C (lt_A (c := 2) hN rfl) hay7 n5 ((i).toNat) (by omega) (by omega) (by decide) dX2_lastHour_18 ?_
        have hrfy10 := n2 ((i).toNat) (by omega)
        refine z_mmax C q_1367 q_470 q_20 q_471 (by omega) (by omega) (by decide) (Nat.le_of_ble_eq_true rfl) (by decide) (by decide) dX2_lastHour_19 ?_
        obtain ⟨xy11, exy12, hxy13⟩ := mm_max (al) (nv ((i).toNat))
        rw [exy12]
        refine z_istore_n (lv' := [(1, .int (zI (xy11))), (2, .int (zI (i))), (0, .ref (ad a))]) C dX2_lastHour_22 rfl (by decide) rfl ?_
        refine z_iinc (z := i + 1) (lv' := [(2, .int (zI (i + 1))), (1, .int (zI (xy11))), (0, .ref (ad a))]) (j := 1) C dX2_lastHour_23 rfl rfl (by decide) rfl ?_
        refine z_goto (tgt := 4) C dX2_lastHour_26 (by decide) ?_
        refine z_lv (lv' := [(2, .int (zI (i + 1))), (1, .int (zI (xy11))), (0, .ref (ad a))]) [0, 1, 2] rfl ?_
        exact ih _ (by omega) (xy11) (i + 1) _ rfl rfl (by omega) (by omega)
  refine z_iconst (z := -1) C dX2_lastHour_0 rfl ?_
  refine z_istore_n (lv' := [(1, .int (zI (-1))), (0, .ref (ad a))]) C dX2_lastHour_1 rfl (by decide) rfl ?_
  refine z_iconst (z := 0) C dX2_lastHour_2 rfl ?_
  refine z_istore_n (lv' := [(2, .int (zI (0))), (1, .int (zI (-1))), (0, .ref (ad a))]) C dX2_lastHour_3 rfl (by decide) rfl ?_
  refine z_lv (lv' := [(2, .int (zI (0))), (1, .int (zI (-1))), (0, .ref (ad a))]) [0, 1, 2] rfl ?_
  exact lp _ (-1) (0) _ rfl rfl (by omega) (by omega)

set_option maxRecDepth 100000 in
set_option maxHeartbeats 4000000 in
theorem c_X6_copyFrom (l : Launch) (D : va_G) (A : Nat → Prop) (cs : Nat → ClassId) (tt : Nat) (N : Nat) (ad : Nat → Nat) (g : Nat → va_E) (i : Nat) (hN : i + 436 ≤ N) (ac nz : Int) (hS : okState cs ad g i ac nz) (d : Nat) (hNd : d + 436 ≤ N) (ac2 nz2 : Int) (hS2 : okState cs ad g d ac2 nz2) (hid : i + 436 ≤ d ∨ d + 436 ≤ i) : zM l yX6_copyFrom cX6_copyFrom 3 none ({ frames := 3, cells := 0, slots := 0, locals := 180 } : Room) D A cs tt N ad g [.ref (ad i), .ref (ad d)] (rV0 N ad fun g' => okState cs ad g' i ac2 nz2 ∧ ∀ j, j < i ∨ i + 436 ≤ j → g' j = g j) := by
  obtain ⟨q1, q2, q3, ⟨qb, qf, q4, q5⟩, q6, ⟨qc, q7, q8⟩, q9, q10, qr, q11⟩ := id hS
  have hay1 : zAt ad (i) (ad i) := rfl
  have hay2 : zAt ad (i + 11) (ad (i + 11)) := rfl
  have hay3 : zAt ad (i + 12) (ad (i + 12)) := rfl
  have hay4 : zAt ad (i + 17) (ad (i + 17)) := rfl
  have hay5 : zAt ad (i + 1) (ad (i + 1)) := rfl
  have hay6 : zAt ad (i + 13) (ad (i + 13)) := rfl
  obtain ⟨e1, e2, e3, ⟨eb, ef, e4, e5⟩, e6, ⟨ec, e7, e8⟩, e9, e10, er, e11⟩ := id hS2
  have hay7 : zAt ad (d) (ad d) := rfl
  have hay8 : zAt ad (d + 11) (ad (d + 11)) := rfl
  have hay9 : zAt ad (d + 12) (ad (d + 12)) := rfl
  have hay10 : zAt ad (d + 17) (ad (d + 17)) := rfl
  have hay11 : zAt ad (d + 1) (ad (d + 1)) := rfl
  have hay12 : zAt ad (d + 13) (ad (d + 13)) := rfl
  refine z_of (by decide) (Nat.le_of_ble_eq_true rfl) ?_
  intro p e s m below meth c C hr hlk hnm
  refine z_lv (lv' := [(0, .ref (ad i)), (1, .ref (ad d))]) [0, 1] rfl ?_
  obtain ⟨tk, zk, ok, rk, hzk, htk, hwk⟩ := id q3
  refine z_aload_n C 0 dX6_copyFrom_0 rfl ?_
  refine z_get (v := .ref (ad (i + 1))) C (lt_A0 hN rfl) hay1 q1 rfl inA_X6 0 (by decide) q_257 rfl rfl dX6_copyFrom_1 ?_
  refine z_aload_n C 1 dX6_copyFrom_4 rfl ?_
  refine z_get (v := .ref (ad (d + 1))) C (by omega) hay7 e1 rfl inA_X6 0 (by decide) q_257 rfl rfl dX6_copyFrom_5 ?_
  refine z_cV (As := [.ref (ad (d + 1))]) (rest := []) (ci := 10) C (c_X8_copyFrom l D A cs tt N ad _ (i + 1) (by omega) q3 (d + 1) (by omega) e3 (by omega)) (lt_A (c := 1) hN rfl) hay5 hwk.1 rfl rfl mv_yX8_copyFrom q_420 hd_yX8_copyFrom (by decide) (Nat.le_of_ble_eq_true rfl) (by decide) dX6_copyFrom_8 rfl (kV0 fun gc hc => ?_)
  obtain ⟨⟨t1, z1, o1, r1, hz1, ht1, hn1, hw1⟩, hf1⟩ := hc
  have hs2 : okState cs ad gc i ac nz := okState.now hS hf1 ⟨_, _, _, _, hz1, ht1, hw1⟩
  refine z_aload_n C 0 dX6_copyFrom_11 rfl ?_
  refine z_aload_n C 1 dX6_copyFrom_12 rfl ?_
  have hgy13 := (hf1 (d) (by omega)).trans e1
  refine z_get (v := .int (zI (ac2))) C (by omega) hay7 hgy13 rfl inA_X6 2 (by decide) q_260 rfl rfl dX6_copyFrom_13 ?_
  have hgy14 := (hf1 (i) (by omega)).trans q1
  refine z_put (fs' := [.ref (ad (i + 1)), .ref (ad (i + 11)), .int (zI (ac2)), .ref (ad (i + 12)), .ref (ad (i + 13)), .ref (ad (i + 17))]) C (lt_A0 hN rfl) hay1 hgy14 tyX6 tyX6_ok nmX6 rfl inA_X6 2 (by decide) q_260 rfl rfl rfl rfl (Nat.le_of_ble_eq_true rfl) rfl dX6_copyFrom_16 (fun gy15 egy16 => ?_)
  have hgy17 := up_s egy16
  refine z_iconst (z := 0) C dX6_copyFrom_19 rfl ?_
  refine z_istore_n (lv' := [(2, .int (zI (0))), (0, .ref (ad i)), (1, .ref (ad d))]) C dX6_copyFrom_20 rfl (by decide) rfl ?_
  have hs3 : okState cs ad gy15 i ac2 nz := okState.head (by omega) hs2 (fun j j1 => by rw [egy16, va_up_ne _ _ (by omega)]) hgy17
  have hfr : ∀ j, j < i ∨ i + 436 ≤ j → gy15 j = g j := fun j j1 => by rw [egy16, va_up_ne _ _ (by omega)]; rw [hf1 _ (by omega)]
  have lp2 : ∀ (n9 : Nat) (k : Int) (g1 : Nat → va_E), (6 - k).toNat = n9 → (okState cs ad g1 i ac2 nz) → (∀ j, j < i ∨ i + 436 ≤ j → g1 j = g j) → (0 ≤ k ∧ k ≤ 6) → zV p l e ({ frames := 3, cells := 0, slots := 0, locals := 180 } : Room) s m ([.ref (ad i), .ref (ad d)] : List Value).toArray below meth c (MQ below (zPost D A (rV0 N ad fun g' => okState cs ad g' i ac2 nz2 ∧ ∀ j, j < i ∨ i + 436 ≤ j → g' j = g j)) ([.ref (ad i), .ref (ad d)] : List Value).toArray s ({ frames := 3, cells := 0, slots := 0, locals := 180 } : Room).cells ({ frames := 3, cells := 0, slots := 0, locals := 180 } : Room).slots A) D A 3 (N) ad g1 (0) (0) 61 [(2, .int (zI (k))), (0, .ref (ad i)), (1, .ref (ad d))] [] := by
    intro n9
    induction n9 using Nat.strongRecOn with
    | ind n9 ih_lp2 =>
      intro k g1 hm9 f1 f3 f9
      have f4 : okState cs ad g1 d ac2 nz2 := hS2.mv (fun _ _ _ => rfl) (fun j j1 j2 => f3 j (by omega))
      obtain ⟨q1, q2, q3, ⟨qb, qf, q4, q5⟩, q6, ⟨qc, q7, q8⟩, q9, q10, qr, q11⟩ := id f1
      have hay18 : zAt ad (i) (ad i) := rfl
      have hay19 : zAt ad (i + 11) (ad (i + 11)) := rfl
      have hay20 : zAt ad (i + 12) (ad (i + 12)) := rfl
      have hay21 : zAt ad (i + 17) (ad (i + 17)) := rfl
      have hay22 : zAt ad (i + 1) (ad (i + 1)) := rfl
      have hay23 : zAt ad (i + 13) (ad (i + 13)) := rfl
      obtain ⟨e1, e2, e3, ⟨eb, ef, e4, e5⟩, e6, ⟨ec, e7, e8⟩, e9, e10, er, e11⟩ := id f4
      have hay24 : zAt ad (d) (ad d) := rfl
      have hay25 : zAt ad (d + 11) (ad (d + 11)) := rfl
      have hay26 : zAt ad (d + 12) (ad (d + 12)) := rfl
      have hay27 : zAt ad (d + 17) (ad (d + 17)) := rfl
      have hay28 : zAt ad (d + 1) (ad (d + 1)) := rfl
      have hay29 : zAt ad (d + 13) (ad (d + 13)) := rfl
      refine z_iload_n C 0 dX6_copyFrom_61 rfl ?_
      refine z_aload_n C 1 dX6_copyFrom_62 rfl ?_
      refine z_get (v := .ref (ad (i + 12))) C (lt_A0 hN rfl) hay18 q1 rfl inA_X6 3 (by decide) q_262 rfl rfl dX6_copyFrom_63 ?_
      refine z_alen (z := 6) C (lt_A (c := 12) hN rfl) hay20 q7 5 rfl rfl dX6_copyFrom_66 ?_
      refine z_icmp_ge (tgt := 91) C dX6_copyFrom_67 (by decide) (by omega) (by omega) (fun hb1 => ?_) (fun hb1 => ?_)
      · refine z_aload_n C 1 dX6_copyFrom_91 rfl ?_
        refine z_get (v := .ref (ad (i + 13))) C (lt_A0 hN rfl) hay18 q1 rfl inA_X6 4 (by decide) q_264 rfl rfl dX6_copyFrom_92 ?_
        refine z_aload_n C 2 dX6_copyFrom_95 rfl ?_
        refine z_get (v := .ref (ad (d + 13))) C (by omega) hay24 e1 rfl inA_X6 4 (by decide) q_264 rfl rfl dX6_copyFrom_96 ?_
        obtain ⟨-, -, -, -, -, -, -, n10, -⟩ := id f1
        obtain ⟨-, -, -, -, -, -, -, m10, -⟩ := id f4
        obtain ⟨nu, nv, nw, nn1, nn2, nn3⟩ := id n10
        refine z_cV (As := [.ref (ad (d + 13))]) (rest := []) (ci := 4) C (c_X2_copyFrom l D A cs tt N ad _ (i + 13) (by omega) _ n10 (d + 13) (by omega) _ m10 (by omega)) (lt_A (c := 13) hN rfl) hay23 nn3.1 rfl rfl mv_yX2_copyFrom q_640 hd_yX2_copyFrom (by decide) (Nat.le_of_ble_eq_true rfl) (by decide) dX6_copyFrom_99 rfl (kV0 fun gn hn => ?_)
        obtain ⟨hn5, hn6⟩ := hn
        have hs7 : okState cs ad gn i ac2 nz2 := okState.notes f1 (fun j j1 => hn6 j (by omega)) hn5
        refine z_aload_n C 2 dX6_copyFrom_102 rfl ?_
        have hgy30 := (hn6 (d) (by omega)).trans e1
        refine z_get (v := .ref (ad (d + 17))) C (by omega) hay24 hgy30 rfl inA_X6 5 (by decide) q_266 rfl rfl dX6_copyFrom_103 ?_
        refine z_iconst (z := 0) C dX6_copyFrom_106 rfl ?_
        refine z_aload_n C 1 dX6_copyFrom_107 rfl ?_
        have hgy31 := (hn6 (i) (by omega)).trans q1
        refine z_get (v := .ref (ad (i + 17))) C (lt_A0 hN rfl) hay18 hgy31 rfl inA_X6 5 (by decide) q_266 rfl rfl dX6_copyFrom_108 ?_
        refine z_iconst (z := 0) C dX6_copyFrom_111 rfl ?_
        refine z_aload_n C 1 dX6_copyFrom_112 rfl ?_
        refine z_get (v := .ref (ad (i + 17))) C (lt_A0 hN rfl) hay18 hgy31 rfl inA_X6 5 (by decide) q_266 rfl rfl dX6_copyFrom_113 ?_
        have hgy32 := (hn6 (i + 17) (by omega)).trans q11
        refine z_alen (z := 3) C (lt_A (c := 17) hN rfl) hay21 hgy32 1 rfl rfl dX6_copyFrom_116 ?_
        have hgy33 := (hn6 (d + 17) (by omega)).trans e11
        refine z_copyI C q_645 q_430 q_429 q_21 (by omega) (lt_A (c := 17) hN rfl) hay27 hay21 hgy33 hgy32 0 0 3 rfl rfl rfl (by decide) (by decide) (by decide) (by decide) (Nat.le_of_ble_eq_true rfl) dX6_copyFrom_117 (fun gy34 egy35 => ?_)
        have hgy36 := up_s egy35
        refine z_ext (r' := er) (lt_A (c := 17) hN rfl) hgy36 (fun j hj => cZ_all hj) (fun gy37 egy38 => ?_)
        have hgy39 := up_s egy38
        have hs8 : okState cs ad gy37 i ac2 nz2 := okState.refused hs7 (fun j j1 => by rw [egy38, va_up_ne _ _ (by omega)]; rw [egy35, va_up_ne _ _ (by omega)]) hgy39
        exact z_vret C hr hlk dX6_copyFrom_120 (by decide) (by decide) ⟨rfl, rfl, rfl, hs8, fun j j1 => by rw [egy38, va_up_ne _ _ (by omega)]; rw [egy35, va_up_ne _ _ (by omega)]; rw [hn6 _ (by omega)]; exact f3 j j1⟩
      · refine z_aload_n C 1 dX6_copyFrom_70 rfl ?_
        refine z_get (v := .ref (ad (i + 12))) C (lt_A0 hN rfl) hay18 q1 rfl inA_X6 3 (by decide) q_262 rfl rfl dX6_copyFrom_71 ?_
        refine z_iload_n C 0 dX6_copyFrom_74 rfl ?_
        refine z_aald C (lt_A (c := 12) hN rfl) hay20 q7 5 rfl ((k).toNat) (by omega) (by omega) (by decide) (q8 (k).toNat (by omega)) dX6_copyFrom_75 ?_
        have hay40 : zAt ad (i + 418 + 3 * (k).toNat) (ad (i + 418 + 3 * (k).toNat)) := rfl
        refine z_aload_n C 2 dX6_copyFrom_76 rfl ?_
        refine z_get (v := .ref (ad (d + 12))) C (by omega) hay24 e1 rfl inA_X6 3 (by decide) q_262 rfl rfl dX6_copyFrom_77 ?_
        refine z_iload_n C 0 dX6_copyFrom_80 rfl ?_
        refine z_aald C (by omega) hay26 e7 5 rfl ((k).toNat) (by omega) (by omega) (by decide) (e8 (k).toNat (by omega)) dX6_copyFrom_81 ?_
        have hay41 : zAt ad (d + 418 + 3 * (k).toNat) (ad (d + 418 + 3 * (k).toNat)) := rfl
        obtain ⟨xl, xt, xz, xo, xr, -, -, x3⟩ := q9 (k).toNat (by omega)
        refine z_cV (As := [.ref (ad (d + 418 + 3 * (k).toNat))]) (rest := []) (ci := 6) C (c_X4_copyFrom l D A cs tt N ad _ (i + 418 + 3 * (k).toNat) (by omega) (q9 (k).toNat (by omega)) (d + 418 + 3 * (k).toNat) (by omega) (e9 (k).toNat (by omega)) (by omega)) (by omega) hay40 x3.1 rfl rfl mv_yX4_copyFrom q_635 hd_yX4_copyFrom (by decide) (Nat.le_of_ble_eq_true rfl) (by decide) dX6_copyFrom_82 rfl (kV0 fun gp hp => ?_)
        obtain ⟨hp1, hp2⟩ := hp
        have hs9 : okState cs ad gp i ac2 nz := okState.pit (by omega) f1 hp2 hp1
        refine z_iinc (z := k + 1) (lv' := [(2, .int (zI (k + 1))), (0, .ref (ad i)), (1, .ref (ad d))]) (j := 0) C dX6_copyFrom_85 rfl rfl (by decide) rfl ?_
        refine z_goto (tgt := 61) C dX6_copyFrom_88 (by decide) ?_
        refine z_lv (lv' := [(2, .int (zI (k + 1))), (0, .ref (ad i)), (1, .ref (ad d))]) [0, 1, 2] rfl ?_
        exact ih_lp2 _ (by omega) (k + 1) gp rfl hs9 (fun j j1 => (hp2 j (by omega)).trans (f3 j j1)) (by omega)
  have lp1 : ∀ (n9 : Nat) (k : Int) (g1 : Nat → va_E), (40 - k).toNat = n9 → (okState cs ad g1 i ac2 nz) → (∀ j, j < i ∨ i + 436 ≤ j → g1 j = g j) → (0 ≤ k ∧ k ≤ 40) → zV p l e ({ frames := 3, cells := 0, slots := 0, locals := 180 } : Room) s m ([.ref (ad i), .ref (ad d)] : List Value).toArray below meth c (MQ below (zPost D A (rV0 N ad fun g' => okState cs ad g' i ac2 nz2 ∧ ∀ j, j < i ∨ i + 436 ≤ j → g' j = g j)) ([.ref (ad i), .ref (ad d)] : List Value).toArray s ({ frames := 3, cells := 0, slots := 0, locals := 180 } : Room).cells ({ frames := 3, cells := 0, slots := 0, locals := 180 } : Room).slots A) D A 3 (N) ad g1 (0) (0) 21 [(2, .int (zI (k))), (0, .ref (ad i)), (1, .ref (ad d))] [] := by
    intro n9
    induction n9 using Nat.strongRecOn with
    | ind n9 ih_lp1 =>
      intro k g1 hm9 f1 f3 f9
      have f4 : okState cs ad g1 d ac2 nz2 := hS2.mv (fun _ _ _ => rfl) (fun j j1 j2 => f3 j (by omega))
      obtain ⟨q1, q2, q3, ⟨qb, qf, q4, q5⟩, q6, ⟨qc, q7, q8⟩, q9, q10, qr, q11⟩ := id f1
      have hay42 : zAt ad (i) (ad i) := rfl
      have hay43 : zAt ad (i + 11) (ad (i + 11)) := rfl
      have hay44 : zAt ad (i + 12) (ad (i + 12)) := rfl
      have hay45 : zAt ad (i + 17) (ad (i + 17)) := rfl
      have hay46 : zAt ad (i + 1) (ad (i + 1)) := rfl
      have hay47 : zAt ad (i + 13) (ad (i + 13)) := rfl
      obtain ⟨e1, e2, e3, ⟨eb, ef, e4, e5⟩, e6, ⟨ec, e7, e8⟩, e9, e10, er, e11⟩ := id f4
      have hay48 : zAt ad (d) (ad d) := rfl
      have hay49 : zAt ad (d + 11) (ad (d + 11)) := rfl
      have hay50 : zAt ad (d + 12) (ad (d + 12)) := rfl
      have hay51 : zAt ad (d + 17) (ad (d + 17)) := rfl
      have hay52 : zAt ad (d + 1) (ad (d + 1)) := rfl
      have hay53 : zAt ad (d + 13) (ad (d + 13)) := rfl
      refine z_iload_n C 0 dX6_copyFrom_21 rfl ?_
      refine z_aload_n C 1 dX6_copyFrom_22 rfl ?_
      refine z_get (v := .int (zI (ac2))) C (lt_A0 hN rfl) hay42 q1 rfl inA_X6 2 (by decide) q_260 rfl rfl dX6_copyFrom_23 ?_
      refine z_icmp_ge (tgt := 59) C dX6_copyFrom_26 (by decide) (by omega) (by omega) (fun hb1 => ?_) (fun hb1 => ?_)
      · refine z_iconst (z := 0) C dX6_copyFrom_59 rfl ?_
        refine z_istore_n (lv' := [(2, .int (zI (0))), (0, .ref (ad i)), (1, .ref (ad d))]) C dX6_copyFrom_60 rfl (by decide) rfl ?_
        refine z_lv (lv' := [(2, .int (zI (0))), (0, .ref (ad i)), (1, .ref (ad d))]) [0, 1, 2] rfl ?_
        exact lp2 _ (0) g1 rfl f1 f3 (by omega)
      · refine z_iload_n C 0 dX6_copyFrom_29 rfl ?_
        refine z_aload_n C 1 dX6_copyFrom_30 rfl ?_
        refine z_get (v := .ref (ad (i + 11))) C (lt_A0 hN rfl) hay42 q1 rfl inA_X6 1 (by decide) q_259 rfl rfl dX6_copyFrom_31 ?_
        refine z_alen (z := 40) C (lt_A (c := 11) hN rfl) hay43 q4 4 rfl rfl dX6_copyFrom_34 ?_
        refine z_icmp_ge (tgt := 59) C dX6_copyFrom_35 (by decide) (by omega) (by omega) (fun hb2 => ?_) (fun hb2 => ?_)
        · refine z_iconst (z := 0) C dX6_copyFrom_59 rfl ?_
          refine z_istore_n (lv' := [(2, .int (zI (0))), (0, .ref (ad i)), (1, .ref (ad d))]) C dX6_copyFrom_60 rfl (by decide) rfl ?_
          refine z_lv (lv' := [(2, .int (zI (0))), (0, .ref (ad i)), (1, .ref (ad d))]) [0, 1, 2] rfl ?_
          exact lp2 _ (0) g1 rfl f1 f3 (by omega)
        · refine z_aload_n C 1 dX6_copyFrom_38 rfl ?_
          refine z_get (v := .ref (ad (i + 11))) C (lt_A0 hN rfl) hay42 q1 rfl inA_X6 1 (by decide) q_259 rfl rfl dX6_copyFrom_39 ?_
          refine z_iload_n C 0 dX6_copyFrom_42 rfl ?_
          refine z_aald C (lt_A (c := 11) hN rfl) hay43 q4 4 rfl ((k).toNat) (by omega) (by omega) (by decide) (q5 (k).toNat (by omega)).2 dX6_copyFrom_43 ?_
          have hay54 : zAt ad (i + 18 + 10 * qf (k).toNat) (ad (i + 18 + 10 * qf (k).toNat)) := rfl
          have pk := (q5 (k).toNat (by omega)).1
          refine z_aload_n C 2 dX6_copyFrom_44 rfl ?_
          refine z_get (v := .ref (ad (d + 11))) C (by omega) hay48 e1 rfl inA_X6 1 (by decide) q_259 rfl rfl dX6_copyFrom_45 ?_
          refine z_iload_n C 0 dX6_copyFrom_48 rfl ?_
          refine z_aald C (by omega) hay49 e4 4 rfl ((k).toNat) (by omega) (by omega) (by decide) (e5 (k).toNat (by omega)).2 dX6_copyFrom_49 ?_
          have hay55 : zAt ad (d + 18 + 10 * ef (k).toNat) (ad (d + 18 + 10 * ef (k).toNat)) := rfl
          have pk2 := (e5 (k).toNat (by omega)).1
          obtain ⟨xt, xz, xo, xr, -, -, x3⟩ := q6 (qf (k).toNat) (by omega)
          refine z_cV (As := [.ref (ad (d + 18 + 10 * ef (k).toNat))]) (rest := []) (ci := 10) C (c_X8_copyFrom l D A cs tt N ad _ (i + 18 + 10 * qf (k).toNat) (by omega) (q6 (qf (k).toNat) (by omega)) (d + 18 + 10 * ef (k).toNat) (by omega) (e6 (ef (k).toNat) (by omega)) (by omega)) (by omega) hay54 x3.1 rfl rfl mv_yX8_copyFrom q_420 hd_yX8_copyFrom (by decide) (Nat.le_of_ble_eq_true rfl) (by decide) dX6_copyFrom_50 rfl (kV0 fun gp hp => ?_)
          obtain ⟨⟨u1, u2, u3, u4, u5, u6, -, u7⟩, hp2⟩ := hp
          have hs9 : okState cs ad gp i ac2 nz := okState.bef pk f1 hp2 ⟨_, _, _, _, u5, u6, u7⟩
          refine z_iinc (z := k + 1) (lv' := [(2, .int (zI (k + 1))), (0, .ref (ad i)), (1, .ref (ad d))]) (j := 0) C dX6_copyFrom_53 rfl rfl (by decide) rfl ?_
          refine z_goto (tgt := 21) C dX6_copyFrom_56 (by decide) ?_
          refine z_lv (lv' := [(2, .int (zI (k + 1))), (0, .ref (ad i)), (1, .ref (ad d))]) [0, 1, 2] rfl ?_
          exact ih_lp1 _ (by omega) (k + 1) gp rfl hs9 (fun j j1 => (hp2 j (by omega)).trans (f3 j j1)) (by omega)
  refine z_lv (lv' := [(2, .int (zI (0))), (0, .ref (ad i)), (1, .ref (ad d))]) [0, 1, 2] rfl ?_
  exact lp1 _ (0) gy15 rfl hs3 hfr (by omega)

set_option maxRecDepth 100000 in
set_option maxHeartbeats 4000000 in
theorem c_X6_keepPit (l : Launch) (D : va_G) (A : Nat → Prop) (cs : Nat → ClassId) (tt : Nat) (N : Nat) (ad : Nat → Nat) (g : Nat → va_E) (i : Nat) (hN : i + 436 ≤ N) (ac nz : Int) (hS : okState cs ad g i ac nz) (z : Int) (hzs : 0 ≤ z ∧ z ≤ 3) : zM l yX6_keepPit cX6_keepPit 3 none ({ frames := 3, cells := 0, slots := 0, locals := 180 } : Room) D A cs tt N ad g [.ref (ad i), .int (zI (z))] (rV0 N ad fun g' => okState cs ad g' i ac nz ∧ ∀ j, j < i ∨ i + 436 ≤ j → g' j = g j) := by
  obtain ⟨q1, q2, q3, ⟨qb, qf, q4, q5⟩, q6, ⟨qc, q7, q8⟩, q9, q10, qr, q11⟩ := id hS
  have hay1 : zAt ad (i) (ad i) := rfl
  have hay2 : zAt ad (i + 11) (ad (i + 11)) := rfl
  have hay3 : zAt ad (i + 12) (ad (i + 12)) := rfl
  have hay4 : zAt ad (i + 17) (ad (i + 17)) := rfl
  have hay5 : zAt ad (i + 1) (ad (i + 1)) := rfl
  have hay6 : zAt ad (i + 13) (ad (i + 13)) := rfl
  obtain ⟨ut, uz, uo, ur, uz4, ut5, u1, ⟨uu, u2, u3⟩, u4⟩ := id q3
  have hay7 : zAt ad (i + 1) (ad (i + 1)) := rfl
  have hay8 : zAt ad (i + 1 + 1) (ad (i + 1 + 1)) := rfl
  refine z_of (by decide) (Nat.le_of_ble_eq_true rfl) ?_
  intro p e s m below meth c C hr hlk hnm
  refine z_lv (lv' := [(0, .ref (ad i)), (1, .int (zI (z)))]) [0, 1] rfl ?_
  refine z_aload_n C 0 dX6_keepPit_0 rfl ?_
  refine z_get (v := .ref (ad (i + 1))) C (lt_A0 hN rfl) hay1 q1 rfl inA_X6 0 (by decide) q_257 rfl rfl dX6_keepPit_1 ?_
  refine z_get (v := .int (zI (ut 5))) C (lt_A (c := 1) hN rfl) hay7 u1 rfl inA_X8 5 (by decide) q_187 rfl rfl dX6_keepPit_4 ?_
  refine z_bipush (z := 6) C dX6_keepPit_7 (by decide) ?_
  refine z_icmp_ge (tgt := 70) C dX6_keepPit_9 (by decide) (by omega) (by omega) (fun hb1 => ?_) (fun hb1 => ?_)
  · exact z_vret C hr hlk dX6_keepPit_70 (by decide) (by decide) ⟨rfl, rfl, rfl, hS, fun j _ => rfl⟩
  · refine z_aload_n C 0 dX6_keepPit_12 rfl ?_
    refine z_get (v := .ref (ad (i + 12))) C (lt_A0 hN rfl) hay1 q1 rfl inA_X6 3 (by decide) q_262 rfl rfl dX6_keepPit_13 ?_
    refine z_aload_n C 0 dX6_keepPit_16 rfl ?_
    refine z_get (v := .ref (ad (i + 1))) C (lt_A0 hN rfl) hay1 q1 rfl inA_X6 0 (by decide) q_257 rfl rfl dX6_keepPit_17 ?_
    refine z_get (v := .int (zI (ut 5))) C (lt_A (c := 1) hN rfl) hay7 u1 rfl inA_X8 5 (by decide) q_187 rfl rfl dX6_keepPit_20 ?_
    refine z_aald C (lt_A (c := 12) hN rfl) hay3 q7 5 rfl ((ut 5).toNat) (by omega) (by omega) (by decide) (q8 (ut 5).toNat (by omega)) dX6_keepPit_23 ?_
    have hay9 : zAt ad (i + 418 + 3 * (ut 5).toNat) (ad (i + 418 + 3 * (ut 5).toNat)) := rfl
    have hay10 : zAt ad (i + 418 + 3 * (ut 5).toNat + 1) (ad (i + 418 + 3 * (ut 5).toNat + 1)) := rfl
    have hay11 : zAt ad (i + 418 + 3 * (ut 5).toNat + 1 + 1) (ad (i + 418 + 3 * (ut 5).toNat + 1 + 1)) := rfl
    obtain ⟨xl, xt, xz, xo, xr, x1, x2, x3, x4⟩ := q9 (ut 5).toNat (by omega)
    refine z_astore_n (lv' := [(2, .ref (ad (i + 418 + 3 * (ut 5).toNat))), (0, .ref (ad i)), (1, .int (zI (z)))]) C dX6_keepPit_24 rfl (by decide) rfl ?_
    refine z_aload_n C 0 dX6_keepPit_25 rfl ?_
    refine z_iload_n C 2 dX6_keepPit_26 rfl ?_
    refine z_put (fs' := [.int (zI (z)), .int (zI (xt)), .ref (ad (i + 418 + 3 * (ut 5).toNat + 1))]) C (by omega) hay9 x3 tyX4 tyX4_ok nmX4 rfl inA_X4 0 (by decide) q_242 rfl rfl rfl rfl (Nat.le_of_ble_eq_true rfl) rfl dX6_keepPit_27 (fun gy12 egy13 => ?_)
    have hgy14 := up_s egy13
    refine z_aload_n C 0 dX6_keepPit_30 rfl ?_
    refine z_aload_n C 1 dX6_keepPit_31 rfl ?_
    have hgy15 := up_n egy13 q1 (by omega)
    refine z_get (v := .ref (ad (i + 1))) C (lt_A0 hN rfl) hay1 hgy15 rfl inA_X6 0 (by decide) q_257 rfl rfl dX6_keepPit_32 ?_
    have hgy16 := up_n egy13 u1 (by omega)
    refine z_get (v := .int (zI (ut 0))) C (lt_A (c := 1) hN rfl) hay7 hgy16 rfl inA_X8 0 (by decide) q_175 rfl rfl dX6_keepPit_35 ?_
    refine z_put (fs' := [.int (zI (z)), .int (zI (ut 0)), .ref (ad (i + 418 + 3 * (ut 5).toNat + 1))]) C (by omega) hay9 hgy14 tyX4 tyX4_ok nmX4 rfl inA_X4 1 (by decide) q_245 rfl rfl rfl rfl (Nat.le_of_ble_eq_true rfl) rfl dX6_keepPit_38 (fun gy17 egy18 => ?_)
    have hgy19 := up_s egy18
    refine z_aload_n C 0 dX6_keepPit_41 rfl ?_
    refine z_get (v := .ref (ad (i + 418 + 3 * (ut 5).toNat + 1))) C (by omega) hay9 hgy19 rfl inA_X4 2 (by decide) q_248 rfl rfl dX6_keepPit_42 ?_
    refine z_aload_n C 1 dX6_keepPit_45 rfl ?_
    have hgy20 := up_n egy18 hgy15 (by omega)
    refine z_get (v := .ref (ad (i + 1))) C (lt_A0 hN rfl) hay1 hgy20 rfl inA_X6 0 (by decide) q_257 rfl rfl dX6_keepPit_46 ?_
    have hgy21 := up_n egy18 hgy16 (by omega)
    refine z_get (v := .ref (ad (i + 1 + 1))) C (lt_A (c := 1) hN rfl) hay7 hgy21 rfl inA_X8 6 (by decide) q_190 rfl rfl dX6_keepPit_49 ?_
    refine z_iload_n C 2 dX6_keepPit_52 rfl ?_
    have hgy22 := up_n egy13 u2 (by omega)
    have hgy23 := up_n egy18 hgy22 (by omega)
    refine z_aald C (lt_A (c := 2) hN rfl) hay8 hgy23 3 rfl ((z).toNat) (by omega) (by omega) (by decide) (u3 (z).toNat (by omega)) dX6_keepPit_53 ?_
    have hay24 : zAt ad (i + 1 + 2 + 2 * (z).toNat) (ad (i + 1 + 2 + 2 * (z).toNat)) := rfl
    have hay25 : zAt ad (i + 1 + 2 + 2 * (z).toNat + 1) (ad (i + 1 + 2 + 2 * (z).toNat + 1)) := rfl
    have hpy26 := u4 (z).toNat (by omega)
    have hqy27 := uz4 (z).toNat (by omega)
    have hgy28 := up_n egy13 x4.1 (ne_o (i := i + 418 + 3 * (ut 5).toNat) (c := 1) (d := 0) rfl)
    have hgy29 := up_n egy18 hgy28 (ne_o (i := i + 418 + 3 * (ut 5).toNat) (c := 1) (d := 0) rfl)
    have hgy30 := up_n egy13 x4.2 (ne_o (i := i + 418 + 3 * (ut 5).toNat) (c := 2) (d := 0) rfl)
    have hgy31 := up_n egy18 hgy30 (ne_o (i := i + 418 + 3 * (ut 5).toNat) (c := 2) (d := 0) rfl)
    have hgy32 := up_n egy13 hpy26.1 (by omega)
    have hgy33 := up_n egy18 hgy32 (by omega)
    have hgy34 := up_n egy13 hpy26.2 (by omega)
    have hgy35 := up_n egy18 hgy34 (by omega)
    refine z_cV (As := [.ref (ad (i + 1 + 2 + 2 * (z).toNat))]) (rest := []) (ci := 5) C (c_X3_copyFrom l D A cs tt N ad _ (i + 418 + 3 * (ut 5).toNat + 1) (by omega) _ _ _ x2 ⟨hgy29, hgy31⟩ (i + 1 + 2 + 2 * (z).toNat) (by omega) _ _ _ (by omega) ⟨hgy33, hgy35⟩ (by omega)) (by omega) hay10 hgy29 rfl rfl mv_yX3_copyFrom q_606 hd_yX3_copyFrom (by decide) (Nat.le_of_ble_eq_true rfl) (by decide) dX6_keepPit_54 rfl (kV0 fun gc hc => ?_)
    obtain ⟨hp, hf⟩ := hc
    have hgy36 := (hf (i + 418 + 3 * (ut 5).toNat) (ne_o (i := i + 418 + 3 * (ut 5).toNat) (c := 0) (d := 1) rfl) (ne_o (i := i + 418 + 3 * (ut 5).toNat) (c := 0) (d := 2) rfl)).trans hgy19
    have hpit : okPit cs ad gc (i + 418 + 3 * (ut 5).toNat) := ⟨_, _, _, _, _, by omega, by omega, hgy36, hp⟩
    have hs5 : okState cs ad gc i ac nz := okState.pit (by omega) hS (fun j j1 => by rw [hf _ (by omega) (by omega)]; rw [egy18, va_up_ne _ _ (by omega)]; rw [egy13, va_up_ne _ _ (by omega)]) hpit
    refine z_aload_n C 1 dX6_keepPit_57 rfl ?_
    have hgy37 := (hf (i) (by omega) (by omega)).trans hgy20
    refine z_get (v := .ref (ad (i + 1))) C (lt_A0 hN rfl) hay1 hgy37 rfl inA_X6 0 (by decide) q_257 rfl rfl dX6_keepPit_58 ?_
    refine z_dup C dX6_keepPit_61 rfl ?_
    have hgy38 := (hf (i + 1) (by omega) (by omega)).trans hgy21
    refine z_get (v := .int (zI (ut 5))) C (lt_A (c := 1) hN rfl) hay7 hgy38 rfl inA_X8 5 (by decide) q_187 rfl rfl dX6_keepPit_62 ?_
    refine z_iconst (z := 1) C dX6_keepPit_65 rfl ?_
    refine z_iadd C dX6_keepPit_66 ?_
    refine z_put (fs' := [.int (zI (ut 0)), .int (zI (ut 1)), .int (zI (ut 2)), .int (zI (ut 3)), .int (zI (ut 4)), .int (zI ((ut 5) + 1)), .ref (ad (i + 1 + 1))]) C (lt_A (c := 1) hN rfl) hay7 hgy38 tyX8 tyX8_ok nmX8 rfl inA_X8 5 (by decide) q_187 rfl rfl rfl rfl (Nat.le_of_ble_eq_true rfl) rfl dX6_keepPit_67 (fun gy39 egy40 => ?_)
    have hgy41 := up_s egy40
    have hw6 : okWorld cs ad gy39 (i + 1) := okWorld.head hs5.2.2.1 (fun j j1 => by rw [egy40, va_up_ne _ _ (by omega)]) (by omega) hgy41
    have hs6 : okState cs ad gy39 i ac nz := okState.now hs5 (fun j j1 => by rw [egy40, va_up_ne _ _ (by omega)]) hw6
    exact z_vret C hr hlk dX6_keepPit_70 (by decide) (by decide) ⟨rfl, rfl, rfl, hs6, fun j j1 => by rw [egy40, va_up_ne _ _ (by omega)]; rw [hf _ (by omega) (by omega)]; rw [egy18, va_up_ne _ _ (by omega)]; rw [egy13, va_up_ne _ _ (by omega)]⟩

