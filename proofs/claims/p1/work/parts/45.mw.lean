set_option maxRecDepth 100000 in
set_option maxHeartbeats 4000000 in
theorem c_X10_copies (l : Launch) (D : va_G) (A : Nat → Prop) (cs : Nat → ClassId) (tt : Nat) (N : Nat) (ad : Nat → Nat) (g : Nat → va_E) (i : Nat) (hN : i + 30 ≤ N) (F : Nat → Int) (hg : g i = mC ad i F) (r : Nat → Int) (hr1 : g (i + 1) = iA cs 29200 r) (hz1 : ∀ j, r j = 0) (a b mm : Nat) (ha : a + mm ≤ 29200) (hb : b + mm ≤ 29200) : zM l yX10_copies cX10_copies 5 none ({ frames := 1, cells := 0, slots := 0, locals := 60 } : Room) D A cs tt N ad g [.ref (ad i), .int (zI (a : Int)), .int (zI (b : Int)), .int (zI (mm : Int))] (rV0 N ad fun g' => (∃ r' : Nat → Int, g' (i + 1) = iA cs 29200 r' ∧ ∀ j, r' j = 0) ∧ ∀ j, j ≠ i + 1 → g' j = g j) := by
  have hay1 : zAt ad (i) (ad i) := rfl
  refine z_of (by decide) (Nat.le_of_ble_eq_true rfl) ?_
  intro p e s m below meth c C hr hlk hnm
  refine z_lv (lv' := [(0, .ref (ad i)), (1, .int (zI ((a : Int)))), (2, .int (zI ((b : Int)))), (3, .int (zI ((mm : Int))))]) [0, 1, 2, 3] rfl ?_
  refine z_iconst (z := 0) C dX10_copies_0 rfl ?_
  refine z_istore (lv' := [(4, .int (zI (0))), (0, .ref (ad i)), (1, .int (zI ((a : Int)))), (2, .int (zI ((b : Int)))), (3, .int (zI ((mm : Int))))]) C dX10_copies_1 (by decide) rfl ?_
  have lp : ∀ (n kk : Nat) (g1 : Nat → va_E) , kk + n = mm → (g1 i = mC ad i F) → ((∃ r' : Nat → Int, g1 (i + 1) = iA cs 29200 r' ∧ ∀ j, r' j = 0)) → (∀ j, j ≠ i + 1 → g1 j = g j) → zV p l e ({ frames := 1, cells := 0, slots := 0, locals := 60 } : Room) s m ([.ref (ad i), .int (zI (a : Int)), .int (zI (b : Int)), .int (zI (mm : Int))] : List Value).toArray below meth c (MQ below (zPost D A (rV0 N ad fun g' => (∃ r' : Nat → Int, g' (i + 1) = iA cs 29200 r' ∧ ∀ j, r' j = 0) ∧ ∀ j, j ≠ i + 1 → g' j = g j)) ([.ref (ad i), .int (zI (a : Int)), .int (zI (b : Int)), .int (zI (mm : Int))] : List Value).toArray s ({ frames := 1, cells := 0, slots := 0, locals := 60 } : Room).cells ({ frames := 1, cells := 0, slots := 0, locals := 60 } : Room).slots A) D A 5 (N) ad g1 (0) (0) 3 [(4, .int (zI ((kk : Int)))), (0, .ref (ad i)), (1, .int (zI ((a : Int)))), (2, .int (zI ((b : Int)))), (3, .int (zI ((mm : Int))))] [] := by
    intro n
    induction n with
    | zero =>
      intro kk g1  hkk f1 f2 f3
      have hay2 : zAt ad (i) (ad i) := rfl
      refine z_iload C 0 dX10_copies_3 rfl ?_
      refine z_iload_n C 4 dX10_copies_5 rfl ?_
      refine z_icmp_ge (tgt := 33) C dX10_copies_6 (by decide) (by omega) (by omega) (fun _ => ?_) (fun h => absurd h (by omega))
      exact z_vret C hr hlk dX10_copies_33 (by decide) (by decide) ⟨rfl, rfl, rfl, f2, f3⟩
    | succ n ih =>
      intro kk g1  hkk f1 f2 f3
      have hay3 : zAt ad (i) (ad i) := rfl
      obtain ⟨r8, f4, f5⟩ := f2
      have hay4 : zAt ad (i + 1) (ad (i + 1)) := rfl
      refine z_iload C 0 dX10_copies_3 rfl ?_
      refine z_iload_n C 4 dX10_copies_5 rfl ?_
      refine z_icmp_ge (tgt := 33) C dX10_copies_6 (by decide) (by omega) (by omega) (fun h => absurd h (by omega)) (fun _ => ?_)
      refine z_aload_n C 1 dX10_copies_9 rfl ?_
      refine z_get (v := .ref (ad (i + 1))) C (by omega) hay3 f1 rfl inA_X10 0 (by decide) q_1459 rfl rfl dX10_copies_10 ?_
      refine z_iload_n C 3 dX10_copies_13 rfl ?_
      refine z_iload C 0 dX10_copies_14 rfl ?_
      refine z_iadd C dX10_copies_16 ?_
      refine z_aload_n C 1 dX10_copies_17 rfl ?_
      refine z_get (v := .ref (ad (i + 1))) C (by omega) hay3 f1 rfl inA_X10 0 (by decide) q_1459 rfl rfl dX10_copies_18 ?_
      refine z_iload_n C 2 dX10_copies_21 rfl ?_
      refine z_iload C 0 dX10_copies_22 rfl ?_
      refine z_iadd C dX10_copies_24 ?_
      refine z_iald C (by omega) hay4 f4 (a + kk) (by omega) (by omega) (by decide) dX10_copies_25 ?_
      rw [show r8 (a + kk) = 0 from f5 _]
      refine z_iast C (by omega) hay4 f4 (b + kk) (by omega) (by omega) (by decide) dX10_copies_26 (fun gy5 egy6 => ?_)
      have hgy7 := up_s egy6
      refine z_iinc (z := ((kk + 1 : Nat) : Int)) (lv' := [(4, .int (zI (((kk + 1 : Nat) : Int)))), (0, .ref (ad i)), (1, .int (zI ((a : Int)))), (2, .int (zI ((b : Int)))), (3, .int (zI ((mm : Int))))]) (j := 0) C dX10_copies_27 rfl (congrArg zI (by omega)) (by decide) rfl ?_
      refine z_goto (tgt := 3) C dX10_copies_30 (by decide) ?_
      have hgy8 := up_n egy6 f1 (ne_o (i := i) (c := 0) (d := 1) rfl)
      exact ih (kk + 1) gy5 (by omega) hgy8 ⟨_, hgy7, (uZ_z f5)⟩ (fun j h1 => by rw [egy6, va_up_ne _ _ (by omega)]; exact f3 j h1)
  refine z_lv (lv' := [(4, .int (zI (((0 : Nat) : Int)))), (0, .ref (ad i)), (1, .int (zI ((a : Int)))), (2, .int (zI ((b : Int)))), (3, .int (zI ((mm : Int))))]) [0, 1, 2, 3, 4] rfl ?_
  exact lp mm 0 g  (by omega) hg ⟨r, hr1, hz1⟩ (fun j _ => rfl)

set_option maxRecDepth 100000 in
set_option maxHeartbeats 4000000 in
theorem c_X10_keptAt0 (l : Launch) (D : va_G) (A : Nat → Prop) (cs : Nat → ClassId) (tt : Nat) (N : Nat) (ad : Nat → Nat) (g : Nat → va_E) : zM l yX10_keptAt cX10_keptAt 2 (some .int) ({ frames := 1, cells := 0, slots := 0, locals := 60 } : Room) D A cs tt N ad g [.int (zI 0), .int (zI 0)] (rI0 N ad fun r g' => r = 700 ∧ g = g') := by
  refine z_of (by decide) (Nat.le_of_ble_eq_true rfl) ?_
  intro p e s m below meth c C hr hlk hnm
  refine z_lv (lv' := [(0, .int (zI (0))), (1, .int (zI (0)))]) [0, 1] rfl ?_
  refine z_sipush (z := 700) C dX10_keptAt_0 (by decide) ?_
  refine z_sipush (z := 350) C dX10_keptAt_3 (by decide) ?_
  refine z_iload_n C 0 dX10_keptAt_6 rfl ?_
  refine z_iload_n C 1 dX10_keptAt_7 rfl ?_
  refine z_iadd C dX10_keptAt_8 ?_
  refine z_bipush (z := 40) C dX10_keptAt_9 (by decide) ?_
  refine z_irem C dX10_keptAt_11 (by decide) (by decide) (by decide) ?_
  rw [show ((0 + 0 : Int)).tmod 40 = 0 by decide]
  refine z_imul C dX10_keptAt_12 ?_
  refine z_iadd C dX10_keptAt_13 ?_
  rw [show (700 + (350 * 0) : Int) = 700 by decide]
  exact z_iret C hr hlk dX10_keptAt_14 (by decide) (by decide) ⟨700, rfl, rfl, rfl, rfl, rfl⟩

set_option maxRecDepth 100000 in
set_option maxHeartbeats 4000000 in
theorem c_X10_keeps0 (l : Launch) (D : va_G) (A : Nat → Prop) (cs : Nat → ClassId) (tt : Nat) (N : Nat) (ad : Nat → Nat) (g : Nat → va_E) (i : Nat) (hN : i + 30 ≤ N) (F : Nat → Int) (hg : g i = mC ad i F) (h15 : F 15 = 0) (h16 : F 16 = 0) (r : Nat → Int) (hr1 : g (i + 1) = iA cs 29200 r) (hz1 : ∀ j, r j = 0) : zM l yX10_keeps cX10_keeps 1 none ({ frames := 2, cells := 0, slots := 0, locals := 120 } : Room) D A cs tt N ad g [.ref (ad i)] (rV0 N ad fun g' => g' i = mC ad i (uZ F 15 1) ∧ (∃ r' : Nat → Int, g' (i + 1) = iA cs 29200 r' ∧ ∀ j, r' j = 0) ∧ ∀ j, j ≠ i → j ≠ i + 1 → g' j = g j) := by
  have hay1 : zAt ad (i) (ad i) := rfl
  have hay2 : zAt ad (i + 1) (ad (i + 1)) := rfl
  refine z_of (by decide) (Nat.le_of_ble_eq_true rfl) ?_
  intro p e s m below meth c C hr hlk hnm
  refine z_lv (lv' := [(0, .ref (ad i))]) [0] rfl ?_
  refine z_aload_n C 0 dX10_keeps_0 rfl ?_
  refine z_get (v := .int (zI (0))) C (by omega) hay1 hg rfl inA_X10 15 (by decide) q_1474 rfl (fv (F := F) (f := 15) h15) dX10_keeps_1 ?_
  refine z_bipush (z := 40) C dX10_keeps_4 (by decide) ?_
  refine z_icmp_ne (tgt := 32) C dX10_keeps_6 (by decide) (by omega) (by omega) (fun _ => ?_) (fun h => absurd h (by omega))
  refine z_aload_n C 0 dX10_keeps_32 rfl ?_
  refine z_iconst (z := 0) C dX10_keeps_33 rfl ?_
  refine z_aload_n C 0 dX10_keeps_34 rfl ?_
  refine z_get (v := .int (zI (0))) C (by omega) hay1 hg rfl inA_X10 16 (by decide) q_1475 rfl (fv (F := F) (f := 16) h16) dX10_keeps_35 ?_
  refine z_aload_n C 0 dX10_keeps_38 rfl ?_
  refine z_get (v := .int (zI (0))) C (by omega) hay1 hg rfl inA_X10 15 (by decide) q_1474 rfl (fv (F := F) (f := 15) h15) dX10_keeps_39 ?_
  refine z_cS (As := [.int (zI (0)), .int (zI (0))]) (rest := [.int (zI (0)), .ref (ad i)]) C (c_X10_keptAt0 l D A cs tt N ad _) ms_yX10_keptAt q_1878 hd_yX10_keptAt (by decide) (Nat.le_of_ble_eq_true rfl) (by decide) dX10_keeps_42 rfl (kI0 fun ra ga ha => ?_)
  obtain ⟨rfl, rfl⟩ := ha
  refine z_sipush (z := 350) C dX10_keeps_45 (by decide) ?_
  refine z_cV (As := [.int (zI (0)), .int (zI (700)), .int (zI (350))]) (rest := []) (ci := 12) C (c_X10_copies l D A cs tt N ad _ i hN _ hg _ hr1 hz1 0 700 350 (Nat.le_of_ble_eq_true rfl) (Nat.le_of_ble_eq_true rfl)) (by omega) hay1 hg rfl rfl mv_yX10_copies q_1881 hd_yX10_copies (by decide) (Nat.le_of_ble_eq_true rfl) (by decide) dX10_keeps_48 rfl (kV0 fun gqy3 hqy3 => ?_)
  obtain ⟨⟨rqy3, hrqy3, hzqy3⟩, hfqy3⟩ := hqy3
  refine z_aload_n C 0 dX10_keeps_51 rfl ?_
  refine z_dup C dX10_keeps_52 rfl ?_
  have hgy4 := (hfqy3 (i) (ne_o (i := i) (c := 0) (d := 1) rfl)).trans hg
  refine z_get (v := .int (zI (0))) C (by omega) hay1 hgy4 rfl inA_X10 15 (by decide) q_1474 rfl (fv (F := F) (f := 15) h15) dX10_keeps_53 ?_
  refine z_iconst (z := 1) C dX10_keeps_56 rfl ?_
  refine z_iadd C dX10_keeps_57 ?_
  refine z_put (fs' := mF ad (i) (uZ F 15 (0 + 1))) C (by omega) hay1 hgy4 tyX10 tyX10_ok nmX10 rfl inA_X10 15 (by decide) q_1474 rfl rfl rfl rfl (Nat.le_of_ble_eq_true rfl) rfl dX10_keeps_58 (fun gy5 egy6 => ?_)
  have hgy7 := up_s egy6
  have hgy8 := up_n egy6 hrqy3 (ne_o (i := i) (c := 1) (d := 0) rfl)
  rw [show ((0 : Int) + 1) = 1 by decide] at hgy7
  exact z_vret C hr hlk dX10_keeps_61 (by decide) (by decide) ⟨rfl, rfl, rfl, hgy7, ⟨_, hgy8, hzqy3⟩, fun j h1 h2 => by rw [egy6, va_up_ne _ _ (by omega)]; rw [hfqy3 _ (by omega)]⟩

set_option maxRecDepth 100000 in
set_option maxHeartbeats 4000000 in
theorem c_X10_hourOf0 (l : Launch) (D : va_G) (A : Nat → Prop) (cs : Nat → ClassId) (tt : Nat) (N : Nat) (ad : Nat → Nat) (g : Nat → va_E) (i : Nat) (hN : i + 30 ≤ N) (F : Nat → Int) (hg : g i = mC ad i F) (h14 : F 14 = 0) (z : Int) : zM l yX10_hourOf cX10_hourOf 2 (some .int) ({ frames := 1, cells := 0, slots := 0, locals := 60 } : Room) D A cs tt N ad g [.ref (ad i), .int (zI z)] (rI0 N ad fun r g' => r = -1 ∧ g = g') := by
  have hay1 : zAt ad (i) (ad i) := rfl
  refine z_of (by decide) (Nat.le_of_ble_eq_true rfl) ?_
  intro p e s m below meth c C hr hlk hnm
  refine z_lv (lv' := [(0, .ref (ad i)), (1, .int (zI (z)))]) [0, 1] rfl ?_
  refine z_aload_n C 0 dX10_hourOf_0 rfl ?_
  refine z_get (v := .int (zI (0))) C (by omega) hay1 hg rfl inA_X10 14 (by decide) q_1473 rfl (fv (F := F) (f := 14) h14) dX10_hourOf_1 ?_
  refine z_if_ne (tgt := 11) C dX10_hourOf_4 (by decide) (by omega) (fun h => absurd h (by omega)) (fun _ => ?_)
  refine z_iconst (z := -1) C dX10_hourOf_7 rfl ?_
  refine z_goto (tgt := 24) C dX10_hourOf_8 (by decide) ?_
  exact z_iret C hr hlk dX10_hourOf_24 (by decide) (by decide) ⟨-1, rfl, rfl, rfl, rfl, rfl⟩

set_option maxRecDepth 100000 in
set_option maxHeartbeats 4000000 in
theorem c_X10_airOf0 (l : Launch) (D : va_G) (A : Nat → Prop) (cs : Nat → ClassId) (tt : Nat) (N : Nat) (ad : Nat → Nat) (g : Nat → va_E) (i : Nat) (hN : i + 30 ≤ N) (F : Nat → Int) (hg : g i = mC ad i F) (h14 : F 14 = 0) (z : Int) : zM l yX10_airOf cX10_airOf 3 (some .int) ({ frames := 2, cells := 0, slots := 0, locals := 120 } : Room) D A cs tt N ad g [.ref (ad i), .int (zI z)] (rI0 N ad fun r g' => r = 0 ∧ g = g') := by
  have hay1 : zAt ad (i) (ad i) := rfl
  refine z_of (by decide) (Nat.le_of_ble_eq_true rfl) ?_
  intro p e s m below meth c C hr hlk hnm
  refine z_lv (lv' := [(0, .ref (ad i)), (1, .int (zI (z)))]) [0, 1] rfl ?_
  refine z_aload_n C 0 dX10_airOf_0 rfl ?_
  refine z_iload_n C 1 dX10_airOf_1 rfl ?_
  refine z_cV (As := [.int (zI (z))]) (rest := []) (ci := 12) C (c_X10_hourOf0 l D A cs tt N ad _ i hN _ hg h14 z) (by omega) hay1 hg rfl rfl mv_yX10_hourOf q_1835 hd_yX10_hourOf (by decide) (Nat.le_of_ble_eq_true rfl) (by decide) dX10_airOf_2 rfl (kI0 fun ra ga ha => ?_)
  obtain ⟨rfl, rfl⟩ := ha
  refine z_istore_n (lv' := [(2, .int (zI (-1))), (0, .ref (ad i)), (1, .int (zI (z)))]) C dX10_airOf_5 rfl (by decide) rfl ?_
  refine z_iload_n C 0 dX10_airOf_6 rfl ?_
  refine z_iconst (z := -1) C dX10_airOf_7 rfl ?_
  refine z_icmp_ne (tgt := 15) C dX10_airOf_8 (by decide) (by omega) (by omega) (fun h => absurd h (by omega)) (fun _ => ?_)
  refine z_iconst (z := 0) C dX10_airOf_11 rfl ?_
  refine z_goto (tgt := 47) C dX10_airOf_12 (by decide) ?_
  exact z_iret C hr hlk dX10_airOf_47 (by decide) (by decide) ⟨0, rfl, rfl, rfl, rfl, rfl⟩

set_option maxRecDepth 100000 in
set_option maxHeartbeats 4000000 in
theorem c_X10_hour0 (l : Launch) (D : va_G) (A : Nat → Prop) (cs : Nat → ClassId) (tt : Nat) (N : Nat) (ad : Nat → Nat) (g : Nat → va_E) (i : Nat) (hN : i + 30 ≤ N) (F : Nat → Int) (hg : g i = mC ad i F) (h13 : F 13 = 0) (h14 : F 14 = 0) (r : Nat → Int) (hr1 : g (i + 1) = iA cs 29200 r) (b : Nat) (hb : b < 29200) : zM l yX10_hour cX10_hour 4 none ({ frames := 3, cells := 0, slots := 0, locals := 180 } : Room) D A cs tt N ad g [.ref (ad i), .int (zI (b : Int))] (rV0 N ad fun g' => g' (i + 1) = iA cs 29200 (uZ r b (r b + 1)) ∧ ∀ j, j ≠ i + 1 → g' j = g j) := by
  have hay1 : zAt ad (i) (ad i) := rfl
  have hay2 : zAt ad (i + 1) (ad (i + 1)) := rfl
  refine z_of (by decide) (Nat.le_of_ble_eq_true rfl) ?_
  intro p e s m below meth c C hr hlk hnm
  refine z_lv (lv' := [(0, .ref (ad i)), (1, .int (zI ((b : Int))))]) [0, 1] rfl ?_
  refine z_aload_n C 0 dX10_hour_0 rfl ?_
  refine z_iload_n C 1 dX10_hour_1 rfl ?_
  refine z_cV (As := [.int (zI ((b : Int)))]) (rest := []) (ci := 12) C (c_X10_airOf0 l D A cs tt N ad _ i hN _ hg h14 (b : Int)) (by omega) hay1 hg rfl rfl mv_yX10_airOf q_1831 hd_yX10_airOf (by decide) (Nat.le_of_ble_eq_true rfl) (by decide) dX10_hour_2 rfl (kI0 fun ra ga ha => ?_)
  obtain ⟨rfl, rfl⟩ := ha
  refine z_istore_n (lv' := [(2, .int (zI (0))), (0, .ref (ad i)), (1, .int (zI ((b : Int))))]) C dX10_hour_5 rfl (by decide) rfl ?_
  refine z_iconst (z := 0) C dX10_hour_6 rfl ?_
  refine z_istore_n (lv' := [(3, .int (zI (0))), (2, .int (zI (0))), (0, .ref (ad i)), (1, .int (zI ((b : Int))))]) C dX10_hour_7 rfl (by decide) rfl ?_
  refine z_iload_n C 0 dX10_hour_8 rfl ?_
  refine z_aload_n C 2 dX10_hour_9 rfl ?_
  refine z_get (v := .int (zI (0))) C (by omega) hay1 hg rfl inA_X10 13 (by decide) q_1472 rfl (fv (F := F) (f := 13) h13) dX10_hour_10 ?_
  refine z_icmp_ge (tgt := 61) C dX10_hour_13 (by decide) (by omega) (by omega) (fun _ => ?_) (fun h => absurd h (by omega))
  refine z_aload_n C 2 dX10_hour_61 rfl ?_
  refine z_get (v := .ref (ad (i + 1))) C (by omega) hay1 hg rfl inA_X10 0 (by decide) q_1459 rfl rfl dX10_hour_62 ?_
  refine z_iload_n C 3 dX10_hour_65 rfl ?_
  refine z_iconst (z := 0) C dX10_hour_66 rfl ?_
  refine z_iadd C dX10_hour_67 ?_
  refine z_dup2 C dX10_hour_68 rfl rfl ?_
  refine z_iald C (by omega) hay2 hr1 (b) (by omega) (by omega) (by decide) dX10_hour_69 ?_
  refine z_iconst (z := 1) C dX10_hour_70 rfl ?_
  refine z_iadd C dX10_hour_71 ?_
  refine z_iast C (by omega) hay2 hr1 (b) (by omega) (by omega) (by decide) dX10_hour_72 (fun gy3 egy4 => ?_)
  have hgy5 := up_s egy4
  exact z_vret C hr hlk dX10_hour_73 (by decide) (by decide) ⟨rfl, rfl, rfl, hgy5, fun j h1 => by rw [egy4, va_up_ne _ _ (by omega)]⟩

set_option maxRecDepth 100000 in
set_option maxHeartbeats 4000000 in
theorem c_X10_goes0 (l : Launch) (D : va_G) (A : Nat → Prop) (cs : Nat → ClassId) (tt : Nat) (N : Nat) (ad : Nat → Nat) (g : Nat → va_E) (i : Nat) (hN : i + 30 ≤ N) (F : Nat → Int) (hg : g i = mC ad i F) (h13 : F 13 = 0) (h14 : F 14 = 0) (r : Nat → Int) (hr1 : g (i + 1) = iA cs 29200 r) (b : Nat) (hb : b < 29200) (z : Int) (hz : 0 ≤ z ∧ z ≤ 2147483647) : zM l yX10_goes cX10_goes 4 none ({ frames := 4, cells := 0, slots := 0, locals := 240 } : Room) D A cs tt N ad g [.ref (ad i), .int (zI (b : Int)), .int (zI z)] (rV0 N ad fun g' => (∃ r' : Nat → Int, g' (i + 1) = iA cs 29200 r' ∧ r' b = r b + z ∧ ∀ j, j ≠ b → r' j = r j) ∧ ∀ j, j ≠ i + 1 → g' j = g j) := by
  have hay1 : zAt ad (i) (ad i) := rfl
  refine z_of (by decide) (Nat.le_of_ble_eq_true rfl) ?_
  intro p e s m below meth c C hr hlk hnm
  refine z_lv (lv' := [(0, .ref (ad i)), (1, .int (zI ((b : Int)))), (2, .int (zI (z)))]) [0, 1, 2] rfl ?_
  refine z_iconst (z := 0) C dX10_goes_0 rfl ?_
  refine z_istore_n (lv' := [(3, .int (zI (0))), (0, .ref (ad i)), (1, .int (zI ((b : Int)))), (2, .int (zI (z)))]) C dX10_goes_1 rfl (by decide) rfl ?_
  have lp : ∀ (n kk : Nat) (g1 : Nat → va_E) , kk + n = z.toNat → (g1 i = mC ad i F) → ((∃ r' : Nat → Int, g1 (i + 1) = iA cs 29200 r' ∧ r' b = r b + (kk : Int) ∧ ∀ j, j ≠ b → r' j = r j)) → (∀ j, j ≠ i + 1 → g1 j = g j) → zV p l e ({ frames := 4, cells := 0, slots := 0, locals := 240 } : Room) s m ([.ref (ad i), .int (zI (b : Int)), .int (zI z)] : List Value).toArray below meth c (MQ below (zPost D A (rV0 N ad fun g' => (∃ r' : Nat → Int, g' (i + 1) = iA cs 29200 r' ∧ r' b = r b + z ∧ ∀ j, j ≠ b → r' j = r j) ∧ ∀ j, j ≠ i + 1 → g' j = g j)) ([.ref (ad i), .int (zI (b : Int)), .int (zI z)] : List Value).toArray s ({ frames := 4, cells := 0, slots := 0, locals := 240 } : Room).cells ({ frames := 4, cells := 0, slots := 0, locals := 240 } : Room).slots A) D A 4 (N) ad g1 (0) (0) 2 [(3, .int (zI ((kk : Int)))), (0, .ref (ad i)), (1, .int (zI ((b : Int)))), (2, .int (zI (z)))] [] := by
    intro n
    induction n with
    | zero =>
      intro kk g1  hkk f1 f2 f3
      have hay2 : zAt ad (i) (ad i) := rfl
      refine z_iload_n C 0 dX10_goes_2 rfl ?_
      refine z_iload_n C 3 dX10_goes_3 rfl ?_
      refine z_icmp_ge (tgt := 18) C dX10_goes_4 (by decide) (by omega) (by omega) (fun _ => ?_) (fun h => absurd h (by omega))
      rw [show (kk : Int) = z by omega] at f2
      exact z_vret C hr hlk dX10_goes_18 (by decide) (by decide) ⟨rfl, rfl, rfl, f2, f3⟩
    | succ n ih =>
      intro kk g1  hkk f1 f2 f3
      have hay3 : zAt ad (i) (ad i) := rfl
      obtain ⟨r8, f4, f5, f6⟩ := f2
      refine z_iload_n C 0 dX10_goes_2 rfl ?_
      refine z_iload_n C 3 dX10_goes_3 rfl ?_
      refine z_icmp_ge (tgt := 18) C dX10_goes_4 (by decide) (by omega) (by omega) (fun h => absurd h (by omega)) (fun _ => ?_)
      refine z_aload_n C 1 dX10_goes_7 rfl ?_
      refine z_iload_n C 2 dX10_goes_8 rfl ?_
      refine z_cV (As := [.int (zI ((b : Int)))]) (rest := []) (ci := 12) C (c_X10_hour0 l D A cs tt N ad _ i hN _ f1 h13 h14 _ f4 b hb) (by omega) hay3 f1 rfl rfl mv_yX10_hour q_1889 hd_yX10_hour (by decide) (Nat.le_of_ble_eq_true rfl) (by decide) dX10_goes_9 rfl (kV0 fun ga ha => ?_)
      obtain ⟨hb1, hb2⟩ := ha
      refine z_iinc (z := ((kk + 1 : Nat) : Int)) (lv' := [(3, .int (zI (((kk + 1 : Nat) : Int)))), (0, .ref (ad i)), (1, .int (zI ((b : Int)))), (2, .int (zI (z)))]) (j := 0) C dX10_goes_12 rfl (congrArg zI (by omega)) (by decide) rfl ?_
      refine z_goto (tgt := 2) C dX10_goes_15 (by decide) ?_
      exact ih (kk + 1) ga (by omega) ((hb2 _ (by omega)).trans f1) ⟨_, hb1, by rw [uZ_s, f5]; omega, fun j h => (uZ_n _ _ h).trans (f6 j h)⟩ (fun j h => (hb2 j h).trans (f3 j h))
  refine z_lv (lv' := [(3, .int (zI (((0 : Nat) : Int)))), (0, .ref (ad i)), (1, .int (zI ((b : Int)))), (2, .int (zI (z)))]) [0, 1, 2, 3] rfl ?_
  exact lp z.toNat 0 g  (by omega) hg ⟨r, hr1, by omega, fun j _ => rfl⟩ (fun j _ => rfl)

set_option maxRecDepth 100000 in
set_option maxHeartbeats 4000000 in
theorem c_X10_tries (l : Launch) (D : va_G) (A : Nat → Prop) (cs : Nat → ClassId) (tt : Nat) (N : Nat) (ad : Nat → Nat) (g : Nat → va_E) (i : Nat) (hN : i + 30 ≤ N) (F : Nat → Int) (hg : g i = mC ad i F) (r : Nat → Int) (hr1 : g (i + 1) = iA cs 29200 r) (hz1 : ∀ j, r j = 0) : zM l yX10_tries cX10_tries 1 none ({ frames := 2, cells := 0, slots := 0, locals := 120 } : Room) D A cs tt N ad g [.ref (ad i)] (rV0 N ad fun g' => (∃ r' : Nat → Int, g' (i + 1) = iA cs 29200 r' ∧ ∀ j, r' j = 0) ∧ ∀ j, j ≠ i + 1 → g' j = g j) := by
  have hay1 : zAt ad (i) (ad i) := rfl
  have hay2 : zAt ad (i + 1) (ad (i + 1)) := rfl
  refine z_of (by decide) (Nat.le_of_ble_eq_true rfl) ?_
  intro p e s m below meth c C hr hlk hnm
  refine z_lv (lv' := [(0, .ref (ad i))]) [0] rfl ?_
  refine z_aload_n C 0 dX10_tries_0 rfl ?_
  refine z_iconst (z := 0) C dX10_tries_1 rfl ?_
  refine z_sipush (z := 350) C dX10_tries_2 (by decide) ?_
  refine z_sipush (z := 350) C dX10_tries_5 (by decide) ?_
  refine z_cV (As := [.int (zI (0)), .int (zI (350)), .int (zI (350))]) (rest := []) (ci := 12) C (c_X10_copies l D A cs tt N ad _ i hN _ hg _ hr1 hz1 0 350 350 (Nat.le_of_ble_eq_true rfl) (Nat.le_of_ble_eq_true rfl)) (by omega) hay1 hg rfl rfl mv_yX10_copies q_1881 hd_yX10_copies (by decide) (Nat.le_of_ble_eq_true rfl) (by decide) dX10_tries_8 rfl (kV0 fun gqy3 hqy3 => ?_)
  obtain ⟨⟨rqy3, hrqy3, hzqy3⟩, hfqy3⟩ := hqy3
  exact z_vret C hr hlk dX10_tries_11 (by decide) (by decide) ⟨rfl, rfl, rfl, ⟨_, hrqy3, hzqy3⟩, fun j h1 => by rw [hfqy3 _ (by omega)]⟩

set_option maxRecDepth 100000 in
set_option maxHeartbeats 4000000 in
theorem c_X10_fault (l : Launch) (D : va_G) (A : Nat → Prop) (cs : Nat → ClassId) (tt : Nat) (N : Nat) (ad : Nat → Nat) (g : Nat → va_E) (i : Nat) (hN : i + 30 ≤ N) (hM : isM0 cs ad g i) : zM l yX10_fault cX10_fault 1 (some .int) ({ frames := 1, cells := 0, slots := 0, locals := 60 } : Room) D A cs tt N ad g [.ref (ad i)] (rI0 N ad fun r g' => r = -1 ∧ pM ad i g g' 0) := by
  obtain ⟨B, ⟨hg, hA⟩, hB7, hB0⟩ := id hM
  have hay1 : zAt ad (i) (ad i) := rfl
  refine z_of (by decide) (Nat.le_of_ble_eq_true rfl) ?_
  intro p e s m below meth c C hr hlk hnm
  refine z_lv (lv' := [(0, .ref (ad i))]) [0] rfl ?_
  refine z_aload_n C 0 dX10_fault_0 rfl ?_
  refine z_iconst (z := 0) C dX10_fault_1 rfl ?_
  refine z_put (fs' := mF ad (i) (uZ mF0 12 (0))) C (by omega) hay1 hg tyX10 tyX10_ok nmX10 rfl inA_X10 12 (by decide) q_1471 rfl rfl rfl rfl (Nat.le_of_ble_eq_true rfl) rfl dX10_fault_2 (fun gy2 egy3 => ?_)
  have hgy4 := up_s egy3
  refine z_aload_n C 0 dX10_fault_5 rfl ?_
  refine z_get (v := .int (zI (-1))) C (by omega) hay1 hgy4 rfl inA_X10 24 (by decide) q_1483 rfl (fv (F := (uZ mF0 12 (0))) (f := 24) (fn rfl (by decide))) dX10_fault_6 ?_
  exact z_iret C hr hlk dX10_fault_9 (by decide) (by decide) ⟨-1, rfl, rfl, rfl, rfl, ⟨⟨_, hgy4, (uZ_s _ _ _)⟩, fun j h1 => by rw [egy3, va_up_ne _ _ (by omega)]⟩⟩

set_option maxRecDepth 100000 in
set_option maxHeartbeats 4000000 in
theorem c_X10_undo (l : Launch) (D : va_G) (A : Nat → Prop) (cs : Nat → ClassId) (tt : Nat) (N : Nat) (ad : Nat → Nat) (g : Nat → va_E) (i : Nat) (hN : i + 30 ≤ N) (hM : isM0 cs ad g i) : zM l yX10_undo cX10_undo 1 (some .int) ({ frames := 1, cells := 0, slots := 0, locals := 60 } : Room) D A cs tt N ad g [.ref (ad i)] (rI0 N ad fun r g' => r = -1 ∧ pM ad i g g' 0) := by
  obtain ⟨B, ⟨hg, hA⟩, hB7, hB0⟩ := id hM
  have hay1 : zAt ad (i) (ad i) := rfl
  refine z_of (by decide) (Nat.le_of_ble_eq_true rfl) ?_
  intro p e s m below meth c C hr hlk hnm
  refine z_lv (lv' := [(0, .ref (ad i))]) [0] rfl ?_
  refine z_aload_n C 0 dX10_undo_0 rfl ?_
  refine z_iconst (z := 0) C dX10_undo_1 rfl ?_
  refine z_put (fs' := mF ad (i) (uZ mF0 12 (0))) C (by omega) hay1 hg tyX10 tyX10_ok nmX10 rfl inA_X10 12 (by decide) q_1471 rfl rfl rfl rfl (Nat.le_of_ble_eq_true rfl) rfl dX10_undo_2 (fun gy2 egy3 => ?_)
  have hgy4 := up_s egy3
  refine z_aload_n C 0 dX10_undo_5 rfl ?_
  refine z_get (v := .int (zI (0))) C (by omega) hay1 hgy4 rfl inA_X10 15 (by decide) q_1474 rfl (fv (F := (uZ mF0 12 (0))) (f := 15) (fn rfl (by decide))) dX10_undo_6 ?_
  refine z_if_ne (tgt := 14) C dX10_undo_9 (by decide) (by omega) (fun h => absurd h (by omega)) (fun _ => ?_)
  refine z_iconst (z := -1) C dX10_undo_12 rfl ?_
  exact z_iret C hr hlk dX10_undo_13 (by decide) (by decide) ⟨-1, rfl, rfl, rfl, rfl, ⟨⟨_, hgy4, (uZ_s _ _ _)⟩, fun j h1 => by rw [egy3, va_up_ne _ _ (by omega)]⟩⟩

set_option maxRecDepth 100000 in
set_option maxHeartbeats 4000000 in
theorem c_X10_restore (l : Launch) (D : va_G) (A : Nat → Prop) (cs : Nat → ClassId) (tt : Nat) (N : Nat) (ad : Nat → Nat) (g : Nat → va_E) (i : Nat) (hN : i + 30 ≤ N) (hM : isM0 cs ad g i) : zM l yX10_restore cX10_restore 2 (some .boolean) ({ frames := 1, cells := 0, slots := 0, locals := 60 } : Room) D A cs tt N ad g [.ref (ad i)] (rI0 N ad fun r g' => r = 0 ∧ pM ad i g g' 0) := by
  obtain ⟨B, ⟨hg, hA⟩, hB7, hB0⟩ := id hM
  have hay1 : zAt ad (i) (ad i) := rfl
  refine z_of (by decide) (Nat.le_of_ble_eq_true rfl) ?_
  intro p e s m below meth c C hr hlk hnm
  refine z_lv (lv' := [(0, .ref (ad i))]) [0] rfl ?_
  refine z_aload_n C 0 dX10_restore_0 rfl ?_
  refine z_iconst (z := 0) C dX10_restore_1 rfl ?_
  refine z_put (fs' := mF ad (i) (uZ mF0 12 (0))) C (by omega) hay1 hg tyX10 tyX10_ok nmX10 rfl inA_X10 12 (by decide) q_1471 rfl rfl rfl rfl (Nat.le_of_ble_eq_true rfl) rfl dX10_restore_2 (fun gy2 egy3 => ?_)
  have hgy4 := up_s egy3
  refine z_aload_n C 0 dX10_restore_5 rfl ?_
  refine z_get (v := .int (zI (0))) C (by omega) hay1 hgy4 rfl inA_X10 21 (by decide) q_1480 rfl (fv (F := (uZ mF0 12 (0))) (f := 21) (fn rfl (by decide))) dX10_restore_6 ?_
  refine z_if_ne (tgt := 14) C dX10_restore_9 (by decide) (by omega) (fun h => absurd h (by omega)) (fun _ => ?_)
  refine z_iconst (z := 0) C dX10_restore_12 rfl ?_
  exact z_zret C hr hlk dX10_restore_13 (by decide) (by decide) (by decide) ⟨0, rfl, rfl, rfl, rfl, ⟨⟨_, hgy4, (uZ_s _ _ _)⟩, fun j h1 => by rw [egy3, va_up_ne _ _ (by omega)]⟩⟩

set_option maxRecDepth 100000 in
set_option maxHeartbeats 4000000 in
theorem c_X10_forget (l : Launch) (D : va_G) (A : Nat → Prop) (cs : Nat → ClassId) (tt : Nat) (N : Nat) (ad : Nat → Nat) (g : Nat → va_E) (i : Nat) (hN : i + 30 ≤ N) (hM : isM0 cs ad g i) : zM l yX10_forget cX10_forget 1 none ({ frames := 1, cells := 0, slots := 0, locals := 60 } : Room) D A cs tt N ad g [.ref (ad i)] (rV0 N ad fun g' => pM ad i g g' 0) := by
  obtain ⟨B, ⟨hg, hA⟩, hB7, hB0⟩ := id hM
  have hay1 : zAt ad (i) (ad i) := rfl
  refine z_of (by decide) (Nat.le_of_ble_eq_true rfl) ?_
  intro p e s m below meth c C hr hlk hnm
  refine z_lv (lv' := [(0, .ref (ad i))]) [0] rfl ?_
  refine z_aload_n C 0 dX10_forget_0 rfl ?_
  refine z_iconst (z := 0) C dX10_forget_1 rfl ?_
  refine z_put (fs' := mF ad (i) (uZ mF0 12 (0))) C (by omega) hay1 hg tyX10 tyX10_ok nmX10 rfl inA_X10 12 (by decide) q_1471 rfl rfl rfl rfl (Nat.le_of_ble_eq_true rfl) rfl dX10_forget_2 (fun gy2 egy3 => ?_)
  have hgy4 := up_s egy3
  refine z_aload_n C 0 dX10_forget_5 rfl ?_
  refine z_iconst (z := 0) C dX10_forget_6 rfl ?_
  refine z_put (fs' := mF ad (i) (uZ (uZ mF0 12 (0)) 17 (0))) C (by omega) hay1 hgy4 tyX10 tyX10_ok nmX10 rfl inA_X10 17 (by decide) q_1476 rfl rfl rfl rfl (Nat.le_of_ble_eq_true rfl) rfl dX10_forget_7 (fun gy5 egy6 => ?_)
  have hgy7 := up_s egy6
  exact z_vret C hr hlk dX10_forget_10 (by decide) (by decide) ⟨rfl, rfl, rfl, ⟨⟨_, hgy7, (fn (uZ_s _ _ _) (by decide))⟩, fun j h1 => by rw [egy6, va_up_ne _ _ (by omega)]; rw [egy3, va_up_ne _ _ (by omega)]⟩⟩

set_option maxRecDepth 100000 in
set_option maxHeartbeats 4000000 in
theorem c_X10_forecast (l : Launch) (D : va_G) (A : Nat → Prop) (cs : Nat → ClassId) (tt : Nat) (N : Nat) (ad : Nat → Nat) (g : Nat → va_E) (i : Nat) (hN : i + 30 ≤ N) (hM : isM0 cs ad g i) (z z1 : Int) (hz : -2147483648 ≤ z ∧ z ≤ 2147483647) (hz1 : -2147483648 ≤ z1 ∧ z1 ≤ 2147483647) : zM l yX10_forecast cX10_forecast 3 (some .int) ({ frames := 4, cells := 0, slots := 0, locals := 240 } : Room) D A cs tt N ad g [.ref (ad i), .int (zI z), .int (zI z1)] (rI0 N ad fun r g' => pM ad i g g' 1) := by
  obtain ⟨B, ⟨hg, hA⟩, hB7, hB0⟩ := id hM
  have hay1 : zAt ad (i) (ad i) := rfl
  refine z_of (by decide) (Nat.le_of_ble_eq_true rfl) ?_
  intro p e s m below meth c C hr hlk hnm
  refine z_lv (lv' := [(0, .ref (ad i)), (1, .int (zI (z))), (2, .int (zI (z1)))]) [0, 1, 2] rfl ?_
  refine z_aload_n C 0 dX10_forecast_0 rfl ?_
  refine z_iconst (z := 0) C dX10_forecast_1 rfl ?_
  refine z_put (fs' := mF ad (i) (uZ mF0 12 (0))) C (by omega) hay1 hg tyX10 tyX10_ok nmX10 rfl inA_X10 12 (by decide) q_1471 rfl rfl rfl rfl (Nat.le_of_ble_eq_true rfl) rfl dX10_forecast_2 (fun gy2 egy3 => ?_)
  have hgy4 := up_s egy3
  refine z_aload_n C 0 dX10_forecast_5 rfl ?_
  refine z_iload_n C 1 dX10_forecast_6 rfl ?_
  refine z_iconst (z := 0) C dX10_forecast_7 rfl ?_
  refine z_aload_n C 0 dX10_forecast_8 rfl ?_
  refine z_get (v := .int (zI (0))) C (by omega) hay1 hgy4 rfl inA_X10 14 (by decide) q_1473 rfl (fv (F := (uZ mF0 12 (0))) (f := 14) (fn rfl (by decide))) dX10_forecast_9 ?_
  refine z_iconst (z := 1) C dX10_forecast_12 rfl ?_
  refine z_isub C dX10_forecast_13 ?_
  refine z_cS (As := [.int (zI (z)), .int (zI (0)), .int (zI (0 - 1))]) (rest := [.ref (ad i)]) C (c_X10_within l D A cs tt N ad _ (z) (0) (0 - 1) (by omega) (by omega) (by omega)) ms_yX10_within q_1690 hd_yX10_within (by decide) (Nat.le_of_ble_eq_true rfl) (by decide) dX10_forecast_14 rfl (kI0 fun qy5 gqy5 hqy5 => ?_)
  obtain ⟨eqy5, rfl⟩ := hqy5
  rw [if_neg (by omega)] at eqy5
  subst eqy5
  refine z_if_eq (tgt := 33) C dX10_forecast_17 (by decide) (by omega) (fun _ => ?_) (fun h => absurd h (by omega))
  refine z_iconst (z := 0) C dX10_forecast_33 rfl ?_
  refine z_iconst (z := 1) C dX10_forecast_34 rfl ?_
  refine z_cV (As := [.int (zI (0)), .int (zI (1))]) (rest := []) (ci := 12) C (c_X10_right0 l D A cs tt N ad _ i hN _ hgy4 (uZ_s _ _ _) 1 (by decide)) (by omega) hay1 hgy4 rfl rfl mv_yX10_right q_1652 hd_yX10_right (by decide) (Nat.le_of_ble_eq_true rfl) (by decide) dX10_forecast_35 rfl (kI0 fun qy6 gqy6 hqy6 => ?_)
  obtain ⟨rfl, hcqy6, hfqy6⟩ := hqy6
  refine z_if_ne (tgt := 43) C dX10_forecast_38 (by decide) (by omega) (fun h => absurd h (by omega)) (fun _ => ?_)
  refine z_iconst (z := 0) C dX10_forecast_41 rfl ?_
  exact z_iret C hr hlk dX10_forecast_42 (by decide) (by decide) ⟨0, rfl, rfl, rfl, ⟨⟨_, hcqy6, (uZ_s _ _ _)⟩, fun j h1 => by rw [hfqy6 _ (by omega)]; rw [egy3, va_up_ne _ _ (by omega)]⟩⟩

set_option maxRecDepth 100000 in
set_option maxHeartbeats 4000000 in
theorem c_X10_slope (l : Launch) (D : va_G) (A : Nat → Prop) (cs : Nat → ClassId) (tt : Nat) (N : Nat) (ad : Nat → Nat) (g : Nat → va_E) (i : Nat) (hN : i + 30 ≤ N) (hM : isM0 cs ad g i) (z z1 : Int) (hz : -2147483648 ≤ z ∧ z ≤ 2147483647) (hz1 : -2147483648 ≤ z1 ∧ z1 ≤ 2147483647) : zM l yX10_slope cX10_slope 3 (some .int) ({ frames := 4, cells := 0, slots := 0, locals := 240 } : Room) D A cs tt N ad g [.ref (ad i), .int (zI z), .int (zI z1)] (rI0 N ad fun r g' => pM ad i g g' 1) := by
  obtain ⟨B, ⟨hg, hA⟩, hB7, hB0⟩ := id hM
  have hay1 : zAt ad (i) (ad i) := rfl
  refine z_of (by decide) (Nat.le_of_ble_eq_true rfl) ?_
  intro p e s m below meth c C hr hlk hnm
  refine z_lv (lv' := [(0, .ref (ad i)), (1, .int (zI (z))), (2, .int (zI (z1)))]) [0, 1, 2] rfl ?_
  refine z_aload_n C 0 dX10_slope_0 rfl ?_
  refine z_iconst (z := 0) C dX10_slope_1 rfl ?_
  refine z_put (fs' := mF ad (i) (uZ mF0 12 (0))) C (by omega) hay1 hg tyX10 tyX10_ok nmX10 rfl inA_X10 12 (by decide) q_1471 rfl rfl rfl rfl (Nat.le_of_ble_eq_true rfl) rfl dX10_slope_2 (fun gy2 egy3 => ?_)
  have hgy4 := up_s egy3
  refine z_aload_n C 0 dX10_slope_5 rfl ?_
  refine z_iload_n C 1 dX10_slope_6 rfl ?_
  refine z_cV (As := [.int (zI (z))]) (rest := []) (ci := 12) C (c_X10_isSlope0 l D A cs tt N ad _ i hN _ hgy4 (uZ_s _ _ _) (fn rfl (by decide)) z hz) (by omega) hay1 hgy4 rfl rfl mv_yX10_isSlope q_1807 hd_yX10_isSlope (by decide) (Nat.le_of_ble_eq_true rfl) (by decide) dX10_slope_7 rfl (kI0 fun qy5 gqy5 hqy5 => ?_)
  obtain ⟨rfl, hcqy5, hfqy5⟩ := hqy5
  refine z_if_eq (tgt := 28) C dX10_slope_10 (by decide) (by omega) (fun _ => ?_) (fun h => absurd h (by omega))
  refine z_iconst (z := 0) C dX10_slope_28 rfl ?_
  exact z_iret C hr hlk dX10_slope_29 (by decide) (by decide) ⟨0, rfl, rfl, rfl, ⟨⟨_, hcqy5, (uZ_s _ _ _)⟩, fun j h1 => by rw [hfqy5 _ (by omega)]; rw [egy3, va_up_ne _ _ (by omega)]⟩⟩

set_option maxRecDepth 100000 in
set_option maxHeartbeats 4000000 in
theorem c_X10_layer (l : Launch) (D : va_G) (A : Nat → Prop) (cs : Nat → ClassId) (tt : Nat) (N : Nat) (ad : Nat → Nat) (g : Nat → va_E) (i : Nat) (hN : i + 30 ≤ N) (hM : isM0 cs ad g i) (z z1 z2 : Int) (hz : -2147483648 ≤ z ∧ z ≤ 2147483647) (hz1 : -2147483648 ≤ z1 ∧ z1 ≤ 2147483647) (hz2 : -2147483648 ≤ z2 ∧ z2 ≤ 2147483647) : zM l yX10_layer cX10_layer 4 (some .int) ({ frames := 4, cells := 0, slots := 0, locals := 240 } : Room) D A cs tt N ad g [.ref (ad i), .int (zI z), .int (zI z1), .int (zI z2)] (rI0 N ad fun r g' => pM ad i g g' 1) := by
  obtain ⟨B, ⟨hg, hA⟩, hB7, hB0⟩ := id hM
  have hay1 : zAt ad (i) (ad i) := rfl
  refine z_of (by decide) (Nat.le_of_ble_eq_true rfl) ?_
  intro p e s m below meth c C hr hlk hnm
  refine z_lv (lv' := [(0, .ref (ad i)), (1, .int (zI (z))), (2, .int (zI (z1))), (3, .int (zI (z2)))]) [0, 1, 2, 3] rfl ?_
  refine z_aload_n C 0 dX10_layer_0 rfl ?_
  refine z_iconst (z := 0) C dX10_layer_1 rfl ?_
  refine z_put (fs' := mF ad (i) (uZ mF0 12 (0))) C (by omega) hay1 hg tyX10 tyX10_ok nmX10 rfl inA_X10 12 (by decide) q_1471 rfl rfl rfl rfl (Nat.le_of_ble_eq_true rfl) rfl dX10_layer_2 (fun gy2 egy3 => ?_)
  have hgy4 := up_s egy3
  refine z_aload_n C 0 dX10_layer_5 rfl ?_
  refine z_iload_n C 1 dX10_layer_6 rfl ?_
  refine z_iload_n C 2 dX10_layer_7 rfl ?_
  refine z_cV (As := [.int (zI (z)), .int (zI (z1))]) (rest := []) (ci := 12) C (c_X10_isLayer0 l D A cs tt N ad _ i hN _ hgy4 (uZ_s _ _ _) (fn rfl (by decide)) z z1 hz hz1) (by omega) hay1 hgy4 rfl rfl mv_yX10_isLayer q_1823 hd_yX10_isLayer (by decide) (Nat.le_of_ble_eq_true rfl) (by decide) dX10_layer_8 rfl (kI0 fun qy5 gqy5 hqy5 => ?_)
  obtain ⟨rfl, hcqy5, hfqy5⟩ := hqy5
  refine z_if_eq (tgt := 29) C dX10_layer_11 (by decide) (by omega) (fun _ => ?_) (fun h => absurd h (by omega))
  refine z_iconst (z := 0) C dX10_layer_29 rfl ?_
  exact z_iret C hr hlk dX10_layer_30 (by decide) (by decide) ⟨0, rfl, rfl, rfl, ⟨⟨_, hcqy5, (uZ_s _ _ _)⟩, fun j h1 => by rw [hfqy5 _ (by omega)]; rw [egy3, va_up_ne _ _ (by omega)]⟩⟩

set_option maxRecDepth 100000 in
set_option maxHeartbeats 4000000 in
theorem c_X10_told (l : Launch) (D : va_G) (A : Nat → Prop) (cs : Nat → ClassId) (tt : Nat) (N : Nat) (ad : Nat → Nat) (g : Nat → va_E) (i : Nat) (hN : i + 30 ≤ N) (hM : isM0 cs ad g i) (z z1 z2 : Int) (hz : -2147483648 ≤ z ∧ z ≤ 2147483647) (hz1 : -2147483648 ≤ z1 ∧ z1 ≤ 2147483647) (hz2 : -2147483648 ≤ z2 ∧ z2 ≤ 2147483647) : zM l yX10_told cX10_told 4 (some .int) ({ frames := 4, cells := 0, slots := 0, locals := 240 } : Room) D A cs tt N ad g [.ref (ad i), .int (zI z), .int (zI z1), .int (zI z2)] (rI0 N ad fun r g' => pM ad i g g' 1) := by
  obtain ⟨B, ⟨hg, hA⟩, hB7, hB0⟩ := id hM
  have hay1 : zAt ad (i) (ad i) := rfl
  refine z_of (by decide) (Nat.le_of_ble_eq_true rfl) ?_
  intro p e s m below meth c C hr hlk hnm
  refine z_lv (lv' := [(0, .ref (ad i)), (1, .int (zI (z))), (2, .int (zI (z1))), (3, .int (zI (z2)))]) [0, 1, 2, 3] rfl ?_
  refine z_aload_n C 0 dX10_told_0 rfl ?_
  refine z_iconst (z := 0) C dX10_told_1 rfl ?_
  refine z_put (fs' := mF ad (i) (uZ mF0 12 (0))) C (by omega) hay1 hg tyX10 tyX10_ok nmX10 rfl inA_X10 12 (by decide) q_1471 rfl rfl rfl rfl (Nat.le_of_ble_eq_true rfl) rfl dX10_told_2 (fun gy2 egy3 => ?_)
  have hgy4 := up_s egy3
  refine z_aload_n C 0 dX10_told_5 rfl ?_
  refine z_iload_n C 1 dX10_told_6 rfl ?_
  refine z_iload_n C 2 dX10_told_7 rfl ?_
  refine z_cV (As := [.int (zI (z)), .int (zI (z1))]) (rest := []) (ci := 12) C (c_X10_isLayer0 l D A cs tt N ad _ i hN _ hgy4 (uZ_s _ _ _) (fn rfl (by decide)) z z1 hz hz1) (by omega) hay1 hgy4 rfl rfl mv_yX10_isLayer q_1823 hd_yX10_isLayer (by decide) (Nat.le_of_ble_eq_true rfl) (by decide) dX10_told_8 rfl (kI0 fun qy5 gqy5 hqy5 => ?_)
  obtain ⟨rfl, hcqy5, hfqy5⟩ := hqy5
  refine z_if_ne (tgt := 16) C dX10_told_11 (by decide) (by omega) (fun h => absurd h (by omega)) (fun _ => ?_)
  refine z_iconst (z := 0) C dX10_told_14 rfl ?_
  exact z_iret C hr hlk dX10_told_15 (by decide) (by decide) ⟨0, rfl, rfl, rfl, ⟨⟨_, hcqy5, (uZ_s _ _ _)⟩, fun j h1 => by rw [hfqy5 _ (by omega)]; rw [egy3, va_up_ne _ _ (by omega)]⟩⟩

set_option maxRecDepth 100000 in
set_option maxHeartbeats 4000000 in
theorem c_X10_then (l : Launch) (D : va_G) (A : Nat → Prop) (cs : Nat → ClassId) (tt : Nat) (N : Nat) (ad : Nat → Nat) (g : Nat → va_E) (i : Nat) (hN : i + 30 ≤ N) (hM : isM0 cs ad g i) (z z1 z2 : Int) (hz : -2147483648 ≤ z ∧ z ≤ 2147483647) (hz1 : -2147483648 ≤ z1 ∧ z1 ≤ 2147483647) (hz2 : -2147483648 ≤ z2 ∧ z2 ≤ 2147483647) : zM l yX10_then cX10_then 5 (some .int) ({ frames := 4, cells := 0, slots := 0, locals := 240 } : Room) D A cs tt N ad g [.ref (ad i), .int (zI z), .int (zI z1), .int (zI z2)] (rI0 N ad fun r g' => pM ad i g g' 1) := by
  obtain ⟨B, ⟨hg, hA⟩, hB7, hB0⟩ := id hM
  have hay1 : zAt ad (i) (ad i) := rfl
  refine z_of (by decide) (Nat.le_of_ble_eq_true rfl) ?_
  intro p e s m below meth c C hr hlk hnm
  refine z_lv (lv' := [(0, .ref (ad i)), (1, .int (zI (z))), (2, .int (zI (z1))), (3, .int (zI (z2)))]) [0, 1, 2, 3] rfl ?_
  refine z_aload_n C 0 dX10_then_0 rfl ?_
  refine z_iconst (z := 0) C dX10_then_1 rfl ?_
  refine z_put (fs' := mF ad (i) (uZ mF0 12 (0))) C (by omega) hay1 hg tyX10 tyX10_ok nmX10 rfl inA_X10 12 (by decide) q_1471 rfl rfl rfl rfl (Nat.le_of_ble_eq_true rfl) rfl dX10_then_2 (fun gy2 egy3 => ?_)
  have hgy4 := up_s egy3
  refine z_aload_n C 0 dX10_then_5 rfl ?_
  refine z_iload_n C 1 dX10_then_6 rfl ?_
  refine z_cV (As := [.int (zI (z))]) (rest := []) (ci := 12) C (c_X10_isSlope0 l D A cs tt N ad _ i hN _ hgy4 (uZ_s _ _ _) (fn rfl (by decide)) z hz) (by omega) hay1 hgy4 rfl rfl mv_yX10_isSlope q_1807 hd_yX10_isSlope (by decide) (Nat.le_of_ble_eq_true rfl) (by decide) dX10_then_7 rfl (kI0 fun qy5 gqy5 hqy5 => ?_)
  obtain ⟨rfl, hcqy5, hfqy5⟩ := hqy5
  refine z_if_eq (tgt := 43) C dX10_then_10 (by decide) (by omega) (fun _ => ?_) (fun h => absurd h (by omega))
  refine z_iconst (z := 0) C dX10_then_43 rfl ?_
  exact z_iret C hr hlk dX10_then_44 (by decide) (by decide) ⟨0, rfl, rfl, rfl, ⟨⟨_, hcqy5, (uZ_s _ _ _)⟩, fun j h1 => by rw [hfqy5 _ (by omega)]; rw [egy3, va_up_ne _ _ (by omega)]⟩⟩

set_option maxRecDepth 100000 in
set_option maxHeartbeats 4000000 in
theorem c_X10_once (l : Launch) (D : va_G) (A : Nat → Prop) (cs : Nat → ClassId) (tt : Nat) (N : Nat) (ad : Nat → Nat) (g : Nat → va_E) (i : Nat) (hN : i + 30 ≤ N) (hM : isM0 cs ad g i) (z z1 : Int) (hz : -2147483648 ≤ z ∧ z ≤ 2147483647) (hz1 : -2147483648 ≤ z1 ∧ z1 ≤ 2147483647) : zM l yX10_once cX10_once 4 (some .int) ({ frames := 4, cells := 0, slots := 0, locals := 240 } : Room) D A cs tt N ad g [.ref (ad i), .int (zI z), .int (zI z1)] (rI0 N ad fun r g' => pM ad i g g' 1) := by
  obtain ⟨B, ⟨hg, hA⟩, hB7, hB0⟩ := id hM
  have hay1 : zAt ad (i) (ad i) := rfl
  refine z_of (by decide) (Nat.le_of_ble_eq_true rfl) ?_
  intro p e s m below meth c C hr hlk hnm
  refine z_lv (lv' := [(0, .ref (ad i)), (1, .int (zI (z))), (2, .int (zI (z1)))]) [0, 1, 2] rfl ?_
  refine z_aload_n C 0 dX10_once_0 rfl ?_
  refine z_iconst (z := 0) C dX10_once_1 rfl ?_
  refine z_put (fs' := mF ad (i) (uZ mF0 12 (0))) C (by omega) hay1 hg tyX10 tyX10_ok nmX10 rfl inA_X10 12 (by decide) q_1471 rfl rfl rfl rfl (Nat.le_of_ble_eq_true rfl) rfl dX10_once_2 (fun gy2 egy3 => ?_)
  have hgy4 := up_s egy3
  refine z_aload_n C 0 dX10_once_5 rfl ?_
  refine z_iload_n C 1 dX10_once_6 rfl ?_
  refine z_cV (As := [.int (zI (z))]) (rest := []) (ci := 12) C (c_X10_isSlope0 l D A cs tt N ad _ i hN _ hgy4 (uZ_s _ _ _) (fn rfl (by decide)) z hz) (by omega) hay1 hgy4 rfl rfl mv_yX10_isSlope q_1807 hd_yX10_isSlope (by decide) (Nat.le_of_ble_eq_true rfl) (by decide) dX10_once_7 rfl (kI0 fun qy5 gqy5 hqy5 => ?_)
  obtain ⟨rfl, hcqy5, hfqy5⟩ := hqy5
  refine z_if_eq (tgt := 27) C dX10_once_10 (by decide) (by omega) (fun _ => ?_) (fun h => absurd h (by omega))
  refine z_iconst (z := 0) C dX10_once_27 rfl ?_
  exact z_iret C hr hlk dX10_once_28 (by decide) (by decide) ⟨0, rfl, rfl, rfl, ⟨⟨_, hcqy5, (uZ_s _ _ _)⟩, fun j h1 => by rw [hfqy5 _ (by omega)]; rw [egy3, va_up_ne _ _ (by omega)]⟩⟩

set_option maxRecDepth 100000 in
set_option maxHeartbeats 4000000 in
theorem c_X10_gone (l : Launch) (D : va_G) (A : Nat → Prop) (cs : Nat → ClassId) (tt : Nat) (N : Nat) (ad : Nat → Nat) (g : Nat → va_E) (i : Nat) (hN : i + 30 ≤ N) (hM : isM0 cs ad g i) (z : Int) (hz : -2147483648 ≤ z ∧ z ≤ 2147483647) : zM l yX10_gone cX10_gone 3 (some .int) ({ frames := 4, cells := 0, slots := 0, locals := 240 } : Room) D A cs tt N ad g [.ref (ad i), .int (zI z)] (rI0 N ad fun r g' => pM ad i g g' 1) := by
  obtain ⟨B, ⟨hg, hA⟩, hB7, hB0⟩ := id hM
  have hay1 : zAt ad (i) (ad i) := rfl
  have a1 : g (i + 1) = iA cs 29200 (B 1) := hA 1 (by decide) (by decide)
  have hay2 : zAt ad (i + 1) (ad (i + 1)) := rfl
  refine z_of (by decide) (Nat.le_of_ble_eq_true rfl) ?_
  intro p e s m below meth c C hr hlk hnm
  refine z_lv (lv' := [(0, .ref (ad i)), (1, .int (zI (z)))]) [0, 1] rfl ?_
  refine z_aload_n C 0 dX10_gone_0 rfl ?_
  refine z_iconst (z := 0) C dX10_gone_1 rfl ?_
  refine z_put (fs' := mF ad (i) (uZ mF0 12 (0))) C (by omega) hay1 hg tyX10 tyX10_ok nmX10 rfl inA_X10 12 (by decide) q_1471 rfl rfl rfl rfl (Nat.le_of_ble_eq_true rfl) rfl dX10_gone_2 (fun gy3 egy4 => ?_)
  have hgy5 := up_s egy4
  refine z_aload_n C 0 dX10_gone_5 rfl ?_
  refine z_iload_n C 1 dX10_gone_6 rfl ?_
  refine z_iconst (z := 0) C dX10_gone_7 rfl ?_
  refine z_aload_n C 0 dX10_gone_8 rfl ?_
  refine z_get (v := .ref (ad (i + 1))) C (by omega) hay1 hgy5 rfl inA_X10 0 (by decide) q_1459 rfl rfl dX10_gone_9 ?_
  refine z_iconst (z := 1) C dX10_gone_12 rfl ?_
  have hgy6 := up_n egy4 a1 (ne_o (i := i) (c := 1) (d := 0) rfl)
  refine z_iald C (by omega) hay2 hgy6 (1) (by omega) (by omega) (by decide) dX10_gone_13 ?_
  rw [show (B 1) (1) = 0 from (hB0 1 (by decide)) _]
  refine z_iconst (z := 1) C dX10_gone_14 rfl ?_
  refine z_isub C dX10_gone_15 ?_
  refine z_cS (As := [.int (zI (z)), .int (zI (0)), .int (zI (0 - 1))]) (rest := [.ref (ad i)]) C (c_X10_within l D A cs tt N ad _ (z) (0) (0 - 1) (by omega) (by omega) (by omega)) ms_yX10_within q_1690 hd_yX10_within (by decide) (Nat.le_of_ble_eq_true rfl) (by decide) dX10_gone_16 rfl (kI0 fun qy7 gqy7 hqy7 => ?_)
  obtain ⟨eqy7, rfl⟩ := hqy7
  rw [if_neg (by omega)] at eqy7
  subst eqy7
  refine z_iconst (z := 1) C dX10_gone_19 rfl ?_
  refine z_cV (As := [.int (zI (0)), .int (zI (1))]) (rest := []) (ci := 12) C (c_X10_right0 l D A cs tt N ad _ i hN _ hgy5 (uZ_s _ _ _) 1 (by decide)) (by omega) hay1 hgy5 rfl rfl mv_yX10_right q_1652 hd_yX10_right (by decide) (Nat.le_of_ble_eq_true rfl) (by decide) dX10_gone_20 rfl (kI0 fun qy8 gqy8 hqy8 => ?_)
  obtain ⟨rfl, hcqy8, hfqy8⟩ := hqy8
  refine z_if_ne (tgt := 28) C dX10_gone_23 (by decide) (by omega) (fun h => absurd h (by omega)) (fun _ => ?_)
  refine z_iconst (z := 0) C dX10_gone_26 rfl ?_
  exact z_iret C hr hlk dX10_gone_27 (by decide) (by decide) ⟨0, rfl, rfl, rfl, ⟨⟨_, hcqy8, (uZ_s _ _ _)⟩, fun j h1 => by rw [hfqy8 _ (by omega)]; rw [egy4, va_up_ne _ _ (by omega)]⟩⟩

set_option maxRecDepth 100000 in
set_option maxHeartbeats 4000000 in
theorem c_X10_stands (l : Launch) (D : va_G) (A : Nat → Prop) (cs : Nat → ClassId) (tt : Nat) (N : Nat) (ad : Nat → Nat) (g : Nat → va_E) (i : Nat) (hN : i + 30 ≤ N) (hM : isM0 cs ad g i) (z z1 : Int) (hz : -2147483648 ≤ z ∧ z ≤ 2147483647) (hz1 : -2147483648 ≤ z1 ∧ z1 ≤ 2147483647) : zM l yX10_stands cX10_stands 5 (some .int) ({ frames := 4, cells := 0, slots := 0, locals := 240 } : Room) D A cs tt N ad g [.ref (ad i), .int (zI z), .int (zI z1)] (rI0 N ad fun r g' => pM ad i g g' 1) := by
  obtain ⟨B, ⟨hg, hA⟩, hB7, hB0⟩ := id hM
  have hay1 : zAt ad (i) (ad i) := rfl
  refine z_of (by decide) (Nat.le_of_ble_eq_true rfl) ?_
  intro p e s m below meth c C hr hlk hnm
  refine z_lv (lv' := [(0, .ref (ad i)), (1, .int (zI (z))), (2, .int (zI (z1)))]) [0, 1, 2] rfl ?_
  refine z_aload_n C 0 dX10_stands_0 rfl ?_
  refine z_iconst (z := 0) C dX10_stands_1 rfl ?_
  refine z_put (fs' := mF ad (i) (uZ mF0 12 (0))) C (by omega) hay1 hg tyX10 tyX10_ok nmX10 rfl inA_X10 12 (by decide) q_1471 rfl rfl rfl rfl (Nat.le_of_ble_eq_true rfl) rfl dX10_stands_2 (fun gy2 egy3 => ?_)
  have hgy4 := up_s egy3
  refine z_aload_n C 0 dX10_stands_5 rfl ?_
  refine z_iload_n C 1 dX10_stands_6 rfl ?_
  refine z_cV (As := [.int (zI (z))]) (rest := []) (ci := 12) C (c_X10_isSlope0 l D A cs tt N ad _ i hN _ hgy4 (uZ_s _ _ _) (fn rfl (by decide)) z hz) (by omega) hay1 hgy4 rfl rfl mv_yX10_isSlope q_1807 hd_yX10_isSlope (by decide) (Nat.le_of_ble_eq_true rfl) (by decide) dX10_stands_7 rfl (kI0 fun qy5 gqy5 hqy5 => ?_)
  obtain ⟨rfl, hcqy5, hfqy5⟩ := hqy5
  refine z_if_eq (tgt := 27) C dX10_stands_10 (by decide) (by omega) (fun _ => ?_) (fun h => absurd h (by omega))
  refine z_iconst (z := 0) C dX10_stands_27 rfl ?_
  exact z_iret C hr hlk dX10_stands_28 (by decide) (by decide) ⟨0, rfl, rfl, rfl, ⟨⟨_, hcqy5, (uZ_s _ _ _)⟩, fun j h1 => by rw [hfqy5 _ (by omega)]; rw [egy3, va_up_ne _ _ (by omega)]⟩⟩

set_option maxRecDepth 100000 in
set_option maxHeartbeats 4000000 in
theorem c_X10_toLoad (l : Launch) (D : va_G) (A : Nat → Prop) (cs : Nat → ClassId) (tt : Nat) (N : Nat) (ad : Nat → Nat) (g : Nat → va_E) (i : Nat) (hN : i + 30 ≤ N) (hM : isM0 cs ad g i) (z : Int) (hz : -2147483648 ≤ z ∧ z ≤ 2147483647) : zM l yX10_toLoad cX10_toLoad 3 (some .int) ({ frames := 4, cells := 0, slots := 0, locals := 240 } : Room) D A cs tt N ad g [.ref (ad i), .int (zI z)] (rI0 N ad fun r g' => pM ad i g g' 1) := by
  obtain ⟨B, ⟨hg, hA⟩, hB7, hB0⟩ := id hM
  have hay1 : zAt ad (i) (ad i) := rfl
  refine z_of (by decide) (Nat.le_of_ble_eq_true rfl) ?_
  intro p e s m below meth c C hr hlk hnm
  refine z_lv (lv' := [(0, .ref (ad i)), (1, .int (zI (z)))]) [0, 1] rfl ?_
  refine z_aload_n C 0 dX10_toLoad_0 rfl ?_
  refine z_iconst (z := 0) C dX10_toLoad_1 rfl ?_
  refine z_put (fs' := mF ad (i) (uZ mF0 12 (0))) C (by omega) hay1 hg tyX10 tyX10_ok nmX10 rfl inA_X10 12 (by decide) q_1471 rfl rfl rfl rfl (Nat.le_of_ble_eq_true rfl) rfl dX10_toLoad_2 (fun gy2 egy3 => ?_)
  have hgy4 := up_s egy3
  refine z_aload_n C 0 dX10_toLoad_5 rfl ?_
  refine z_iload_n C 1 dX10_toLoad_6 rfl ?_
  refine z_cV (As := [.int (zI (z))]) (rest := []) (ci := 12) C (c_X10_isSlope0 l D A cs tt N ad _ i hN _ hgy4 (uZ_s _ _ _) (fn rfl (by decide)) z hz) (by omega) hay1 hgy4 rfl rfl mv_yX10_isSlope q_1807 hd_yX10_isSlope (by decide) (Nat.le_of_ble_eq_true rfl) (by decide) dX10_toLoad_7 rfl (kI0 fun qy5 gqy5 hqy5 => ?_)
  obtain ⟨rfl, hcqy5, hfqy5⟩ := hqy5
  refine z_if_ne (tgt := 15) C dX10_toLoad_10 (by decide) (by omega) (fun h => absurd h (by omega)) (fun _ => ?_)
  refine z_iconst (z := 0) C dX10_toLoad_13 rfl ?_
  exact z_iret C hr hlk dX10_toLoad_14 (by decide) (by decide) ⟨0, rfl, rfl, rfl, ⟨⟨_, hcqy5, (uZ_s _ _ _)⟩, fun j h1 => by rw [hfqy5 _ (by omega)]; rw [egy3, va_up_ne _ _ (by omega)]⟩⟩

set_option maxRecDepth 100000 in
set_option maxHeartbeats 4000000 in
theorem c_X10_steepest (l : Launch) (D : va_G) (A : Nat → Prop) (cs : Nat → ClassId) (tt : Nat) (N : Nat) (ad : Nat → Nat) (g : Nat → va_E) (i : Nat) (hN : i + 30 ≤ N) (hM : isM0 cs ad g i) (z : Int) (hz : -2147483648 ≤ z ∧ z ≤ 2147483647) : zM l yX10_steepest cX10_steepest 3 (some .int) ({ frames := 4, cells := 0, slots := 0, locals := 240 } : Room) D A cs tt N ad g [.ref (ad i), .int (zI z)] (rI0 N ad fun r g' => pM ad i g g' 1) := by
  obtain ⟨B, ⟨hg, hA⟩, hB7, hB0⟩ := id hM
  have hay1 : zAt ad (i) (ad i) := rfl
  refine z_of (by decide) (Nat.le_of_ble_eq_true rfl) ?_
  intro p e s m below meth c C hr hlk hnm
  refine z_lv (lv' := [(0, .ref (ad i)), (1, .int (zI (z)))]) [0, 1] rfl ?_
  refine z_aload_n C 0 dX10_steepest_0 rfl ?_
  refine z_iconst (z := 0) C dX10_steepest_1 rfl ?_
  refine z_put (fs' := mF ad (i) (uZ mF0 12 (0))) C (by omega) hay1 hg tyX10 tyX10_ok nmX10 rfl inA_X10 12 (by decide) q_1471 rfl rfl rfl rfl (Nat.le_of_ble_eq_true rfl) rfl dX10_steepest_2 (fun gy2 egy3 => ?_)
  have hgy4 := up_s egy3
  refine z_aload_n C 0 dX10_steepest_5 rfl ?_
  refine z_iload_n C 1 dX10_steepest_6 rfl ?_
  refine z_cV (As := [.int (zI (z))]) (rest := []) (ci := 12) C (c_X10_isSlope0 l D A cs tt N ad _ i hN _ hgy4 (uZ_s _ _ _) (fn rfl (by decide)) z hz) (by omega) hay1 hgy4 rfl rfl mv_yX10_isSlope q_1807 hd_yX10_isSlope (by decide) (Nat.le_of_ble_eq_true rfl) (by decide) dX10_steepest_7 rfl (kI0 fun qy5 gqy5 hqy5 => ?_)
  obtain ⟨rfl, hcqy5, hfqy5⟩ := hqy5
  refine z_if_ne (tgt := 15) C dX10_steepest_10 (by decide) (by omega) (fun h => absurd h (by omega)) (fun _ => ?_)
  refine z_iconst (z := 0) C dX10_steepest_13 rfl ?_
  exact z_iret C hr hlk dX10_steepest_14 (by decide) (by decide) ⟨0, rfl, rfl, rfl, ⟨⟨_, hcqy5, (uZ_s _ _ _)⟩, fun j h1 => by rw [hfqy5 _ (by omega)]; rw [egy3, va_up_ne _ _ (by omega)]⟩⟩

set_option maxRecDepth 100000 in
set_option maxHeartbeats 4000000 in
theorem c_X10_toWarm (l : Launch) (D : va_G) (A : Nat → Prop) (cs : Nat → ClassId) (tt : Nat) (N : Nat) (ad : Nat → Nat) (g : Nat → va_E) (i : Nat) (hN : i + 30 ≤ N) (hM : isM0 cs ad g i) (z z1 : Int) (hz : -2147483648 ≤ z ∧ z ≤ 2147483647) (hz1 : -2147483648 ≤ z1 ∧ z1 ≤ 2147483647) : zM l yX10_toWarm cX10_toWarm 6 (some .int) ({ frames := 4, cells := 0, slots := 0, locals := 240 } : Room) D A cs tt N ad g [.ref (ad i), .int (zI z), .int (zI z1)] (rI0 N ad fun r g' => pM ad i g g' 1) := by
  obtain ⟨B, ⟨hg, hA⟩, hB7, hB0⟩ := id hM
  have hay1 : zAt ad (i) (ad i) := rfl
  refine z_of (by decide) (Nat.le_of_ble_eq_true rfl) ?_
  intro p e s m below meth c C hr hlk hnm
  refine z_lv (lv' := [(0, .ref (ad i)), (1, .int (zI (z))), (2, .int (zI (z1)))]) [0, 1, 2] rfl ?_
  refine z_aload_n C 0 dX10_toWarm_0 rfl ?_
  refine z_iconst (z := 0) C dX10_toWarm_1 rfl ?_
  refine z_put (fs' := mF ad (i) (uZ mF0 12 (0))) C (by omega) hay1 hg tyX10 tyX10_ok nmX10 rfl inA_X10 12 (by decide) q_1471 rfl rfl rfl rfl (Nat.le_of_ble_eq_true rfl) rfl dX10_toWarm_2 (fun gy2 egy3 => ?_)
  have hgy4 := up_s egy3
  refine z_aload_n C 0 dX10_toWarm_5 rfl ?_
  refine z_iload_n C 1 dX10_toWarm_6 rfl ?_
  refine z_cV (As := [.int (zI (z))]) (rest := []) (ci := 12) C (c_X10_isSlope0 l D A cs tt N ad _ i hN _ hgy4 (uZ_s _ _ _) (fn rfl (by decide)) z hz) (by omega) hay1 hgy4 rfl rfl mv_yX10_isSlope q_1807 hd_yX10_isSlope (by decide) (Nat.le_of_ble_eq_true rfl) (by decide) dX10_toWarm_7 rfl (kI0 fun qy5 gqy5 hqy5 => ?_)
  obtain ⟨rfl, hcqy5, hfqy5⟩ := hqy5
  refine z_if_eq (tgt := 28) C dX10_toWarm_10 (by decide) (by omega) (fun _ => ?_) (fun h => absurd h (by omega))
  refine z_iconst (z := 0) C dX10_toWarm_28 rfl ?_
  exact z_iret C hr hlk dX10_toWarm_29 (by decide) (by decide) ⟨0, rfl, rfl, rfl, ⟨⟨_, hcqy5, (uZ_s _ _ _)⟩, fun j h1 => by rw [hfqy5 _ (by omega)]; rw [egy3, va_up_ne _ _ (by omega)]⟩⟩

set_option maxRecDepth 100000 in
set_option maxHeartbeats 4000000 in
theorem c_X10_matters (l : Launch) (D : va_G) (A : Nat → Prop) (cs : Nat → ClassId) (tt : Nat) (N : Nat) (ad : Nat → Nat) (g : Nat → va_E) (i : Nat) (hN : i + 30 ≤ N) (hM : isM0 cs ad g i) (z z1 z2 : Int) (hz : -2147483648 ≤ z ∧ z ≤ 2147483647) (hz1 : -2147483648 ≤ z1 ∧ z1 ≤ 2147483647) (hz2 : -2147483648 ≤ z2 ∧ z2 ≤ 2147483647) : zM l yX10_matters cX10_matters 9 (some .int) ({ frames := 4, cells := 0, slots := 0, locals := 240 } : Room) D A cs tt N ad g [.ref (ad i), .int (zI z), .int (zI z1), .int (zI z2)] (rI0 N ad fun r g' => pM ad i g g' 1) := by
  obtain ⟨B, ⟨hg, hA⟩, hB7, hB0⟩ := id hM
  have hay1 : zAt ad (i) (ad i) := rfl
  refine z_of (by decide) (Nat.le_of_ble_eq_true rfl) ?_
  intro p e s m below meth c C hr hlk hnm
  refine z_lv (lv' := [(0, .ref (ad i)), (1, .int (zI (z))), (2, .int (zI (z1))), (3, .int (zI (z2)))]) [0, 1, 2, 3] rfl ?_
  refine z_aload_n C 0 dX10_matters_0 rfl ?_
  refine z_iconst (z := 0) C dX10_matters_1 rfl ?_
  refine z_put (fs' := mF ad (i) (uZ mF0 12 (0))) C (by omega) hay1 hg tyX10 tyX10_ok nmX10 rfl inA_X10 12 (by decide) q_1471 rfl rfl rfl rfl (Nat.le_of_ble_eq_true rfl) rfl dX10_matters_2 (fun gy2 egy3 => ?_)
  have hgy4 := up_s egy3
  refine z_aload_n C 0 dX10_matters_5 rfl ?_
  refine z_iload_n C 1 dX10_matters_6 rfl ?_
  refine z_cV (As := [.int (zI (z))]) (rest := []) (ci := 12) C (c_X10_isSlope0 l D A cs tt N ad _ i hN _ hgy4 (uZ_s _ _ _) (fn rfl (by decide)) z hz) (by omega) hay1 hgy4 rfl rfl mv_yX10_isSlope q_1807 hd_yX10_isSlope (by decide) (Nat.le_of_ble_eq_true rfl) (by decide) dX10_matters_7 rfl (kI0 fun qy5 gqy5 hqy5 => ?_)
  obtain ⟨rfl, hcqy5, hfqy5⟩ := hqy5
  refine z_if_eq (tgt := 42) C dX10_matters_10 (by decide) (by omega) (fun _ => ?_) (fun h => absurd h (by omega))
  refine z_iconst (z := 0) C dX10_matters_42 rfl ?_
  exact z_iret C hr hlk dX10_matters_43 (by decide) (by decide) ⟨0, rfl, rfl, rfl, ⟨⟨_, hcqy5, (uZ_s _ _ _)⟩, fun j h1 => by rw [hfqy5 _ (by omega)]; rw [egy3, va_up_ne _ _ (by omega)]⟩⟩

set_option maxRecDepth 100000 in
set_option maxHeartbeats 4000000 in
theorem c_X10_pitOf (l : Launch) (D : va_G) (A : Nat → Prop) (cs : Nat → ClassId) (tt : Nat) (N : Nat) (ad : Nat → Nat) (g : Nat → va_E) (i : Nat) (hN : i + 30 ≤ N) (hM : isM0 cs ad g i) (z z1 : Int) (hz : -2147483648 ≤ z ∧ z ≤ 2147483647) (hz1 : -2147483648 ≤ z1 ∧ z1 ≤ 2147483647) : zM l yX10_pitOf cX10_pitOf 3 (some .int) ({ frames := 4, cells := 0, slots := 0, locals := 240 } : Room) D A cs tt N ad g [.ref (ad i), .int (zI z), .int (zI z1)] (rI0 N ad fun r g' => pM ad i g g' 1) := by
  obtain ⟨B, ⟨hg, hA⟩, hB7, hB0⟩ := id hM
  have hay1 : zAt ad (i) (ad i) := rfl
  have a1 : g (i + 1) = iA cs 29200 (B 1) := hA 1 (by decide) (by decide)
  have hay2 : zAt ad (i + 1) (ad (i + 1)) := rfl
  refine z_of (by decide) (Nat.le_of_ble_eq_true rfl) ?_
  intro p e s m below meth c C hr hlk hnm
  refine z_lv (lv' := [(0, .ref (ad i)), (1, .int (zI (z))), (2, .int (zI (z1)))]) [0, 1, 2] rfl ?_
  refine z_aload_n C 0 dX10_pitOf_0 rfl ?_
  refine z_iconst (z := 0) C dX10_pitOf_1 rfl ?_
  refine z_put (fs' := mF ad (i) (uZ mF0 12 (0))) C (by omega) hay1 hg tyX10 tyX10_ok nmX10 rfl inA_X10 12 (by decide) q_1471 rfl rfl rfl rfl (Nat.le_of_ble_eq_true rfl) rfl dX10_pitOf_2 (fun gy3 egy4 => ?_)
  have hgy5 := up_s egy4
  refine z_aload_n C 0 dX10_pitOf_5 rfl ?_
  refine z_iload_n C 1 dX10_pitOf_6 rfl ?_
  have hgy7 := up_n egy4 a1 (ne_o (i := i) (c := 1) (d := 0) rfl)
  refine z_cV (As := [.int (zI (z))]) (rest := []) (ci := 12) C (c_X10_isPit0 l D A cs tt N ad _ i hN _ hgy5 (uZ_s _ _ _) _ hgy7 (hB0 1 (by decide)) z hz) (by omega) hay1 hgy5 rfl rfl mv_yX10_isPit q_2031 hd_yX10_isPit (by decide) (Nat.le_of_ble_eq_true rfl) (by decide) dX10_pitOf_7 rfl (kI0 fun qy6 gqy6 hqy6 => ?_)
  obtain ⟨rfl, hcqy6, hfqy6⟩ := hqy6
  refine z_if_eq (tgt := 27) C dX10_pitOf_10 (by decide) (by omega) (fun _ => ?_) (fun h => absurd h (by omega))
  refine z_iconst (z := 0) C dX10_pitOf_27 rfl ?_
  exact z_iret C hr hlk dX10_pitOf_28 (by decide) (by decide) ⟨0, rfl, rfl, rfl, ⟨⟨_, hcqy6, (uZ_s _ _ _)⟩, fun j h1 => by rw [hfqy6 _ (by omega)]; rw [egy4, va_up_ne _ _ (by omega)]⟩⟩

set_option maxRecDepth 100000 in
set_option maxHeartbeats 4000000 in
theorem c_X10_compare (l : Launch) (D : va_G) (A : Nat → Prop) (cs : Nat → ClassId) (tt : Nat) (N : Nat) (ad : Nat → Nat) (g : Nat → va_E) (i : Nat) (hN : i + 30 ≤ N) (hM : isM0 cs ad g i) (z z1 z2 : Int) (hz : -2147483648 ≤ z ∧ z ≤ 2147483647) (hz1 : -2147483648 ≤ z1 ∧ z1 ≤ 2147483647) (hz2 : -2147483648 ≤ z2 ∧ z2 ≤ 2147483647) : zM l yX10_compare cX10_compare 4 (some .int) ({ frames := 4, cells := 0, slots := 0, locals := 240 } : Room) D A cs tt N ad g [.ref (ad i), .int (zI z), .int (zI z1), .int (zI z2)] (rI0 N ad fun r g' => pM ad i g g' 1) := by
  obtain ⟨B, ⟨hg, hA⟩, hB7, hB0⟩ := id hM
  have hay1 : zAt ad (i) (ad i) := rfl
  have a1 : g (i + 1) = iA cs 29200 (B 1) := hA 1 (by decide) (by decide)
  have hay2 : zAt ad (i + 1) (ad (i + 1)) := rfl
  refine z_of (by decide) (Nat.le_of_ble_eq_true rfl) ?_
  intro p e s m below meth c C hr hlk hnm
  refine z_lv (lv' := [(0, .ref (ad i)), (1, .int (zI (z))), (2, .int (zI (z1))), (3, .int (zI (z2)))]) [0, 1, 2, 3] rfl ?_
  refine z_aload_n C 0 dX10_compare_0 rfl ?_
  refine z_iconst (z := 0) C dX10_compare_1 rfl ?_
  refine z_put (fs' := mF ad (i) (uZ mF0 12 (0))) C (by omega) hay1 hg tyX10 tyX10_ok nmX10 rfl inA_X10 12 (by decide) q_1471 rfl rfl rfl rfl (Nat.le_of_ble_eq_true rfl) rfl dX10_compare_2 (fun gy3 egy4 => ?_)
  have hgy5 := up_s egy4
  refine z_aload_n C 0 dX10_compare_5 rfl ?_
  refine z_iload_n C 1 dX10_compare_6 rfl ?_
  have hgy7 := up_n egy4 a1 (ne_o (i := i) (c := 1) (d := 0) rfl)
  refine z_cV (As := [.int (zI (z))]) (rest := []) (ci := 12) C (c_X10_isPit0 l D A cs tt N ad _ i hN _ hgy5 (uZ_s _ _ _) _ hgy7 (hB0 1 (by decide)) z hz) (by omega) hay1 hgy5 rfl rfl mv_yX10_isPit q_2031 hd_yX10_isPit (by decide) (Nat.le_of_ble_eq_true rfl) (by decide) dX10_compare_7 rfl (kI0 fun qy6 gqy6 hqy6 => ?_)
  obtain ⟨rfl, hcqy6, hfqy6⟩ := hqy6
  refine z_if_eq (tgt := 35) C dX10_compare_10 (by decide) (by omega) (fun _ => ?_) (fun h => absurd h (by omega))
  refine z_iconst (z := 0) C dX10_compare_35 rfl ?_
  exact z_iret C hr hlk dX10_compare_36 (by decide) (by decide) ⟨0, rfl, rfl, rfl, ⟨⟨_, hcqy6, (uZ_s _ _ _)⟩, fun j h1 => by rw [hfqy6 _ (by omega)]; rw [egy4, va_up_ne _ _ (by omega)]⟩⟩

set_option maxRecDepth 100000 in
set_option maxHeartbeats 4000000 in
theorem c_X10_nearest (l : Launch) (D : va_G) (A : Nat → Prop) (cs : Nat → ClassId) (tt : Nat) (N : Nat) (ad : Nat → Nat) (g : Nat → va_E) (i : Nat) (hN : i + 30 ≤ N) (hM : isM0 cs ad g i) (z : Int) (hz : -2147483648 ≤ z ∧ z ≤ 2147483647) : zM l yX10_nearest cX10_nearest 6 (some .int) ({ frames := 4, cells := 0, slots := 0, locals := 240 } : Room) D A cs tt N ad g [.ref (ad i), .int (zI z)] (rI0 N ad fun r g' => pM ad i g g' 1) := by
  obtain ⟨B, ⟨hg, hA⟩, hB7, hB0⟩ := id hM
  have hay1 : zAt ad (i) (ad i) := rfl
  have a1 : g (i + 1) = iA cs 29200 (B 1) := hA 1 (by decide) (by decide)
  have hay2 : zAt ad (i + 1) (ad (i + 1)) := rfl
  refine z_of (by decide) (Nat.le_of_ble_eq_true rfl) ?_
  intro p e s m below meth c C hr hlk hnm
  refine z_lv (lv' := [(0, .ref (ad i)), (1, .int (zI (z)))]) [0, 1] rfl ?_
  refine z_aload_n C 0 dX10_nearest_0 rfl ?_
  refine z_iconst (z := 0) C dX10_nearest_1 rfl ?_
  refine z_put (fs' := mF ad (i) (uZ mF0 12 (0))) C (by omega) hay1 hg tyX10 tyX10_ok nmX10 rfl inA_X10 12 (by decide) q_1471 rfl rfl rfl rfl (Nat.le_of_ble_eq_true rfl) rfl dX10_nearest_2 (fun gy3 egy4 => ?_)
  have hgy5 := up_s egy4
  refine z_aload_n C 0 dX10_nearest_5 rfl ?_
  refine z_iload_n C 1 dX10_nearest_6 rfl ?_
  have hgy7 := up_n egy4 a1 (ne_o (i := i) (c := 1) (d := 0) rfl)
  refine z_cV (As := [.int (zI (z))]) (rest := []) (ci := 12) C (c_X10_isPit0 l D A cs tt N ad _ i hN _ hgy5 (uZ_s _ _ _) _ hgy7 (hB0 1 (by decide)) z hz) (by omega) hay1 hgy5 rfl rfl mv_yX10_isPit q_2031 hd_yX10_isPit (by decide) (Nat.le_of_ble_eq_true rfl) (by decide) dX10_nearest_7 rfl (kI0 fun qy6 gqy6 hqy6 => ?_)
  obtain ⟨rfl, hcqy6, hfqy6⟩ := hqy6
  refine z_if_ne (tgt := 15) C dX10_nearest_10 (by decide) (by omega) (fun h => absurd h (by omega)) (fun _ => ?_)
  refine z_iconst (z := 0) C dX10_nearest_13 rfl ?_
  exact z_iret C hr hlk dX10_nearest_14 (by decide) (by decide) ⟨0, rfl, rfl, rfl, ⟨⟨_, hcqy6, (uZ_s _ _ _)⟩, fun j h1 => by rw [hfqy6 _ (by omega)]; rw [egy4, va_up_ne _ _ (by omega)]⟩⟩

set_option maxRecDepth 100000 in
set_option maxHeartbeats 4000000 in
theorem c_X10_odds (l : Launch) (D : va_G) (A : Nat → Prop) (cs : Nat → ClassId) (tt : Nat) (N : Nat) (ad : Nat → Nat) (g : Nat → va_E) (i : Nat) (hN : i + 30 ≤ N) (hM : isM0 cs ad g i) (z z1 z2 : Int) (hz : -2147483648 ≤ z ∧ z ≤ 2147483647) (hz1 : -2147483648 ≤ z1 ∧ z1 ≤ 2147483647) (hz2 : -2147483648 ≤ z2 ∧ z2 ≤ 2147483647) : zM l yX10_odds cX10_odds 8 (some .int) ({ frames := 4, cells := 0, slots := 0, locals := 240 } : Room) D A cs tt N ad g [.ref (ad i), .int (zI z), .int (zI z1), .int (zI z2)] (rI0 N ad fun r g' => pM ad i g g' 1) := by
  obtain ⟨B, ⟨hg, hA⟩, hB7, hB0⟩ := id hM
  have hay1 : zAt ad (i) (ad i) := rfl
  refine z_of (by decide) (Nat.le_of_ble_eq_true rfl) ?_
  intro p e s m below meth c C hr hlk hnm
  refine z_lv (lv' := [(0, .ref (ad i)), (1, .int (zI (z))), (2, .int (zI (z1))), (3, .int (zI (z2)))]) [0, 1, 2, 3] rfl ?_
  refine z_aload_n C 0 dX10_odds_0 rfl ?_
  refine z_iconst (z := 0) C dX10_odds_1 rfl ?_
  refine z_put (fs' := mF ad (i) (uZ mF0 12 (0))) C (by omega) hay1 hg tyX10 tyX10_ok nmX10 rfl inA_X10 12 (by decide) q_1471 rfl rfl rfl rfl (Nat.le_of_ble_eq_true rfl) rfl dX10_odds_2 (fun gy2 egy3 => ?_)
  have hgy4 := up_s egy3
  refine z_aload_n C 0 dX10_odds_5 rfl ?_
  refine z_iload_n C 1 dX10_odds_6 rfl ?_
  refine z_cV (As := [.int (zI (z))]) (rest := []) (ci := 12) C (c_X10_isSlope0 l D A cs tt N ad _ i hN _ hgy4 (uZ_s _ _ _) (fn rfl (by decide)) z hz) (by omega) hay1 hgy4 rfl rfl mv_yX10_isSlope q_1807 hd_yX10_isSlope (by decide) (Nat.le_of_ble_eq_true rfl) (by decide) dX10_odds_7 rfl (kI0 fun qy5 gqy5 hqy5 => ?_)
  obtain ⟨rfl, hcqy5, hfqy5⟩ := hqy5
  refine z_if_eq (tgt := 46) C dX10_odds_10 (by decide) (by omega) (fun _ => ?_) (fun h => absurd h (by omega))
  refine z_iconst (z := 0) C dX10_odds_46 rfl ?_
  exact z_iret C hr hlk dX10_odds_47 (by decide) (by decide) ⟨0, rfl, rfl, rfl, ⟨⟨_, hcqy5, (uZ_s _ _ _)⟩, fun j h1 => by rw [hfqy5 _ (by omega)]; rw [egy3, va_up_ne _ _ (by omega)]⟩⟩

set_option maxRecDepth 100000 in
set_option maxHeartbeats 4000000 in
theorem c_X10_fall (l : Launch) (D : va_G) (A : Nat → Prop) (cs : Nat → ClassId) (tt : Nat) (N : Nat) (ad : Nat → Nat) (g : Nat → va_E) (i : Nat) (hN : i + 30 ≤ N) (hM : isM0 cs ad g i) (z z1 z2 : Int) (hz : -2147483648 ≤ z ∧ z ≤ 2147483647) (hz1 : -2147483648 ≤ z1 ∧ z1 ≤ 2147483647) (hz2 : -2147483648 ≤ z2 ∧ z2 ≤ 2147483647) : zM l yX10_fall cX10_fall 4 (some .int) ({ frames := 2, cells := 0, slots := 0, locals := 120 } : Room) D A cs tt N ad g [.ref (ad i), .int (zI z), .int (zI z1), .int (zI z2)] (rI0 N ad fun r g' => r = -1 ∧ pM ad i g g' 0) := by
  obtain ⟨B, ⟨hg, hA⟩, hB7, hB0⟩ := id hM
  have hay1 : zAt ad (i) (ad i) := rfl
  have a11 : g (i + 11) = iA cs 6 (B 11) := hA 11 (by decide) (by decide)
  have hay2 : zAt ad (i + 11) (ad (i + 11)) := rfl
  refine z_of (by decide) (Nat.le_of_ble_eq_true rfl) ?_
  intro p e s m below meth c C hr hlk hnm
  refine z_lv (lv' := [(0, .ref (ad i)), (1, .int (zI (z))), (2, .int (zI (z1))), (3, .int (zI (z2)))]) [0, 1, 2, 3] rfl ?_
  refine z_aload_n C 0 dX10_fall_0 rfl ?_
  refine z_iconst (z := 0) C dX10_fall_1 rfl ?_
  refine z_put (fs' := mF ad (i) (uZ mF0 12 (0))) C (by omega) hay1 hg tyX10 tyX10_ok nmX10 rfl inA_X10 12 (by decide) q_1471 rfl rfl rfl rfl (Nat.le_of_ble_eq_true rfl) rfl dX10_fall_2 (fun gy3 egy4 => ?_)
  have hgy5 := up_s egy4
  refine z_iload_n C 1 dX10_fall_5 rfl ?_
  refine z_iconst (z := 0) C dX10_fall_6 rfl ?_
  refine z_aload_n C 0 dX10_fall_7 rfl ?_
  refine z_get (v := .int (zI (0))) C (by omega) hay1 hgy5 rfl inA_X10 13 (by decide) q_1472 rfl (fv (F := (uZ mF0 12 (0))) (f := 13) (fn rfl (by decide))) dX10_fall_8 ?_
  refine z_iconst (z := 1) C dX10_fall_11 rfl ?_
  refine z_isub C dX10_fall_12 ?_
  refine z_cS (As := [.int (zI (z)), .int (zI (0)), .int (zI (0 - 1))]) (rest := []) C (c_X10_within l D A cs tt N ad _ (z) (0) (0 - 1) (by omega) (by omega) (by omega)) ms_yX10_within q_1690 hd_yX10_within (by decide) (Nat.le_of_ble_eq_true rfl) (by decide) dX10_fall_13 rfl (kI0 fun qy6 gqy6 hqy6 => ?_)
  obtain ⟨eqy6, rfl⟩ := hqy6
  rw [if_neg (by omega)] at eqy6
  subst eqy6
  refine z_if_eq (tgt := 56) C dX10_fall_16 (by decide) (by omega) (fun _ => ?_) (fun h => absurd h (by omega))
  refine z_aload_n C 0 dX10_fall_56 rfl ?_
  refine z_iconst (z := 1) C dX10_fall_57 rfl ?_
  have hgy7 := up_n egy4 a11 (ne_o (i := i) (c := 11) (d := 0) rfl)
  refine z_cV (As := [.int (zI (1))]) (rest := []) (ci := 12) C (c_X10_refuses l D A cs tt N ad _ i hN _ hgy5 _ hgy7 1 (by decide)) (by omega) hay1 hgy5 rfl rfl mv_yX10_refuses q_1870 hd_yX10_refuses (by decide) (Nat.le_of_ble_eq_true rfl) (by decide) dX10_fall_58 rfl (kI0 fun qy8 gqy8 hqy8 => ?_)
  obtain ⟨rfl, hfqy8⟩ := hqy8
  have hgy9 := (hfqy8 (i) (ne_o (i := i) (c := 0) (d := 11) rfl)).trans hgy5
  exact z_iret C hr hlk dX10_fall_61 (by decide) (by decide) ⟨-1, rfl, rfl, rfl, rfl, ⟨⟨_, hgy9, (uZ_s _ _ _)⟩, fun j h1 => by rw [hfqy8 _ (by omega)]; rw [egy4, va_up_ne _ _ (by omega)]⟩⟩

set_option maxRecDepth 100000 in
set_option maxHeartbeats 4000000 in
theorem c_X10_dig (l : Launch) (D : va_G) (A : Nat → Prop) (cs : Nat → ClassId) (tt : Nat) (N : Nat) (ad : Nat → Nat) (g : Nat → va_E) (i : Nat) (hN : i + 30 ≤ N) (hM : isM0 cs ad g i) (z : Int) (hz : -2147483648 ≤ z ∧ z ≤ 2147483647) : zM l yX10_dig cX10_dig 3 (some .int) ({ frames := 2, cells := 0, slots := 0, locals := 120 } : Room) D A cs tt N ad g [.ref (ad i), .int (zI z)] (rI0 N ad fun r g' => r = -1 ∧ pM ad i g g' 0) := by
  obtain ⟨B, ⟨hg, hA⟩, hB7, hB0⟩ := id hM
  have hay1 : zAt ad (i) (ad i) := rfl
  have a11 : g (i + 11) = iA cs 6 (B 11) := hA 11 (by decide) (by decide)
  have hay2 : zAt ad (i + 11) (ad (i + 11)) := rfl
  refine z_of (by decide) (Nat.le_of_ble_eq_true rfl) ?_
  intro p e s m below meth c C hr hlk hnm
  refine z_lv (lv' := [(0, .ref (ad i)), (1, .int (zI (z)))]) [0, 1] rfl ?_
  refine z_aload_n C 0 dX10_dig_0 rfl ?_
  refine z_iconst (z := 0) C dX10_dig_1 rfl ?_
  refine z_put (fs' := mF ad (i) (uZ mF0 12 (0))) C (by omega) hay1 hg tyX10 tyX10_ok nmX10 rfl inA_X10 12 (by decide) q_1471 rfl rfl rfl rfl (Nat.le_of_ble_eq_true rfl) rfl dX10_dig_2 (fun gy3 egy4 => ?_)
  have hgy5 := up_s egy4
  refine z_iload_n C 1 dX10_dig_5 rfl ?_
  refine z_iconst (z := 0) C dX10_dig_6 rfl ?_
  refine z_aload_n C 0 dX10_dig_7 rfl ?_
  refine z_get (v := .int (zI (0))) C (by omega) hay1 hgy5 rfl inA_X10 13 (by decide) q_1472 rfl (fv (F := (uZ mF0 12 (0))) (f := 13) (fn rfl (by decide))) dX10_dig_8 ?_
  refine z_iconst (z := 1) C dX10_dig_11 rfl ?_
  refine z_isub C dX10_dig_12 ?_
  refine z_cS (As := [.int (zI (z)), .int (zI (0)), .int (zI (0 - 1))]) (rest := []) C (c_X10_within l D A cs tt N ad _ (z) (0) (0 - 1) (by omega) (by omega) (by omega)) ms_yX10_within q_1690 hd_yX10_within (by decide) (Nat.le_of_ble_eq_true rfl) (by decide) dX10_dig_13 rfl (kI0 fun qy6 gqy6 hqy6 => ?_)
  obtain ⟨eqy6, rfl⟩ := hqy6
  rw [if_neg (by omega)] at eqy6
  subst eqy6
  refine z_if_eq (tgt := 28) C dX10_dig_16 (by decide) (by omega) (fun _ => ?_) (fun h => absurd h (by omega))
  refine z_aload_n C 0 dX10_dig_28 rfl ?_
  refine z_iconst (z := 1) C dX10_dig_29 rfl ?_
  have hgy7 := up_n egy4 a11 (ne_o (i := i) (c := 11) (d := 0) rfl)
  refine z_cV (As := [.int (zI (1))]) (rest := []) (ci := 12) C (c_X10_refuses l D A cs tt N ad _ i hN _ hgy5 _ hgy7 1 (by decide)) (by omega) hay1 hgy5 rfl rfl mv_yX10_refuses q_1870 hd_yX10_refuses (by decide) (Nat.le_of_ble_eq_true rfl) (by decide) dX10_dig_30 rfl (kI0 fun qy8 gqy8 hqy8 => ?_)
  obtain ⟨rfl, hfqy8⟩ := hqy8
  have hgy9 := (hfqy8 (i) (ne_o (i := i) (c := 0) (d := 11) rfl)).trans hgy5
  exact z_iret C hr hlk dX10_dig_33 (by decide) (by decide) ⟨-1, rfl, rfl, rfl, rfl, ⟨⟨_, hgy9, (uZ_s _ _ _)⟩, fun j h1 => by rw [hfqy8 _ (by omega)]; rw [egy4, va_up_ne _ _ (by omega)]⟩⟩

set_option maxRecDepth 100000 in
set_option maxHeartbeats 4000000 in
theorem c_X10_slide (l : Launch) (D : va_G) (A : Nat → Prop) (cs : Nat → ClassId) (tt : Nat) (N : Nat) (ad : Nat → Nat) (g : Nat → va_E) (i : Nat) (hN : i + 30 ≤ N) (hM : isM0 cs ad g i) (z : Int) (hz : -2147483648 ≤ z ∧ z ≤ 2147483647) : zM l yX10_slide cX10_slide 2 (some .int) ({ frames := 2, cells := 0, slots := 0, locals := 120 } : Room) D A cs tt N ad g [.ref (ad i), .int (zI z)] (rI0 N ad fun r g' => r = -1 ∧ pM ad i g g' 0) := by
  obtain ⟨B, ⟨hg, hA⟩, hB7, hB0⟩ := id hM
  have hay1 : zAt ad (i) (ad i) := rfl
  have a11 : g (i + 11) = iA cs 6 (B 11) := hA 11 (by decide) (by decide)
  have hay2 : zAt ad (i + 11) (ad (i + 11)) := rfl
  refine z_of (by decide) (Nat.le_of_ble_eq_true rfl) ?_
  intro p e s m below meth c C hr hlk hnm
  refine z_lv (lv' := [(0, .ref (ad i)), (1, .int (zI (z)))]) [0, 1] rfl ?_
  refine z_aload_n C 0 dX10_slide_0 rfl ?_
  refine z_iconst (z := 0) C dX10_slide_1 rfl ?_
  refine z_put (fs' := mF ad (i) (uZ mF0 12 (0))) C (by omega) hay1 hg tyX10 tyX10_ok nmX10 rfl inA_X10 12 (by decide) q_1471 rfl rfl rfl rfl (Nat.le_of_ble_eq_true rfl) rfl dX10_slide_2 (fun gy3 egy4 => ?_)
  have hgy5 := up_s egy4
  refine z_iload_n C 1 dX10_slide_5 rfl ?_
  refine z_iconst (z := 0) C dX10_slide_6 rfl ?_
  refine z_aload_n C 0 dX10_slide_7 rfl ?_
  refine z_get (v := .int (zI (0))) C (by omega) hay1 hgy5 rfl inA_X10 13 (by decide) q_1472 rfl (fv (F := (uZ mF0 12 (0))) (f := 13) (fn rfl (by decide))) dX10_slide_8 ?_
  refine z_iconst (z := 1) C dX10_slide_11 rfl ?_
  refine z_isub C dX10_slide_12 ?_
  refine z_cS (As := [.int (zI (z)), .int (zI (0)), .int (zI (0 - 1))]) (rest := []) C (c_X10_within l D A cs tt N ad _ (z) (0) (0 - 1) (by omega) (by omega) (by omega)) ms_yX10_within q_1690 hd_yX10_within (by decide) (Nat.le_of_ble_eq_true rfl) (by decide) dX10_slide_13 rfl (kI0 fun qy6 gqy6 hqy6 => ?_)
  obtain ⟨eqy6, rfl⟩ := hqy6
  rw [if_neg (by omega)] at eqy6
  subst eqy6
  refine z_if_eq (tgt := 28) C dX10_slide_16 (by decide) (by omega) (fun _ => ?_) (fun h => absurd h (by omega))
  refine z_aload_n C 0 dX10_slide_28 rfl ?_
  refine z_iconst (z := 1) C dX10_slide_29 rfl ?_
  have hgy7 := up_n egy4 a11 (ne_o (i := i) (c := 11) (d := 0) rfl)
  refine z_cV (As := [.int (zI (1))]) (rest := []) (ci := 12) C (c_X10_refuses l D A cs tt N ad _ i hN _ hgy5 _ hgy7 1 (by decide)) (by omega) hay1 hgy5 rfl rfl mv_yX10_refuses q_1870 hd_yX10_refuses (by decide) (Nat.le_of_ble_eq_true rfl) (by decide) dX10_slide_30 rfl (kI0 fun qy8 gqy8 hqy8 => ?_)
  obtain ⟨rfl, hfqy8⟩ := hqy8
  have hgy9 := (hfqy8 (i) (ne_o (i := i) (c := 0) (d := 11) rfl)).trans hgy5
  exact z_iret C hr hlk dX10_slide_33 (by decide) (by decide) ⟨-1, rfl, rfl, rfl, rfl, ⟨⟨_, hgy9, (uZ_s _ _ _)⟩, fun j h1 => by rw [hfqy8 _ (by omega)]; rw [egy4, va_up_ne _ _ (by omega)]⟩⟩

set_option maxRecDepth 100000 in
set_option maxHeartbeats 4000000 in
theorem c_X10_pit (l : Launch) (D : va_G) (A : Nat → Prop) (cs : Nat → ClassId) (tt : Nat) (N : Nat) (ad : Nat → Nat) (g : Nat → va_E) (i : Nat) (hN : i + 30 ≤ N) (hM : isM0 cs ad g i) (z : Int) (hz : -2147483648 ≤ z ∧ z ≤ 2147483647) : zM l yX10_pit cX10_pit 4 (some .int) ({ frames := 2, cells := 0, slots := 0, locals := 120 } : Room) D A cs tt N ad g [.ref (ad i), .int (zI z)] (rI0 N ad fun r g' => r = -1 ∧ pM ad i g g' 0) := by
  obtain ⟨B, ⟨hg, hA⟩, hB7, hB0⟩ := id hM
  have hay1 : zAt ad (i) (ad i) := rfl
  have a11 : g (i + 11) = iA cs 6 (B 11) := hA 11 (by decide) (by decide)
  have hay2 : zAt ad (i + 11) (ad (i + 11)) := rfl
  refine z_of (by decide) (Nat.le_of_ble_eq_true rfl) ?_
  intro p e s m below meth c C hr hlk hnm
  refine z_lv (lv' := [(0, .ref (ad i)), (1, .int (zI (z)))]) [0, 1] rfl ?_
  refine z_aload_n C 0 dX10_pit_0 rfl ?_
  refine z_iconst (z := 0) C dX10_pit_1 rfl ?_
  refine z_put (fs' := mF ad (i) (uZ mF0 12 (0))) C (by omega) hay1 hg tyX10 tyX10_ok nmX10 rfl inA_X10 12 (by decide) q_1471 rfl rfl rfl rfl (Nat.le_of_ble_eq_true rfl) rfl dX10_pit_2 (fun gy3 egy4 => ?_)
  have hgy5 := up_s egy4
  refine z_iload_n C 1 dX10_pit_5 rfl ?_
  refine z_iconst (z := 0) C dX10_pit_6 rfl ?_
  refine z_aload_n C 0 dX10_pit_7 rfl ?_
  refine z_get (v := .int (zI (0))) C (by omega) hay1 hgy5 rfl inA_X10 13 (by decide) q_1472 rfl (fv (F := (uZ mF0 12 (0))) (f := 13) (fn rfl (by decide))) dX10_pit_8 ?_
  refine z_iconst (z := 1) C dX10_pit_11 rfl ?_
  refine z_isub C dX10_pit_12 ?_
  refine z_cS (As := [.int (zI (z)), .int (zI (0)), .int (zI (0 - 1))]) (rest := []) C (c_X10_within l D A cs tt N ad _ (z) (0) (0 - 1) (by omega) (by omega) (by omega)) ms_yX10_within q_1690 hd_yX10_within (by decide) (Nat.le_of_ble_eq_true rfl) (by decide) dX10_pit_13 rfl (kI0 fun qy6 gqy6 hqy6 => ?_)
  obtain ⟨eqy6, rfl⟩ := hqy6
  rw [if_neg (by omega)] at eqy6
  subst eqy6
  refine z_if_eq (tgt := 30) C dX10_pit_16 (by decide) (by omega) (fun _ => ?_) (fun h => absurd h (by omega))
  refine z_aload_n C 0 dX10_pit_30 rfl ?_
  refine z_iconst (z := 1) C dX10_pit_31 rfl ?_
  have hgy7 := up_n egy4 a11 (ne_o (i := i) (c := 11) (d := 0) rfl)
  refine z_cV (As := [.int (zI (1))]) (rest := []) (ci := 12) C (c_X10_refuses l D A cs tt N ad _ i hN _ hgy5 _ hgy7 1 (by decide)) (by omega) hay1 hgy5 rfl rfl mv_yX10_refuses q_1870 hd_yX10_refuses (by decide) (Nat.le_of_ble_eq_true rfl) (by decide) dX10_pit_32 rfl (kI0 fun qy8 gqy8 hqy8 => ?_)
  obtain ⟨rfl, hfqy8⟩ := hqy8
  have hgy9 := (hfqy8 (i) (ne_o (i := i) (c := 0) (d := 11) rfl)).trans hgy5
  exact z_iret C hr hlk dX10_pit_35 (by decide) (by decide) ⟨-1, rfl, rfl, rfl, rfl, ⟨⟨_, hgy9, (uZ_s _ _ _)⟩, fun j h1 => by rw [hfqy8 _ (by omega)]; rw [egy4, va_up_ne _ _ (by omega)]⟩⟩

set_option maxRecDepth 100000 in
set_option maxHeartbeats 4000000 in
theorem c_X10_note (l : Launch) (D : va_G) (A : Nat → Prop) (cs : Nat → ClassId) (tt : Nat) (N : Nat) (ad : Nat → Nat) (g : Nat → va_E) (i : Nat) (hN : i + 30 ≤ N) (hM : isM0 cs ad g i) (z z1 z2 : Int) (hz : -2147483648 ≤ z ∧ z ≤ 2147483647) (hz1 : -2147483648 ≤ z1 ∧ z1 ≤ 2147483647) (hz2 : -2147483648 ≤ z2 ∧ z2 ≤ 2147483647) : zM l yX10_note cX10_note 4 (some .int) ({ frames := 2, cells := 0, slots := 0, locals := 120 } : Room) D A cs tt N ad g [.ref (ad i), .int (zI z), .int (zI z1), .int (zI z2)] (rI0 N ad fun r g' => r = -1 ∧ pM ad i g g' 0) := by
  obtain ⟨B, ⟨hg, hA⟩, hB7, hB0⟩ := id hM
  have hay1 : zAt ad (i) (ad i) := rfl
  have a11 : g (i + 11) = iA cs 6 (B 11) := hA 11 (by decide) (by decide)
  have hay2 : zAt ad (i + 11) (ad (i + 11)) := rfl
  refine z_of (by decide) (Nat.le_of_ble_eq_true rfl) ?_
  intro p e s m below meth c C hr hlk hnm
  refine z_lv (lv' := [(0, .ref (ad i)), (1, .int (zI (z))), (2, .int (zI (z1))), (3, .int (zI (z2)))]) [0, 1, 2, 3] rfl ?_
  refine z_aload_n C 0 dX10_note_0 rfl ?_
  refine z_iconst (z := 0) C dX10_note_1 rfl ?_
  refine z_put (fs' := mF ad (i) (uZ mF0 12 (0))) C (by omega) hay1 hg tyX10 tyX10_ok nmX10 rfl inA_X10 12 (by decide) q_1471 rfl rfl rfl rfl (Nat.le_of_ble_eq_true rfl) rfl dX10_note_2 (fun gy3 egy4 => ?_)
  have hgy5 := up_s egy4
  refine z_aload_n C 0 dX10_note_5 rfl ?_
  refine z_get (v := .int (zI (0))) C (by omega) hay1 hgy5 rfl inA_X10 17 (by decide) q_1476 rfl (fv (F := (uZ mF0 12 (0))) (f := 17) (fn rfl (by decide))) dX10_note_6 ?_
  refine z_bipush (z := 8) C dX10_note_9 (by decide) ?_
  refine z_icmp_eq (tgt := 49) C dX10_note_11 (by decide) (by omega) (by omega) (fun h => absurd h (by omega)) (fun _ => ?_)
  refine z_iload_n C 1 dX10_note_14 rfl ?_
  refine z_iconst (z := 0) C dX10_note_15 rfl ?_
  refine z_aload_n C 0 dX10_note_16 rfl ?_
  refine z_get (v := .int (zI (0))) C (by omega) hay1 hgy5 rfl inA_X10 13 (by decide) q_1472 rfl (fv (F := (uZ mF0 12 (0))) (f := 13) (fn rfl (by decide))) dX10_note_17 ?_
  refine z_iconst (z := 1) C dX10_note_20 rfl ?_
  refine z_isub C dX10_note_21 ?_
  refine z_cS (As := [.int (zI (z)), .int (zI (0)), .int (zI (0 - 1))]) (rest := []) C (c_X10_within l D A cs tt N ad _ (z) (0) (0 - 1) (by omega) (by omega) (by omega)) ms_yX10_within q_1690 hd_yX10_within (by decide) (Nat.le_of_ble_eq_true rfl) (by decide) dX10_note_22 rfl (kI0 fun qy6 gqy6 hqy6 => ?_)
  obtain ⟨eqy6, rfl⟩ := hqy6
  rw [if_neg (by omega)] at eqy6
  subst eqy6
  refine z_if_eq (tgt := 49) C dX10_note_25 (by decide) (by omega) (fun _ => ?_) (fun h => absurd h (by omega))
  refine z_aload_n C 0 dX10_note_49 rfl ?_
  refine z_iconst (z := 2) C dX10_note_50 rfl ?_
  have hgy7 := up_n egy4 a11 (ne_o (i := i) (c := 11) (d := 0) rfl)
  refine z_cV (As := [.int (zI (2))]) (rest := []) (ci := 12) C (c_X10_refuses l D A cs tt N ad _ i hN _ hgy5 _ hgy7 2 (by decide)) (by omega) hay1 hgy5 rfl rfl mv_yX10_refuses q_1870 hd_yX10_refuses (by decide) (Nat.le_of_ble_eq_true rfl) (by decide) dX10_note_51 rfl (kI0 fun qy8 gqy8 hqy8 => ?_)
  obtain ⟨rfl, hfqy8⟩ := hqy8
  have hgy9 := (hfqy8 (i) (ne_o (i := i) (c := 0) (d := 11) rfl)).trans hgy5
  exact z_iret C hr hlk dX10_note_54 (by decide) (by decide) ⟨-1, rfl, rfl, rfl, rfl, ⟨⟨_, hgy9, (uZ_s _ _ _)⟩, fun j h1 => by rw [hfqy8 _ (by omega)]; rw [egy4, va_up_ne _ _ (by omega)]⟩⟩

set_option maxRecDepth 100000 in
set_option maxHeartbeats 4000000 in
theorem c_X10_hours (l : Launch) (D : va_G) (A : Nat → Prop) (cs : Nat → ClassId) (tt : Nat) (N : Nat) (ad : Nat → Nat) (g : Nat → va_E) (i : Nat) (hN : i + 30 ≤ N) (hM : isM0 cs ad g i) (z : Int) (hz : -2147483648 ≤ z ∧ z ≤ 2147483647) : zM l yX10_hours cX10_hours 2 (some .int) ({ frames := 5, cells := 0, slots := 0, locals := 300 } : Room) D A cs tt N ad g [.ref (ad i), .int (zI z)] (rI0 N ad fun r g' => r = (if 1 ≤ z ∧ z ≤ 24 then z else -1) ∧ pM ad i g g' 0) := by
  obtain ⟨B, ⟨hg, hA⟩, hB7, hB0⟩ := id hM
  have hay1 : zAt ad (i) (ad i) := rfl
  have a1 : g (i + 1) = iA cs 29200 (B 1) := hA 1 (by decide) (by decide)
  have hay2 : zAt ad (i + 1) (ad (i + 1)) := rfl
  have a11 : g (i + 11) = iA cs 6 (B 11) := hA 11 (by decide) (by decide)
  have hay3 : zAt ad (i + 11) (ad (i + 11)) := rfl
  refine z_of (by decide) (Nat.le_of_ble_eq_true rfl) ?_
  intro p e s m below meth c C hr hlk hnm
  refine z_lv (lv' := [(0, .ref (ad i)), (1, .int (zI (z)))]) [0, 1] rfl ?_
  refine z_aload_n C 0 dX10_hours_0 rfl ?_
  refine z_iconst (z := 0) C dX10_hours_1 rfl ?_
  refine z_put (fs' := mF ad (i) (uZ mF0 12 (0))) C (by omega) hay1 hg tyX10 tyX10_ok nmX10 rfl inA_X10 12 (by decide) q_1471 rfl rfl rfl rfl (Nat.le_of_ble_eq_true rfl) rfl dX10_hours_2 (fun gy4 egy5 => ?_)
  have hgy6 := up_s egy5
  refine z_iload_n C 1 dX10_hours_5 rfl ?_
  refine z_iconst (z := 1) C dX10_hours_6 rfl ?_
  refine z_bipush (z := 24) C dX10_hours_7 (by decide) ?_
  by_cases hw9 : 1 ≤ z ∧ z ≤ 24
  · refine z_cS (As := [.int (zI (z)), .int (zI (1)), .int (zI (24))]) (rest := []) C (c_X10_within l D A cs tt N ad _ (z) (1) (24) (by omega) (by omega) (by omega)) ms_yX10_within q_1690 hd_yX10_within (by decide) (Nat.le_of_ble_eq_true rfl) (by decide) dX10_hours_9 rfl (kI0 fun qy11 gqy11 hqy11 => ?_)
    obtain ⟨eqy11, rfl⟩ := hqy11
    rw [if_pos (by omega)] at eqy11
    subst eqy11
    refine z_if_eq (tgt := 29) C dX10_hours_12 (by decide) (by omega) (fun h => absurd h (by omega)) (fun _ => ?_)
    refine z_aload_n C 0 dX10_hours_15 rfl ?_
    refine z_get (v := .ref (ad (i + 1))) C (by omega) hay1 hgy6 rfl inA_X10 0 (by decide) q_1459 rfl rfl dX10_hours_16 ?_
    refine z_iconst (z := 0) C dX10_hours_19 rfl ?_
    have hgy12 := up_n egy5 a1 (ne_o (i := i) (c := 1) (d := 0) rfl)
    refine z_iald C (by omega) hay2 hgy12 (0) (by omega) (by omega) (by decide) dX10_hours_20 ?_
    rw [show (B 1) (0) = 0 from (hB0 1 (by decide)) _]
    refine z_iload_n C 1 dX10_hours_21 rfl ?_
    refine z_iadd C dX10_hours_22 ?_
    refine z_sipush (z := 2000) C dX10_hours_23 (by decide) ?_
    refine z_icmp_le (tgt := 35) C dX10_hours_26 (by decide) (by omega) (by omega) (fun _ => ?_) (fun h => absurd h (by omega))
    refine z_aload_n C 0 dX10_hours_35 rfl ?_
    refine z_cV (As := []) (rest := []) (ci := 12) C (c_X10_keeps0 l D A cs tt N ad _ i hN _ hgy6 (fn rfl (by decide)) (fn rfl (by decide)) _ hgy12 (hB0 1 (by decide))) (by omega) hay1 hgy6 rfl rfl mv_yX10_keeps q_1874 hd_yX10_keeps (by decide) (Nat.le_of_ble_eq_true rfl) (by decide) dX10_hours_36 rfl (kV0 fun gk hk => ?_)
    obtain ⟨hk1, ⟨rk, hk2, hk3⟩, hk4⟩ := hk
    refine z_aload_n C 0 dX10_hours_39 rfl ?_
    refine z_iconst (z := 0) C dX10_hours_40 rfl ?_
    refine z_iload_n C 1 dX10_hours_41 rfl ?_
    refine z_cV (As := [.int (zI (0)), .int (zI (z))]) (rest := []) (ci := 12) C (c_X10_goes0 l D A cs tt N ad _ i hN _ hk1 (fn (fn rfl (by decide)) (by decide)) (fn (fn rfl (by decide)) (by decide)) _ hk2 0 (by decide) z (by omega)) (by omega) hay1 hk1 rfl rfl mv_yX10_goes q_1885 hd_yX10_goes (by decide) (Nat.le_of_ble_eq_true rfl) (by decide) dX10_hours_42 rfl (kV0 fun gt ht => ?_)
    obtain ⟨⟨rt, ht1, ht2, ht3⟩, ht4⟩ := ht
    refine z_aload_n C 0 dX10_hours_45 rfl ?_
    have hgy13 := (ht4 (i) (ne_o (i := i) (c := 0) (d := 1) rfl)).trans hk1
    refine z_get (v := .ref (ad (i + 1))) C (by omega) hay1 hgy13 rfl inA_X10 0 (by decide) q_1459 rfl rfl dX10_hours_46 ?_
    refine z_iconst (z := 0) C dX10_hours_49 rfl ?_
    refine z_iald C (by omega) hay2 ht1 (0) (by omega) (by omega) (by decide) dX10_hours_50 ?_
    exact z_iret C hr hlk dX10_hours_51 (by decide) (by decide) ⟨rt (0), rfl, rfl, rfl, by rw [if_pos hw9, ht2, hk3]; omega, ⟨⟨_, hgy13, (fn (uZ_s _ _ _) (by decide))⟩, fun j h1 => by rw [ht4 _ (by omega)]; rw [hk4 _ (by omega) (by omega)]; rw [egy5, va_up_ne _ _ (by omega)]⟩⟩
  · refine z_cS (As := [.int (zI (z)), .int (zI (1)), .int (zI (24))]) (rest := []) C (c_X10_within l D A cs tt N ad _ (z) (1) (24) (by omega) (by omega) (by omega)) ms_yX10_within q_1690 hd_yX10_within (by decide) (Nat.le_of_ble_eq_true rfl) (by decide) dX10_hours_9 rfl (kI0 fun qy7 gqy7 hqy7 => ?_)
    obtain ⟨eqy7, rfl⟩ := hqy7
    rw [if_neg (by omega)] at eqy7
    subst eqy7
    refine z_if_eq (tgt := 29) C dX10_hours_12 (by decide) (by omega) (fun _ => ?_) (fun h => absurd h (by omega))
    refine z_aload_n C 0 dX10_hours_29 rfl ?_
    refine z_iconst (z := 1) C dX10_hours_30 rfl ?_
    have hgy8 := up_n egy5 a11 (ne_o (i := i) (c := 11) (d := 0) rfl)
    refine z_cV (As := [.int (zI (1))]) (rest := []) (ci := 12) C (c_X10_refuses l D A cs tt N ad _ i hN _ hgy6 _ hgy8 1 (by decide)) (by omega) hay1 hgy6 rfl rfl mv_yX10_refuses q_1870 hd_yX10_refuses (by decide) (Nat.le_of_ble_eq_true rfl) (by decide) dX10_hours_31 rfl (kI0 fun qy9 gqy9 hqy9 => ?_)
    obtain ⟨rfl, hfqy9⟩ := hqy9
    have hgy10 := (hfqy9 (i) (ne_o (i := i) (c := 0) (d := 11) rfl)).trans hgy6
    exact z_iret C hr hlk dX10_hours_34 (by decide) (by decide) ⟨-1, rfl, rfl, rfl, by rw [if_neg hw9], ⟨⟨_, hgy10, (uZ_s _ _ _)⟩, fun j h1 => by rw [hfqy9 _ (by omega)]; rw [egy5, va_up_ne _ _ (by omega)]⟩⟩

