set_option maxRecDepth 100000 in
set_option maxHeartbeats 4000000 in
theorem c_X5_airAt0 (l : Launch) (D : va_G) (A : Nat → Prop) (cs : Nat → ClassId) (tt : Nat) (N : Nat) (ad : Nat → Nat) (g : Nat → va_E) (b : Nat) (hN : b < N) (hb : g b = oC 7 [.int (zI 0), .int (zI 0), .int (zI 0), .ref (ad (b + 1)), .ref (ad (b + 2)), .ref (ad (b + 3)), .ref (ad (b + 4)), .ref (ad (b + 5)), .ref (ad (b + 6))]) (z : Int) : zM l yX5_airAt cX5_airAt 2 (some .int) ({ frames := 1, cells := 0, slots := 0, locals := 60 } : Room) D A cs tt N ad g [.ref (ad b), .int (zI z)] (rI0 N ad fun r g' => r = 0 ∧ g' = g) := by
  have ha1 : zAt ad (b) (ad b) := rfl
  refine z_of (by decide) (Nat.le_of_ble_eq_true rfl) ?_
  intro p e s m below meth c C hr hlk hnm
  refine z_lv (lv' := [(0, .ref (ad b)), (1, .int (zI (z)))]) [0, 1] rfl ?_
  refine z_aload_n C 0 dX5_airAt_0 rfl ?_
  refine z_get (v := .int (zI (0))) C (by omega) ha1 hb rfl inA_X5 1 (by decide) q_92 rfl rfl dX5_airAt_1 ?_
  refine z_if_ne (tgt := 14) C dX5_airAt_4 (by decide) (by omega) (fun h => absurd h (by omega)) (fun _ => ?_)
  refine z_aload_n C 0 dX5_airAt_7 rfl ?_
  refine z_get (v := .int (zI (0))) C (by omega) ha1 hb rfl inA_X5 2 (by decide) q_95 rfl rfl dX5_airAt_8 ?_
  refine z_goto (tgt := 27) C dX5_airAt_11 (by decide) ?_
  exact z_iret C hr hlk dX5_airAt_27 (by decide) (by decide) ⟨0, rfl, rfl, rfl, rfl, rfl⟩

set_option maxRecDepth 100000 in
set_option maxHeartbeats 4000000 in
theorem c_X5_fallAt0 (l : Launch) (D : va_G) (A : Nat → Prop) (cs : Nat → ClassId) (tt : Nat) (N : Nat) (ad : Nat → Nat) (g : Nat → va_E) (b : Nat) (hN : b < N) (hb : g b = oC 7 [.int (zI 0), .int (zI 0), .int (zI 0), .ref (ad (b + 1)), .ref (ad (b + 2)), .ref (ad (b + 3)), .ref (ad (b + 4)), .ref (ad (b + 5)), .ref (ad (b + 6))]) (z : Int) : zM l yX5_fallAt cX5_fallAt 2 (some .int) ({ frames := 1, cells := 0, slots := 0, locals := 60 } : Room) D A cs tt N ad g [.ref (ad b), .int (zI z)] (rI0 N ad fun r g' => r = 0 ∧ g' = g) := by
  have ha1 : zAt ad (b) (ad b) := rfl
  refine z_of (by decide) (Nat.le_of_ble_eq_true rfl) ?_
  intro p e s m below meth c C hr hlk hnm
  refine z_lv (lv' := [(0, .ref (ad b)), (1, .int (zI (z)))]) [0, 1] rfl ?_
  refine z_aload_n C 0 dX5_fallAt_0 rfl ?_
  refine z_get (v := .int (zI (0))) C (by omega) ha1 hb rfl inA_X5 1 (by decide) q_92 rfl rfl dX5_fallAt_1 ?_
  refine z_if_ne (tgt := 11) C dX5_fallAt_4 (by decide) (by omega) (fun h => absurd h (by omega)) (fun _ => ?_)
  refine z_iconst (z := 0) C dX5_fallAt_7 rfl ?_
  refine z_goto (tgt := 24) C dX5_fallAt_8 (by decide) ?_
  exact z_iret C hr hlk dX5_fallAt_24 (by decide) (by decide) ⟨0, rfl, rfl, rfl, rfl, rfl⟩

set_option maxRecDepth 100000 in
set_option maxHeartbeats 4000000 in
theorem c_X5_muchAt0 (l : Launch) (D : va_G) (A : Nat → Prop) (cs : Nat → ClassId) (tt : Nat) (N : Nat) (ad : Nat → Nat) (g : Nat → va_E) (b : Nat) (hN : b < N) (hb : g b = oC 7 [.int (zI 0), .int (zI 0), .int (zI 0), .ref (ad (b + 1)), .ref (ad (b + 2)), .ref (ad (b + 3)), .ref (ad (b + 4)), .ref (ad (b + 5)), .ref (ad (b + 6))]) (z : Int) : zM l yX5_muchAt cX5_muchAt 2 (some .int) ({ frames := 1, cells := 0, slots := 0, locals := 60 } : Room) D A cs tt N ad g [.ref (ad b), .int (zI z)] (rI0 N ad fun r g' => r = 0 ∧ g' = g) := by
  have ha1 : zAt ad (b) (ad b) := rfl
  refine z_of (by decide) (Nat.le_of_ble_eq_true rfl) ?_
  intro p e s m below meth c C hr hlk hnm
  refine z_lv (lv' := [(0, .ref (ad b)), (1, .int (zI (z)))]) [0, 1] rfl ?_
  refine z_aload_n C 0 dX5_muchAt_0 rfl ?_
  refine z_get (v := .int (zI (0))) C (by omega) ha1 hb rfl inA_X5 1 (by decide) q_92 rfl rfl dX5_muchAt_1 ?_
  refine z_if_ne (tgt := 11) C dX5_muchAt_4 (by decide) (by omega) (fun h => absurd h (by omega)) (fun _ => ?_)
  refine z_iconst (z := 0) C dX5_muchAt_7 rfl ?_
  refine z_goto (tgt := 24) C dX5_muchAt_8 (by decide) ?_
  exact z_iret C hr hlk dX5_muchAt_24 (by decide) (by decide) ⟨0, rfl, rfl, rfl, rfl, rfl⟩

set_option maxRecDepth 100000 in
set_option maxHeartbeats 4000000 in
theorem c_X5_allSlopes0 (l : Launch) (D : va_G) (A : Nat → Prop) (cs : Nat → ClassId) (tt : Nat) (N : Nat) (ad : Nat → Nat) (g : Nat → va_E) (b : Nat) (hN : b < N) (hb : g b = oC 7 [.int (zI 0), .int (zI 0), .int (zI 0), .ref (ad (b + 1)), .ref (ad (b + 2)), .ref (ad (b + 3)), .ref (ad (b + 4)), .ref (ad (b + 5)), .ref (ad (b + 6))]) : zM l yX5_allSlopes cX5_allSlopes 1 (some .int) ({ frames := 1, cells := 0, slots := 0, locals := 60 } : Room) D A cs tt N ad g [.ref (ad b)] (rI0 N ad fun r g' => r = 0 ∧ g' = g) := by
  have ha1 : zAt ad (b) (ad b) := rfl
  refine z_of (by decide) (Nat.le_of_ble_eq_true rfl) ?_
  intro p e s m below meth c C hr hlk hnm
  refine z_lv (lv' := [(0, .ref (ad b))]) [0] rfl ?_
  refine z_iconst (z := 1) C dX5_allSlopes_0 rfl ?_
  refine z_aload_n C 0 dX5_allSlopes_1 rfl ?_
  refine z_get (v := .int (zI (0))) C (by omega) ha1 hb rfl inA_X5 0 (by decide) q_88 rfl rfl dX5_allSlopes_2 ?_
  refine z_ishl (z := 1) C dX5_allSlopes_5 (by decide) ?_
  refine z_iconst (z := 1) C dX5_allSlopes_6 rfl ?_
  refine z_isub C dX5_allSlopes_7 ?_
  exact z_iret C hr hlk dX5_allSlopes_8 (by decide) (by decide) ⟨0, rfl, rfl, rfl, rfl, rfl⟩

set_option maxRecDepth 100000 in
set_option maxHeartbeats 4000000 in
theorem c_X8_hour0 (l : Launch) (D : va_G) (A : Nat → Prop) (cs : Nat → ClassId) (tt : Nat) (N : Nat) (ad : Nat → Nat) (g : Nat → va_E) (a b : Nat) (hN : a < N ∧ b < N) (hab : a ≠ b) (tm x1 x2 x3 x4 x5 : Int) (pk : Nat) (ha : g a = oC 10 [.int (zI (tm)), .int (zI x1), .int (zI x2), .int (zI x3), .int (zI x4), .int (zI x5), .ref pk]) (hb : g b = oC 7 [.int (zI 0), .int (zI 0), .int (zI 0), .ref (ad (b + 1)), .ref (ad (b + 2)), .ref (ad (b + 3)), .ref (ad (b + 4)), .ref (ad (b + 5)), .ref (ad (b + 6))]) (z : Int) : zM l yX8_hour cX8_hour 9 none ({ frames := 2, cells := 0, slots := 0, locals := 120 } : Room) D A cs tt N ad g [.ref (ad a), .ref (ad b), .int (zI z), .int (zI 1)] (rV0 N ad fun g' => g' a = oC 10 [.int (zI (tm + 1)), .int (zI x1), .int (zI x2), .int (zI x3), .int (zI x4), .int (zI x5), .ref pk] ∧ ∀ j, j ≠ a → g' j = g j) := by
  have ha1 : zAt ad (a) (ad a) := rfl
  have ha2 : zAt ad (b) (ad b) := rfl
  refine z_of (by decide) (Nat.le_of_ble_eq_true rfl) ?_
  intro p e s m below meth c C hr hlk hnm
  refine z_lv (lv' := [(0, .ref (ad a)), (1, .ref (ad b)), (2, .int (zI (z))), (3, .int (zI (1)))]) [0, 1, 2, 3] rfl ?_
  refine z_aload_n C 1 dX8_hour_0 rfl ?_
  refine z_aload_n C 0 dX8_hour_1 rfl ?_
  refine z_get (v := .int (zI (tm))) C (by omega) ha1 ha rfl inA_X8 0 (by decide) q_173 rfl rfl dX8_hour_2 ?_
  refine z_cV (As := [.int (zI (tm))]) (rest := []) (ci := 7) C (c_X5_airAt0 l D A cs tt N ad _ b (by omega) hb tm) (by omega) ha2 hb rfl rfl mv_yX5_airAt q_439 hd_yX5_airAt (by decide) (Nat.le_of_ble_eq_true rfl) (by decide) dX8_hour_5 rfl (kI0 fun rairAt gairAt hairAt => ?_)
  obtain ⟨rfl, rfl⟩ := hairAt
  refine z_istore (lv' := [(4, .int (zI (0))), (0, .ref (ad a)), (1, .ref (ad b)), (2, .int (zI (z))), (3, .int (zI (1)))]) C dX8_hour_8 (by decide) rfl ?_
  refine z_iload_n C 4 dX8_hour_10 rfl ?_
  refine z_if_eq (tgt := 25) C dX8_hour_11 (by decide) (by omega) (fun h => absurd h (by omega)) (fun _ => ?_)
  refine z_aload_n C 2 dX8_hour_14 rfl ?_
  refine z_aload_n C 1 dX8_hour_15 rfl ?_
  refine z_get (v := .int (zI (tm))) C (by omega) ha1 ha rfl inA_X8 0 (by decide) q_173 rfl rfl dX8_hour_16 ?_
  refine z_cV (As := [.int (zI (tm))]) (rest := []) (ci := 7) C (c_X5_fallAt0 l D A cs tt N ad _ b (by omega) hb tm) (by omega) ha2 hb rfl rfl mv_yX5_fallAt q_446 hd_yX5_fallAt (by decide) (Nat.le_of_ble_eq_true rfl) (by decide) dX8_hour_19 rfl (kI0 fun rfallAt gfallAt hfallAt => ?_)
  obtain ⟨rfl, rfl⟩ := hfallAt
  refine z_goto (tgt := 26) C dX8_hour_22 (by decide) ?_
  refine z_istore (lv' := [(5, .int (zI (0))), (4, .int (zI (0))), (0, .ref (ad a)), (1, .ref (ad b)), (2, .int (zI (z))), (3, .int (zI (1)))]) C dX8_hour_26 (by decide) rfl ?_
  refine z_aload_n C 3 dX8_hour_28 rfl ?_
  refine z_aload_n C 2 dX8_hour_29 rfl ?_
  refine z_get (v := .int (zI (tm))) C (by omega) ha1 ha rfl inA_X8 0 (by decide) q_173 rfl rfl dX8_hour_30 ?_
  refine z_cV (As := [.int (zI (tm))]) (rest := []) (ci := 7) C (c_X5_muchAt0 l D A cs tt N ad _ b (by omega) hb tm) (by omega) ha2 hb rfl rfl mv_yX5_muchAt q_450 hd_yX5_muchAt (by decide) (Nat.le_of_ble_eq_true rfl) (by decide) dX8_hour_33 rfl (kI0 fun rmuchAt gmuchAt hmuchAt => ?_)
  obtain ⟨rfl, rfl⟩ := hmuchAt
  refine z_istore (lv' := [(6, .int (zI (0))), (5, .int (zI (0))), (4, .int (zI (0))), (0, .ref (ad a)), (1, .ref (ad b)), (2, .int (zI (z))), (3, .int (zI (1)))]) C dX8_hour_36 (by decide) rfl ?_
  refine z_iconst (z := 0) C dX8_hour_38 rfl ?_
  refine z_istore (lv' := [(7, .int (zI (0))), (6, .int (zI (0))), (5, .int (zI (0))), (4, .int (zI (0))), (0, .ref (ad a)), (1, .ref (ad b)), (2, .int (zI (z))), (3, .int (zI (1)))]) C dX8_hour_39 (by decide) rfl ?_
  refine z_iload C 0 dX8_hour_41 rfl ?_
  refine z_aload_n C 5 dX8_hour_43 rfl ?_
  refine z_get (v := .int (zI (0))) C (by omega) ha2 hb rfl inA_X5 0 (by decide) q_91 rfl rfl dX8_hour_44 ?_
  refine z_icmp_ge (tgt := 141) C dX8_hour_47 (by decide) (by omega) (by omega) (fun _ => ?_) (fun h => absurd h (by omega))
  refine z_aload_n C 4 dX8_hour_141 rfl ?_
  refine z_dup C dX8_hour_142 rfl ?_
  refine z_get (v := .int (zI (tm))) C (by omega) ha1 ha rfl inA_X8 0 (by decide) q_173 rfl rfl dX8_hour_143 ?_
  refine z_iconst (z := 1) C dX8_hour_146 rfl ?_
  refine z_iadd C dX8_hour_147 ?_
  refine z_put (fs' := [.int (zI (tm + 1)), .int (zI (x1)), .int (zI (x2)), .int (zI (x3)), .int (zI (x4)), .int (zI (x5)), .ref pk]) C (by omega) ha1 ha tyX8 tyX8_ok nmX8 rfl inA_X8 0 (by decide) q_173 rfl rfl rfl rfl (Nat.le_of_ble_eq_true rfl) rfl dX8_hour_148 (fun g3 eg4 => ?_)
  have hg5 := up_s eg4
  exact z_vret C hr hlk dX8_hour_151 (by decide) (by decide) ⟨rfl, rfl, rfl, hg5, fun j h1 => by rw [eg4, va_up_ne _ _ (by omega)]⟩

set_option maxRecDepth 100000 in
set_option maxHeartbeats 4000000 in
theorem c_X5_copyFrom (l : Launch) (D : va_G) (A : Nat → Prop) (cs : Nat → ClassId) (tt : Nat) (N : Nat) (ad : Nat → Nat) (g : Nat → va_E) (a b : Nat) (hN : a + 7 ≤ N ∧ b + 7 ≤ N) (hab : a + 7 ≤ b ∨ b + 7 ≤ a) (sl ho ua sl2 ho2 ua2 : Int) (st op ai fa mu tb st2 op2 ai2 fa2 mu2 tb2 : Nat → Int) (ha : isPlan cs ad g a sl ho ua st op ai fa mu tb) (hb : isPlan cs ad g b sl2 ho2 ua2 st2 op2 ai2 fa2 mu2 tb2) : zM l yX5_copyFrom cX5_copyFrom 2 none ({ frames := 1, cells := 0, slots := 0, locals := 60 } : Room) D A cs tt N ad g [.ref (ad a), .ref (ad b)] (rV0 N ad fun g' => isPlan cs ad g' a sl2 ho2 ua2 st2 op2 ai2 fa2 mu2 tb2 ∧ ∀ j, j < a ∨ a + 7 ≤ j → g' j = g j) := by
  obtain ⟨ka1, ka2, ka3, ka4, ka5, ka6, ka7⟩ := id ha
  have ha1 : zAt ad (a) (ad a) := rfl
  have ha2 : zAt ad (a + 1) (ad (a + 1)) := rfl
  have ha3 : zAt ad (a + 2) (ad (a + 2)) := rfl
  have ha4 : zAt ad (a + 3) (ad (a + 3)) := rfl
  have ha5 : zAt ad (a + 4) (ad (a + 4)) := rfl
  have ha6 : zAt ad (a + 5) (ad (a + 5)) := rfl
  have ha7 : zAt ad (a + 6) (ad (a + 6)) := rfl
  obtain ⟨kb1, kb2, kb3, kb4, kb5, kb6, kb7⟩ := id hb
  have ha8 : zAt ad (b) (ad b) := rfl
  have ha9 : zAt ad (b + 1) (ad (b + 1)) := rfl
  have ha10 : zAt ad (b + 2) (ad (b + 2)) := rfl
  have ha11 : zAt ad (b + 3) (ad (b + 3)) := rfl
  have ha12 : zAt ad (b + 4) (ad (b + 4)) := rfl
  have ha13 : zAt ad (b + 5) (ad (b + 5)) := rfl
  have ha14 : zAt ad (b + 6) (ad (b + 6)) := rfl
  refine z_of (by decide) (Nat.le_of_ble_eq_true rfl) ?_
  intro p e s m below meth c C hr hlk hnm
  refine z_lv (lv' := [(0, .ref (ad a)), (1, .ref (ad b))]) [0, 1] rfl ?_
  refine z_aload_n C 0 dX5_copyFrom_0 rfl ?_
  refine z_aload_n C 1 dX5_copyFrom_1 rfl ?_
  refine z_get (v := .int (zI (sl2))) C (by omega) ha8 kb1 rfl inA_X5 0 (by decide) q_88 rfl rfl dX5_copyFrom_2 ?_
  refine z_put (fs' := [.int (zI (sl2)), .int (zI (ho)), .int (zI (ua)), .ref (ad (a + 1)), .ref (ad (a + 2)), .ref (ad (a + 3)), .ref (ad (a + 4)), .ref (ad (a + 5)), .ref (ad (a + 6))]) C (by omega) ha1 ka1 tyX5 tyX5_ok nmX5 rfl inA_X5 0 (by decide) q_88 rfl rfl rfl rfl (Nat.le_of_ble_eq_true rfl) rfl dX5_copyFrom_5 (fun g15 eg16 => ?_)
  have hg17 := up_s eg16
  refine z_aload_n C 0 dX5_copyFrom_8 rfl ?_
  refine z_aload_n C 1 dX5_copyFrom_9 rfl ?_
  have hg18 := up_n eg16 kb1 (by omega)
  refine z_get (v := .int (zI (ho2))) C (by omega) ha8 hg18 rfl inA_X5 1 (by decide) q_92 rfl rfl dX5_copyFrom_10 ?_
  refine z_put (fs' := [.int (zI (sl2)), .int (zI (ho2)), .int (zI (ua)), .ref (ad (a + 1)), .ref (ad (a + 2)), .ref (ad (a + 3)), .ref (ad (a + 4)), .ref (ad (a + 5)), .ref (ad (a + 6))]) C (by omega) ha1 hg17 tyX5 tyX5_ok nmX5 rfl inA_X5 1 (by decide) q_92 rfl rfl rfl rfl (Nat.le_of_ble_eq_true rfl) rfl dX5_copyFrom_13 (fun g19 eg20 => ?_)
  have hg21 := up_s eg20
  refine z_aload_n C 0 dX5_copyFrom_16 rfl ?_
  refine z_aload_n C 1 dX5_copyFrom_17 rfl ?_
  have hg22 := up_n eg20 hg18 (by omega)
  refine z_get (v := .int (zI (ua2))) C (by omega) ha8 hg22 rfl inA_X5 2 (by decide) q_95 rfl rfl dX5_copyFrom_18 ?_
  refine z_put (fs' := [.int (zI (sl2)), .int (zI (ho2)), .int (zI (ua2)), .ref (ad (a + 1)), .ref (ad (a + 2)), .ref (ad (a + 3)), .ref (ad (a + 4)), .ref (ad (a + 5)), .ref (ad (a + 6))]) C (by omega) ha1 hg21 tyX5 tyX5_ok nmX5 rfl inA_X5 2 (by decide) q_95 rfl rfl rfl rfl (Nat.le_of_ble_eq_true rfl) rfl dX5_copyFrom_21 (fun g23 eg24 => ?_)
  have hg25 := up_s eg24
  refine z_aload_n C 1 dX5_copyFrom_24 rfl ?_
  have hg26 := up_n eg24 hg22 (by omega)
  refine z_get (v := .ref (ad (b + 1))) C (by omega) ha8 hg26 rfl inA_X5 3 (by decide) q_96 rfl rfl dX5_copyFrom_25 ?_
  refine z_iconst (z := 0) C dX5_copyFrom_28 rfl ?_
  refine z_aload_n C 0 dX5_copyFrom_29 rfl ?_
  refine z_get (v := .ref (ad (a + 1))) C (by omega) ha1 hg25 rfl inA_X5 3 (by decide) q_96 rfl rfl dX5_copyFrom_30 ?_
  refine z_iconst (z := 0) C dX5_copyFrom_33 rfl ?_
  refine z_aload_n C 0 dX5_copyFrom_34 rfl ?_
  refine z_get (v := .ref (ad (a + 1))) C (by omega) ha1 hg25 rfl inA_X5 3 (by decide) q_96 rfl rfl dX5_copyFrom_35 ?_
  have hg27 := up_n eg16 ka2 (ne_o (i := a) (c := 1) (d := 0) rfl)
  have hg28 := up_n eg20 hg27 (ne_o (i := a) (c := 1) (d := 0) rfl)
  have hg29 := up_n eg24 hg28 (ne_o (i := a) (c := 1) (d := 0) rfl)
  refine z_alen (z := 4) C (by omega) ha2 hg29 1 rfl rfl dX5_copyFrom_38 ?_
  have hg30 := up_n eg16 kb2 (by omega)
  have hg31 := up_n eg20 hg30 (by omega)
  have hg32 := up_n eg24 hg31 (by omega)
  refine z_copyI C q_733 q_430 q_429 q_21 (by omega) (by omega) ha9 ha2 hg32 hg29 0 0 4 rfl rfl rfl (by decide) (by decide) (by decide) (by decide) (Nat.le_of_ble_eq_true rfl) dX5_copyFrom_39 (fun g33 eg34 => ?_)
  have hg35 := up_s eg34
  refine z_ext (r' := st2) (by omega) hg35 (fun j hj => cZ_all hj) (fun g36 eg37 => ?_)
  have hg38 := up_s eg37
  refine z_aload_n C 1 dX5_copyFrom_42 rfl ?_
  have hg39 := up_n eg34 hg26 (by omega)
  have hg40 := up_n eg37 hg39 (by omega)
  refine z_get (v := .ref (ad (b + 2))) C (by omega) ha8 hg40 rfl inA_X5 4 (by decide) q_100 rfl rfl dX5_copyFrom_43 ?_
  refine z_iconst (z := 0) C dX5_copyFrom_46 rfl ?_
  refine z_aload_n C 0 dX5_copyFrom_47 rfl ?_
  have hg41 := up_n eg34 hg25 (ne_o (i := a) (c := 0) (d := 1) rfl)
  have hg42 := up_n eg37 hg41 (ne_o (i := a) (c := 0) (d := 1) rfl)
  refine z_get (v := .ref (ad (a + 2))) C (by omega) ha1 hg42 rfl inA_X5 4 (by decide) q_100 rfl rfl dX5_copyFrom_48 ?_
  refine z_iconst (z := 0) C dX5_copyFrom_51 rfl ?_
  refine z_aload_n C 0 dX5_copyFrom_52 rfl ?_
  refine z_get (v := .ref (ad (a + 2))) C (by omega) ha1 hg42 rfl inA_X5 4 (by decide) q_100 rfl rfl dX5_copyFrom_53 ?_
  have hg43 := up_n eg16 ka3 (ne_o (i := a) (c := 2) (d := 0) rfl)
  have hg44 := up_n eg20 hg43 (ne_o (i := a) (c := 2) (d := 0) rfl)
  have hg45 := up_n eg24 hg44 (ne_o (i := a) (c := 2) (d := 0) rfl)
  have hg46 := up_n eg34 hg45 (ne_o (i := a) (c := 2) (d := 1) rfl)
  have hg47 := up_n eg37 hg46 (ne_o (i := a) (c := 2) (d := 1) rfl)
  refine z_alen (z := 4) C (by omega) ha3 hg47 1 rfl rfl dX5_copyFrom_56 ?_
  have hg48 := up_n eg16 kb3 (by omega)
  have hg49 := up_n eg20 hg48 (by omega)
  have hg50 := up_n eg24 hg49 (by omega)
  have hg51 := up_n eg34 hg50 (by omega)
  have hg52 := up_n eg37 hg51 (by omega)
  refine z_copyI C q_733 q_430 q_429 q_21 (by omega) (by omega) ha10 ha3 hg52 hg47 0 0 4 rfl rfl rfl (by decide) (by decide) (by decide) (by decide) (Nat.le_of_ble_eq_true rfl) dX5_copyFrom_57 (fun g53 eg54 => ?_)
  have hg55 := up_s eg54
  refine z_ext (r' := op2) (by omega) hg55 (fun j hj => cZ_all hj) (fun g56 eg57 => ?_)
  have hg58 := up_s eg57
  refine z_aload_n C 1 dX5_copyFrom_60 rfl ?_
  have hg59 := up_n eg54 hg40 (by omega)
  have hg60 := up_n eg57 hg59 (by omega)
  refine z_get (v := .ref (ad (b + 3))) C (by omega) ha8 hg60 rfl inA_X5 5 (by decide) q_104 rfl rfl dX5_copyFrom_61 ?_
  refine z_iconst (z := 0) C dX5_copyFrom_64 rfl ?_
  refine z_aload_n C 0 dX5_copyFrom_65 rfl ?_
  have hg61 := up_n eg54 hg42 (ne_o (i := a) (c := 0) (d := 2) rfl)
  have hg62 := up_n eg57 hg61 (ne_o (i := a) (c := 0) (d := 2) rfl)
  refine z_get (v := .ref (ad (a + 3))) C (by omega) ha1 hg62 rfl inA_X5 5 (by decide) q_104 rfl rfl dX5_copyFrom_66 ?_
  refine z_iconst (z := 0) C dX5_copyFrom_69 rfl ?_
  refine z_aload_n C 0 dX5_copyFrom_70 rfl ?_
  refine z_get (v := .ref (ad (a + 3))) C (by omega) ha1 hg62 rfl inA_X5 5 (by decide) q_104 rfl rfl dX5_copyFrom_71 ?_
  have hg63 := up_n eg16 ka4 (ne_o (i := a) (c := 3) (d := 0) rfl)
  have hg64 := up_n eg20 hg63 (ne_o (i := a) (c := 3) (d := 0) rfl)
  have hg65 := up_n eg24 hg64 (ne_o (i := a) (c := 3) (d := 0) rfl)
  have hg66 := up_n eg34 hg65 (ne_o (i := a) (c := 3) (d := 1) rfl)
  have hg67 := up_n eg37 hg66 (ne_o (i := a) (c := 3) (d := 1) rfl)
  have hg68 := up_n eg54 hg67 (ne_o (i := a) (c := 3) (d := 2) rfl)
  have hg69 := up_n eg57 hg68 (ne_o (i := a) (c := 3) (d := 2) rfl)
  refine z_alen (z := 24) C (by omega) ha4 hg69 1 rfl rfl dX5_copyFrom_74 ?_
  have hg70 := up_n eg16 kb4 (by omega)
  have hg71 := up_n eg20 hg70 (by omega)
  have hg72 := up_n eg24 hg71 (by omega)
  have hg73 := up_n eg34 hg72 (by omega)
  have hg74 := up_n eg37 hg73 (by omega)
  have hg75 := up_n eg54 hg74 (by omega)
  have hg76 := up_n eg57 hg75 (by omega)
  refine z_copyI C q_733 q_430 q_429 q_21 (by omega) (by omega) ha11 ha4 hg76 hg69 0 0 24 rfl rfl rfl (by decide) (by decide) (by decide) (by decide) (Nat.le_of_ble_eq_true rfl) dX5_copyFrom_75 (fun g77 eg78 => ?_)
  have hg79 := up_s eg78
  refine z_ext (r' := ai2) (by omega) hg79 (fun j hj => cZ_all hj) (fun g80 eg81 => ?_)
  have hg82 := up_s eg81
  refine z_aload_n C 1 dX5_copyFrom_78 rfl ?_
  have hg83 := up_n eg78 hg60 (by omega)
  have hg84 := up_n eg81 hg83 (by omega)
  refine z_get (v := .ref (ad (b + 4))) C (by omega) ha8 hg84 rfl inA_X5 6 (by decide) q_107 rfl rfl dX5_copyFrom_79 ?_
  refine z_iconst (z := 0) C dX5_copyFrom_82 rfl ?_
  refine z_aload_n C 0 dX5_copyFrom_83 rfl ?_
  have hg85 := up_n eg78 hg62 (ne_o (i := a) (c := 0) (d := 3) rfl)
  have hg86 := up_n eg81 hg85 (ne_o (i := a) (c := 0) (d := 3) rfl)
  refine z_get (v := .ref (ad (a + 4))) C (by omega) ha1 hg86 rfl inA_X5 6 (by decide) q_107 rfl rfl dX5_copyFrom_84 ?_
  refine z_iconst (z := 0) C dX5_copyFrom_87 rfl ?_
  refine z_aload_n C 0 dX5_copyFrom_88 rfl ?_
  refine z_get (v := .ref (ad (a + 4))) C (by omega) ha1 hg86 rfl inA_X5 6 (by decide) q_107 rfl rfl dX5_copyFrom_89 ?_
  have hg87 := up_n eg16 ka5 (ne_o (i := a) (c := 4) (d := 0) rfl)
  have hg88 := up_n eg20 hg87 (ne_o (i := a) (c := 4) (d := 0) rfl)
  have hg89 := up_n eg24 hg88 (ne_o (i := a) (c := 4) (d := 0) rfl)
  have hg90 := up_n eg34 hg89 (ne_o (i := a) (c := 4) (d := 1) rfl)
  have hg91 := up_n eg37 hg90 (ne_o (i := a) (c := 4) (d := 1) rfl)
  have hg92 := up_n eg54 hg91 (ne_o (i := a) (c := 4) (d := 2) rfl)
  have hg93 := up_n eg57 hg92 (ne_o (i := a) (c := 4) (d := 2) rfl)
  have hg94 := up_n eg78 hg93 (ne_o (i := a) (c := 4) (d := 3) rfl)
  have hg95 := up_n eg81 hg94 (ne_o (i := a) (c := 4) (d := 3) rfl)
  refine z_alen (z := 24) C (by omega) ha5 hg95 1 rfl rfl dX5_copyFrom_92 ?_
  have hg96 := up_n eg16 kb5 (by omega)
  have hg97 := up_n eg20 hg96 (by omega)
  have hg98 := up_n eg24 hg97 (by omega)
  have hg99 := up_n eg34 hg98 (by omega)
  have hg100 := up_n eg37 hg99 (by omega)
  have hg101 := up_n eg54 hg100 (by omega)
  have hg102 := up_n eg57 hg101 (by omega)
  have hg103 := up_n eg78 hg102 (by omega)
  have hg104 := up_n eg81 hg103 (by omega)
  refine z_copyI C q_733 q_430 q_429 q_21 (by omega) (by omega) ha12 ha5 hg104 hg95 0 0 24 rfl rfl rfl (by decide) (by decide) (by decide) (by decide) (Nat.le_of_ble_eq_true rfl) dX5_copyFrom_93 (fun g105 eg106 => ?_)
  have hg107 := up_s eg106
  refine z_ext (r' := fa2) (by omega) hg107 (fun j hj => cZ_all hj) (fun g108 eg109 => ?_)
  have hg110 := up_s eg109
  refine z_aload_n C 1 dX5_copyFrom_96 rfl ?_
  have hg111 := up_n eg106 hg84 (by omega)
  have hg112 := up_n eg109 hg111 (by omega)
  refine z_get (v := .ref (ad (b + 5))) C (by omega) ha8 hg112 rfl inA_X5 7 (by decide) q_110 rfl rfl dX5_copyFrom_97 ?_
  refine z_iconst (z := 0) C dX5_copyFrom_100 rfl ?_
  refine z_aload_n C 0 dX5_copyFrom_101 rfl ?_
  have hg113 := up_n eg106 hg86 (ne_o (i := a) (c := 0) (d := 4) rfl)
  have hg114 := up_n eg109 hg113 (ne_o (i := a) (c := 0) (d := 4) rfl)
  refine z_get (v := .ref (ad (a + 5))) C (by omega) ha1 hg114 rfl inA_X5 7 (by decide) q_110 rfl rfl dX5_copyFrom_102 ?_
  refine z_iconst (z := 0) C dX5_copyFrom_105 rfl ?_
  refine z_aload_n C 0 dX5_copyFrom_106 rfl ?_
  refine z_get (v := .ref (ad (a + 5))) C (by omega) ha1 hg114 rfl inA_X5 7 (by decide) q_110 rfl rfl dX5_copyFrom_107 ?_
  have hg115 := up_n eg16 ka6 (ne_o (i := a) (c := 5) (d := 0) rfl)
  have hg116 := up_n eg20 hg115 (ne_o (i := a) (c := 5) (d := 0) rfl)
  have hg117 := up_n eg24 hg116 (ne_o (i := a) (c := 5) (d := 0) rfl)
  have hg118 := up_n eg34 hg117 (ne_o (i := a) (c := 5) (d := 1) rfl)
  have hg119 := up_n eg37 hg118 (ne_o (i := a) (c := 5) (d := 1) rfl)
  have hg120 := up_n eg54 hg119 (ne_o (i := a) (c := 5) (d := 2) rfl)
  have hg121 := up_n eg57 hg120 (ne_o (i := a) (c := 5) (d := 2) rfl)
  have hg122 := up_n eg78 hg121 (ne_o (i := a) (c := 5) (d := 3) rfl)
  have hg123 := up_n eg81 hg122 (ne_o (i := a) (c := 5) (d := 3) rfl)
  have hg124 := up_n eg106 hg123 (ne_o (i := a) (c := 5) (d := 4) rfl)
  have hg125 := up_n eg109 hg124 (ne_o (i := a) (c := 5) (d := 4) rfl)
  refine z_alen (z := 24) C (by omega) ha6 hg125 1 rfl rfl dX5_copyFrom_110 ?_
  have hg126 := up_n eg16 kb6 (by omega)
  have hg127 := up_n eg20 hg126 (by omega)
  have hg128 := up_n eg24 hg127 (by omega)
  have hg129 := up_n eg34 hg128 (by omega)
  have hg130 := up_n eg37 hg129 (by omega)
  have hg131 := up_n eg54 hg130 (by omega)
  have hg132 := up_n eg57 hg131 (by omega)
  have hg133 := up_n eg78 hg132 (by omega)
  have hg134 := up_n eg81 hg133 (by omega)
  have hg135 := up_n eg106 hg134 (by omega)
  have hg136 := up_n eg109 hg135 (by omega)
  refine z_copyI C q_733 q_430 q_429 q_21 (by omega) (by omega) ha13 ha6 hg136 hg125 0 0 24 rfl rfl rfl (by decide) (by decide) (by decide) (by decide) (Nat.le_of_ble_eq_true rfl) dX5_copyFrom_111 (fun g137 eg138 => ?_)
  have hg139 := up_s eg138
  refine z_ext (r' := mu2) (by omega) hg139 (fun j hj => cZ_all hj) (fun g140 eg141 => ?_)
  have hg142 := up_s eg141
  refine z_aload_n C 1 dX5_copyFrom_114 rfl ?_
  have hg143 := up_n eg138 hg112 (by omega)
  have hg144 := up_n eg141 hg143 (by omega)
  refine z_get (v := .ref (ad (b + 6))) C (by omega) ha8 hg144 rfl inA_X5 8 (by decide) q_113 rfl rfl dX5_copyFrom_115 ?_
  refine z_iconst (z := 0) C dX5_copyFrom_118 rfl ?_
  refine z_aload_n C 0 dX5_copyFrom_119 rfl ?_
  have hg145 := up_n eg138 hg114 (ne_o (i := a) (c := 0) (d := 5) rfl)
  have hg146 := up_n eg141 hg145 (ne_o (i := a) (c := 0) (d := 5) rfl)
  refine z_get (v := .ref (ad (a + 6))) C (by omega) ha1 hg146 rfl inA_X5 8 (by decide) q_113 rfl rfl dX5_copyFrom_120 ?_
  refine z_iconst (z := 0) C dX5_copyFrom_123 rfl ?_
  refine z_aload_n C 0 dX5_copyFrom_124 rfl ?_
  refine z_get (v := .ref (ad (a + 6))) C (by omega) ha1 hg146 rfl inA_X5 8 (by decide) q_113 rfl rfl dX5_copyFrom_125 ?_
  have hg147 := up_n eg16 ka7 (ne_o (i := a) (c := 6) (d := 0) rfl)
  have hg148 := up_n eg20 hg147 (ne_o (i := a) (c := 6) (d := 0) rfl)
  have hg149 := up_n eg24 hg148 (ne_o (i := a) (c := 6) (d := 0) rfl)
  have hg150 := up_n eg34 hg149 (ne_o (i := a) (c := 6) (d := 1) rfl)
  have hg151 := up_n eg37 hg150 (ne_o (i := a) (c := 6) (d := 1) rfl)
  have hg152 := up_n eg54 hg151 (ne_o (i := a) (c := 6) (d := 2) rfl)
  have hg153 := up_n eg57 hg152 (ne_o (i := a) (c := 6) (d := 2) rfl)
  have hg154 := up_n eg78 hg153 (ne_o (i := a) (c := 6) (d := 3) rfl)
  have hg155 := up_n eg81 hg154 (ne_o (i := a) (c := 6) (d := 3) rfl)
  have hg156 := up_n eg106 hg155 (ne_o (i := a) (c := 6) (d := 4) rfl)
  have hg157 := up_n eg109 hg156 (ne_o (i := a) (c := 6) (d := 4) rfl)
  have hg158 := up_n eg138 hg157 (ne_o (i := a) (c := 6) (d := 5) rfl)
  have hg159 := up_n eg141 hg158 (ne_o (i := a) (c := 6) (d := 5) rfl)
  refine z_alen (z := 15) C (by omega) ha7 hg159 1 rfl rfl dX5_copyFrom_128 ?_
  have hg160 := up_n eg16 kb7 (by omega)
  have hg161 := up_n eg20 hg160 (by omega)
  have hg162 := up_n eg24 hg161 (by omega)
  have hg163 := up_n eg34 hg162 (by omega)
  have hg164 := up_n eg37 hg163 (by omega)
  have hg165 := up_n eg54 hg164 (by omega)
  have hg166 := up_n eg57 hg165 (by omega)
  have hg167 := up_n eg78 hg166 (by omega)
  have hg168 := up_n eg81 hg167 (by omega)
  have hg169 := up_n eg106 hg168 (by omega)
  have hg170 := up_n eg109 hg169 (by omega)
  have hg171 := up_n eg138 hg170 (by omega)
  have hg172 := up_n eg141 hg171 (by omega)
  refine z_copyI C q_733 q_430 q_429 q_21 (by omega) (by omega) ha14 ha7 hg172 hg159 0 0 15 rfl rfl rfl (by decide) (by decide) (by decide) (by decide) (Nat.le_of_ble_eq_true rfl) dX5_copyFrom_129 (fun g173 eg174 => ?_)
  have hg175 := up_s eg174
  refine z_ext (r' := tb2) (by omega) hg175 (fun j hj => cZ_all hj) (fun g176 eg177 => ?_)
  have hg178 := up_s eg177
  have hg179 := up_n eg174 hg146 (ne_o (i := a) (c := 0) (d := 6) rfl)
  have hg180 := up_n eg177 hg179 (ne_o (i := a) (c := 0) (d := 6) rfl)
  have hg181 := up_n eg54 hg38 (ne_o (i := a) (c := 1) (d := 2) rfl)
  have hg182 := up_n eg57 hg181 (ne_o (i := a) (c := 1) (d := 2) rfl)
  have hg183 := up_n eg78 hg182 (ne_o (i := a) (c := 1) (d := 3) rfl)
  have hg184 := up_n eg81 hg183 (ne_o (i := a) (c := 1) (d := 3) rfl)
  have hg185 := up_n eg106 hg184 (ne_o (i := a) (c := 1) (d := 4) rfl)
  have hg186 := up_n eg109 hg185 (ne_o (i := a) (c := 1) (d := 4) rfl)
  have hg187 := up_n eg138 hg186 (ne_o (i := a) (c := 1) (d := 5) rfl)
  have hg188 := up_n eg141 hg187 (ne_o (i := a) (c := 1) (d := 5) rfl)
  have hg189 := up_n eg174 hg188 (ne_o (i := a) (c := 1) (d := 6) rfl)
  have hg190 := up_n eg177 hg189 (ne_o (i := a) (c := 1) (d := 6) rfl)
  have hg191 := up_n eg78 hg58 (ne_o (i := a) (c := 2) (d := 3) rfl)
  have hg192 := up_n eg81 hg191 (ne_o (i := a) (c := 2) (d := 3) rfl)
  have hg193 := up_n eg106 hg192 (ne_o (i := a) (c := 2) (d := 4) rfl)
  have hg194 := up_n eg109 hg193 (ne_o (i := a) (c := 2) (d := 4) rfl)
  have hg195 := up_n eg138 hg194 (ne_o (i := a) (c := 2) (d := 5) rfl)
  have hg196 := up_n eg141 hg195 (ne_o (i := a) (c := 2) (d := 5) rfl)
  have hg197 := up_n eg174 hg196 (ne_o (i := a) (c := 2) (d := 6) rfl)
  have hg198 := up_n eg177 hg197 (ne_o (i := a) (c := 2) (d := 6) rfl)
  have hg199 := up_n eg106 hg82 (ne_o (i := a) (c := 3) (d := 4) rfl)
  have hg200 := up_n eg109 hg199 (ne_o (i := a) (c := 3) (d := 4) rfl)
  have hg201 := up_n eg138 hg200 (ne_o (i := a) (c := 3) (d := 5) rfl)
  have hg202 := up_n eg141 hg201 (ne_o (i := a) (c := 3) (d := 5) rfl)
  have hg203 := up_n eg174 hg202 (ne_o (i := a) (c := 3) (d := 6) rfl)
  have hg204 := up_n eg177 hg203 (ne_o (i := a) (c := 3) (d := 6) rfl)
  have hg205 := up_n eg138 hg110 (ne_o (i := a) (c := 4) (d := 5) rfl)
  have hg206 := up_n eg141 hg205 (ne_o (i := a) (c := 4) (d := 5) rfl)
  have hg207 := up_n eg174 hg206 (ne_o (i := a) (c := 4) (d := 6) rfl)
  have hg208 := up_n eg177 hg207 (ne_o (i := a) (c := 4) (d := 6) rfl)
  have hg209 := up_n eg174 hg142 (ne_o (i := a) (c := 5) (d := 6) rfl)
  have hg210 := up_n eg177 hg209 (ne_o (i := a) (c := 5) (d := 6) rfl)
  exact z_vret C hr hlk dX5_copyFrom_132 (by decide) (by decide) ⟨rfl, rfl, rfl, ⟨hg180, hg190, hg198, hg204, hg208, hg210, hg178⟩, fun j h1 => by rw [eg177, va_up_ne _ _ (by omega)]; rw [eg174, va_up_ne _ _ (by omega)]; rw [eg141, va_up_ne _ _ (by omega)]; rw [eg138, va_up_ne _ _ (by omega)]; rw [eg109, va_up_ne _ _ (by omega)]; rw [eg106, va_up_ne _ _ (by omega)]; rw [eg81, va_up_ne _ _ (by omega)]; rw [eg78, va_up_ne _ _ (by omega)]; rw [eg57, va_up_ne _ _ (by omega)]; rw [eg54, va_up_ne _ _ (by omega)]; rw [eg37, va_up_ne _ _ (by omega)]; rw [eg34, va_up_ne _ _ (by omega)]; rw [eg24, va_up_ne _ _ (by omega)]; rw [eg20, va_up_ne _ _ (by omega)]; rw [eg16, va_up_ne _ _ (by omega)]⟩

