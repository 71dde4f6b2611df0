abbrev mF0 : Nat → Int := fun k => if k = 24 ∨ k = 26 ∨ k = 27 then -1 else 0
def isM0 (cs : Nat → ClassId) (ad : Nat → Nat) (g : Nat → va_E) (i : Nat) : Prop := ∃ B : Nat → Nat → Int, isMod cs ad g i mF0 B ∧ (∀ k, k < 15 → B 7 k = tabZ k) ∧ ∀ k, k ≠ 7 → ∀ j, B k j = 0
theorem isM0.mv {cs : Nat → ClassId} {ad ad' : Nat → Nat} {g g' : Nat → va_E} {i : Nat} (hA : ∀ j, i ≤ j → j < i + 30 → ad' j = ad j) (hG : ∀ j, i ≤ j → j < i + 30 → g' j = g j) (h : isM0 cs ad g i) : isM0 cs ad' g' i := by
  obtain ⟨B, h1, h2, h3⟩ := h
  exact ⟨B, h1.mv hA hG, h2, h3⟩
abbrev oM (i : Nat) (g g' : Nat → va_E) : Prop := ∀ j, j < i ∨ i + 30 ≤ j → g' j = g j
abbrev pM (ad : Nat → Nat) (i : Nat) (g g' : Nat → va_E) (k : Int) : Prop := (∃ F' : Nat → Int, g' i = mC ad i F' ∧ F' 12 = k) ∧ oM i g g'
theorem fv {F : Nat → Int} {f : Nat} {z : Int} (h : F f = z) : some (Value.int (zI (F f))) = some (Value.int (zI z)) := by rw [h]
theorem fn {F : Nat → Int} {f k : Nat} {z v : Int} (h : F f = z) (hn : f ≠ k) : uZ F k v f = z := (uZ_n F v hn).trans h
theorem uZ_z {r : Nat → Int} {k : Nat} (h : ∀ j, r j = 0) : ∀ j, uZ r k 0 j = 0 := fun j => by
  show (if j = k then (0 : Int) else r j) = 0
  by_cases e : j = k
  · rw [if_pos e]
  · rw [if_neg e]; exact h j

set_option maxRecDepth 100000 in
set_option maxHeartbeats 4000000 in
theorem c_X10_thrown (l : Launch) (D : va_G) (A : Nat → Prop) (cs : Nat → ClassId) (tt : Nat) (N : Nat) (ad : Nat → Nat) (g : Nat → va_E) (i : Nat) (hN : i + 30 ≤ N) (F : Nat → Int) (hg : g i = mC ad i F) : zM l yX10_thrown cX10_thrown 1 (some .int) ({ frames := 1, cells := 0, slots := 0, locals := 60 } : Room) D A cs tt N ad g [.ref (ad i)] (rI0 N ad fun r g' => r = F 12 ∧ g = g') := by
  have hay1 : zAt ad (i) (ad i) := rfl
  refine z_of (by decide) (Nat.le_of_ble_eq_true rfl) ?_
  intro p e s m below meth c C hr hlk hnm
  refine z_lv (lv' := [(0, .ref (ad i))]) [0] rfl ?_
  refine z_aload_n C 0 dX10_thrown_0 rfl ?_
  refine z_get (v := .int (zI (F 12))) C (by omega) hay1 hg rfl inA_X10 12 (by decide) q_1471 rfl rfl dX10_thrown_1 ?_
  exact z_iret C hr hlk dX10_thrown_4 (by decide) (by decide) ⟨F 12, rfl, rfl, rfl, rfl, rfl⟩

set_option maxRecDepth 100000 in
set_option maxHeartbeats 4000000 in
theorem c_X10_within (l : Launch) (D : va_G) (A : Nat → Prop) (cs : Nat → ClassId) (tt : Nat) (N : Nat) (ad : Nat → Nat) (g : Nat → va_E) (z lo hi : Int) (hz : -2147483648 ≤ z ∧ z ≤ 2147483647) (hlo : -2147483648 ≤ lo ∧ lo ≤ 2147483647) (hhi : -2147483648 ≤ hi ∧ hi ≤ 2147483647) : zM l yX10_within cX10_within 3 (some .boolean) ({ frames := 1, cells := 0, slots := 0, locals := 60 } : Room) D A cs tt N ad g [.int (zI z), .int (zI lo), .int (zI hi)] (rI0 N ad fun r g' => r = (if lo ≤ z ∧ z ≤ hi then 1 else 0) ∧ g = g') := by
  refine z_of (by decide) (Nat.le_of_ble_eq_true rfl) ?_
  intro p e s m below meth c C hr hlk hnm
  refine z_lv (lv' := [(0, .int (zI (z))), (1, .int (zI (lo))), (2, .int (zI (hi)))]) [0, 1, 2] rfl ?_
  refine z_iload_n C 0 dX10_within_0 rfl ?_
  refine z_iload_n C 1 dX10_within_1 rfl ?_
  refine z_icmp_lt (tgt := 14) C dX10_within_2 (by decide) (by omega) (by omega) (fun h1 => ?_) (fun h1 => ?_)
  · refine z_iconst (z := 0) C dX10_within_14 rfl ?_
    exact z_zret C hr hlk dX10_within_15 (by decide) (by decide) (by decide) ⟨0, rfl, rfl, rfl, by rw [if_neg (by omega)], rfl⟩
  · refine z_iload_n C 0 dX10_within_5 rfl ?_
    refine z_iload_n C 2 dX10_within_6 rfl ?_
    refine z_icmp_gt (tgt := 14) C dX10_within_7 (by decide) (by omega) (by omega) (fun h2 => ?_) (fun h2 => ?_)
    · refine z_iconst (z := 0) C dX10_within_14 rfl ?_
      exact z_zret C hr hlk dX10_within_15 (by decide) (by decide) (by decide) ⟨0, rfl, rfl, rfl, by rw [if_neg (by omega)], rfl⟩
    · refine z_iconst (z := 1) C dX10_within_10 rfl ?_
      refine z_goto (tgt := 15) C dX10_within_11 (by decide) ?_
      exact z_zret C hr hlk dX10_within_15 (by decide) (by decide) (by decide) ⟨1, rfl, rfl, rfl, by rw [if_pos (by omega)], rfl⟩

set_option maxRecDepth 100000 in
set_option maxHeartbeats 4000000 in
theorem c_X10_right1 (l : Launch) (D : va_G) (A : Nat → Prop) (cs : Nat → ClassId) (tt : Nat) (N : Nat) (ad : Nat → Nat) (g : Nat → va_E) (i : Nat) (hN : i + 30 ≤ N) (F : Nat → Int) (hg : g i = mC ad i F) (h12 : F 12 = 0) (k : Int) : zM l yX10_right cX10_right 3 (some .boolean) ({ frames := 1, cells := 0, slots := 0, locals := 60 } : Room) D A cs tt N ad g [.ref (ad i), .int (zI 1), .int (zI k)] (rI0 N ad fun r g' => r = 1 ∧ g = g') := by
  have hay1 : zAt ad (i) (ad i) := rfl
  refine z_of (by decide) (Nat.le_of_ble_eq_true rfl) ?_
  intro p e s m below meth c C hr hlk hnm
  refine z_lv (lv' := [(0, .ref (ad i)), (1, .int (zI (1))), (2, .int (zI (k)))]) [0, 1, 2] rfl ?_
  refine z_aload_n C 0 dX10_right_0 rfl ?_
  refine z_get (v := .int (zI (0))) C (by omega) hay1 hg rfl inA_X10 12 (by decide) q_1471 rfl (fv (F := F) (f := 12) h12) dX10_right_1 ?_
  refine z_if_ne (tgt := 16) C dX10_right_4 (by decide) (by omega) (fun h => absurd h (by omega)) (fun _ => ?_)
  refine z_iload_n C 1 dX10_right_7 rfl ?_
  refine z_if_ne (tgt := 16) C dX10_right_8 (by decide) (by omega) (fun _ => ?_) (fun h => absurd h (by omega))
  refine z_aload_n C 0 dX10_right_16 rfl ?_
  refine z_get (v := .int (zI (0))) C (by omega) hay1 hg rfl inA_X10 12 (by decide) q_1471 rfl (fv (F := F) (f := 12) h12) dX10_right_17 ?_
  refine z_if_ne (tgt := 27) C dX10_right_20 (by decide) (by omega) (fun h => absurd h (by omega)) (fun _ => ?_)
  refine z_iconst (z := 1) C dX10_right_23 rfl ?_
  refine z_goto (tgt := 28) C dX10_right_24 (by decide) ?_
  exact z_zret C hr hlk dX10_right_28 (by decide) (by decide) (by decide) ⟨1, rfl, rfl, rfl, rfl, rfl⟩

set_option maxRecDepth 100000 in
set_option maxHeartbeats 4000000 in
theorem c_X10_right0 (l : Launch) (D : va_G) (A : Nat → Prop) (cs : Nat → ClassId) (tt : Nat) (N : Nat) (ad : Nat → Nat) (g : Nat → va_E) (i : Nat) (hN : i + 30 ≤ N) (F : Nat → Int) (hg : g i = mC ad i F) (h12 : F 12 = 0) (k : Int) (hk : k ≠ 0 ∧ -2147483648 ≤ k ∧ k ≤ 2147483647) : zM l yX10_right cX10_right 3 (some .boolean) ({ frames := 1, cells := 0, slots := 0, locals := 60 } : Room) D A cs tt N ad g [.ref (ad i), .int (zI 0), .int (zI k)] (rI0 N ad fun r g' => r = 0 ∧ g' i = mC ad i (uZ F 12 k) ∧ ∀ j, j ≠ i → g' j = g j) := by
  have hay1 : zAt ad (i) (ad i) := rfl
  refine z_of (by decide) (Nat.le_of_ble_eq_true rfl) ?_
  intro p e s m below meth c C hr hlk hnm
  refine z_lv (lv' := [(0, .ref (ad i)), (1, .int (zI (0))), (2, .int (zI (k)))]) [0, 1, 2] rfl ?_
  refine z_aload_n C 0 dX10_right_0 rfl ?_
  refine z_get (v := .int (zI (0))) C (by omega) hay1 hg rfl inA_X10 12 (by decide) q_1471 rfl (fv (F := F) (f := 12) h12) dX10_right_1 ?_
  refine z_if_ne (tgt := 16) C dX10_right_4 (by decide) (by omega) (fun h => absurd h (by omega)) (fun _ => ?_)
  refine z_iload_n C 1 dX10_right_7 rfl ?_
  refine z_if_ne (tgt := 16) C dX10_right_8 (by decide) (by omega) (fun h => absurd h (by omega)) (fun _ => ?_)
  refine z_aload_n C 0 dX10_right_11 rfl ?_
  refine z_iload_n C 2 dX10_right_12 rfl ?_
  refine z_put (fs' := mF ad (i) (uZ F 12 (k))) C (by omega) hay1 hg tyX10 tyX10_ok nmX10 rfl inA_X10 12 (by decide) q_1471 rfl rfl rfl rfl (Nat.le_of_ble_eq_true rfl) rfl dX10_right_13 (fun gy2 egy3 => ?_)
  have hgy4 := up_s egy3
  refine z_aload_n C 0 dX10_right_16 rfl ?_
  refine z_get (v := .int (zI (k))) C (by omega) hay1 hgy4 rfl inA_X10 12 (by decide) q_1471 rfl (fv (F := (uZ F 12 (k))) (f := 12) (uZ_s _ _ _)) dX10_right_17 ?_
  refine z_if_ne (tgt := 27) C dX10_right_20 (by decide) (by omega) (fun _ => ?_) (fun h => absurd h (by omega))
  refine z_iconst (z := 0) C dX10_right_27 rfl ?_
  exact z_zret C hr hlk dX10_right_28 (by decide) (by decide) (by decide) ⟨0, rfl, rfl, rfl, rfl, hgy4, fun j h1 => by rw [egy3, va_up_ne _ _ (by omega)]⟩

set_option maxRecDepth 100000 in
set_option maxHeartbeats 4000000 in
theorem c_X10_isSlope0 (l : Launch) (D : va_G) (A : Nat → Prop) (cs : Nat → ClassId) (tt : Nat) (N : Nat) (ad : Nat → Nat) (g : Nat → va_E) (i : Nat) (hN : i + 30 ≤ N) (F : Nat → Int) (hg : g i = mC ad i F) (h12 : F 12 = 0) (h13 : F 13 = 0) (z : Int) (hz : -2147483648 ≤ z ∧ z ≤ 2147483647) : zM l yX10_isSlope cX10_isSlope 2 (some .boolean) ({ frames := 2, cells := 0, slots := 0, locals := 120 } : Room) D A cs tt N ad g [.ref (ad i), .int (zI z)] (rI0 N ad fun r g' => r = 0 ∧ g' i = mC ad i (uZ F 12 1) ∧ ∀ j, j ≠ i → g' j = g j) := by
  have hay1 : zAt ad (i) (ad i) := rfl
  refine z_of (by decide) (Nat.le_of_ble_eq_true rfl) ?_
  intro p e s m below meth c C hr hlk hnm
  refine z_lv (lv' := [(0, .ref (ad i)), (1, .int (zI (z)))]) [0, 1] rfl ?_
  refine z_aload_n C 0 dX10_isSlope_0 rfl ?_
  refine z_iload_n C 1 dX10_isSlope_1 rfl ?_
  refine z_iconst (z := 0) C dX10_isSlope_2 rfl ?_
  refine z_aload_n C 0 dX10_isSlope_3 rfl ?_
  refine z_get (v := .int (zI (0))) C (by omega) hay1 hg rfl inA_X10 13 (by decide) q_1472 rfl (fv (F := F) (f := 13) h13) dX10_isSlope_4 ?_
  refine z_iconst (z := 1) C dX10_isSlope_7 rfl ?_
  refine z_isub C dX10_isSlope_8 ?_
  refine z_cS (As := [.int (zI (z)), .int (zI (0)), .int (zI (0 - 1))]) (rest := [.ref (ad i)]) C (c_X10_within l D A cs tt N ad _ (z) (0) (0 - 1) (by omega) (by omega) (by omega)) ms_yX10_within q_1690 hd_yX10_within (by decide) (Nat.le_of_ble_eq_true rfl) (by decide) dX10_isSlope_9 rfl (kI0 fun qy2 gqy2 hqy2 => ?_)
  obtain ⟨eqy2, rfl⟩ := hqy2
  rw [if_neg (by omega)] at eqy2
  subst eqy2
  refine z_iconst (z := 1) C dX10_isSlope_12 rfl ?_
  refine z_cV (As := [.int (zI (0)), .int (zI (1))]) (rest := []) (ci := 12) C (c_X10_right0 l D A cs tt N ad _ i hN _ hg h12 1 (by decide)) (by omega) hay1 hg rfl rfl mv_yX10_right q_1652 hd_yX10_right (by decide) (Nat.le_of_ble_eq_true rfl) (by decide) dX10_isSlope_13 rfl (kI0 fun qy3 gqy3 hqy3 => ?_)
  obtain ⟨rfl, hcqy3, hfqy3⟩ := hqy3
  exact z_zret C hr hlk dX10_isSlope_16 (by decide) (by decide) (by decide) ⟨0, rfl, rfl, rfl, rfl, hcqy3, fun j h1 => by rw [hfqy3 _ (by omega)]⟩

set_option maxRecDepth 100000 in
set_option maxHeartbeats 4000000 in
theorem c_X10_isLayer0 (l : Launch) (D : va_G) (A : Nat → Prop) (cs : Nat → ClassId) (tt : Nat) (N : Nat) (ad : Nat → Nat) (g : Nat → va_E) (i : Nat) (hN : i + 30 ≤ N) (F : Nat → Int) (hg : g i = mC ad i F) (h12 : F 12 = 0) (h13 : F 13 = 0) (z z1 : Int) (hz : -2147483648 ≤ z ∧ z ≤ 2147483647) (hz1 : -2147483648 ≤ z1 ∧ z1 ≤ 2147483647) : zM l yX10_isLayer cX10_isLayer 3 (some .boolean) ({ frames := 3, cells := 0, slots := 0, locals := 180 } : Room) D A cs tt N ad g [.ref (ad i), .int (zI z), .int (zI z1)] (rI0 N ad fun r g' => r = 0 ∧ g' i = mC ad i (uZ F 12 1) ∧ ∀ j, j ≠ i → g' j = g j) := by
  have hay1 : zAt ad (i) (ad i) := rfl
  refine z_of (by decide) (Nat.le_of_ble_eq_true rfl) ?_
  intro p e s m below meth c C hr hlk hnm
  refine z_lv (lv' := [(0, .ref (ad i)), (1, .int (zI (z))), (2, .int (zI (z1)))]) [0, 1, 2] rfl ?_
  refine z_aload_n C 0 dX10_isLayer_0 rfl ?_
  refine z_iload_n C 1 dX10_isLayer_1 rfl ?_
  refine z_cV (As := [.int (zI (z))]) (rest := []) (ci := 12) C (c_X10_isSlope0 l D A cs tt N ad _ i hN _ hg h12 h13 z hz) (by omega) hay1 hg rfl rfl mv_yX10_isSlope q_1807 hd_yX10_isSlope (by decide) (Nat.le_of_ble_eq_true rfl) (by decide) dX10_isLayer_2 rfl (kI0 fun qy2 gqy2 hqy2 => ?_)
  obtain ⟨rfl, hcqy2, hfqy2⟩ := hqy2
  refine z_if_eq (tgt := 33) C dX10_isLayer_5 (by decide) (by omega) (fun _ => ?_) (fun h => absurd h (by omega))
  refine z_iconst (z := 0) C dX10_isLayer_33 rfl ?_
  exact z_zret C hr hlk dX10_isLayer_34 (by decide) (by decide) (by decide) ⟨0, rfl, rfl, rfl, rfl, hcqy2, fun j h1 => by rw [hfqy2 _ (by omega)]⟩

set_option maxRecDepth 100000 in
set_option maxHeartbeats 4000000 in
theorem c_X10_isPit0 (l : Launch) (D : va_G) (A : Nat → Prop) (cs : Nat → ClassId) (tt : Nat) (N : Nat) (ad : Nat → Nat) (g : Nat → va_E) (i : Nat) (hN : i + 30 ≤ N) (F : Nat → Int) (hg : g i = mC ad i F) (h12 : F 12 = 0) (r : Nat → Int) (hr1 : g (i + 1) = iA cs 29200 r) (hz1 : ∀ j, r j = 0) (z : Int) (hz : -2147483648 ≤ z ∧ z ≤ 2147483647) : zM l yX10_isPit cX10_isPit 2 (some .boolean) ({ frames := 2, cells := 0, slots := 0, locals := 120 } : Room) D A cs tt N ad g [.ref (ad i), .int (zI z)] (rI0 N ad fun r g' => r = 0 ∧ g' i = mC ad i (uZ F 12 1) ∧ ∀ j, j ≠ i → g' j = g j) := by
  have hay1 : zAt ad (i) (ad i) := rfl
  have hay2 : zAt ad (i + 1) (ad (i + 1)) := rfl
  refine z_of (by decide) (Nat.le_of_ble_eq_true rfl) ?_
  intro p e s m below meth c C hr hlk hnm
  refine z_lv (lv' := [(0, .ref (ad i)), (1, .int (zI (z)))]) [0, 1] rfl ?_
  refine z_aload_n C 0 dX10_isPit_0 rfl ?_
  refine z_iload_n C 1 dX10_isPit_1 rfl ?_
  refine z_iconst (z := 0) C dX10_isPit_2 rfl ?_
  refine z_aload_n C 0 dX10_isPit_3 rfl ?_
  refine z_get (v := .ref (ad (i + 1))) C (by omega) hay1 hg rfl inA_X10 0 (by decide) q_1459 rfl rfl dX10_isPit_4 ?_
  refine z_iconst (z := 5) C dX10_isPit_7 rfl ?_
  refine z_iald C (by omega) hay2 hr1 (5) (by omega) (by omega) (by decide) dX10_isPit_8 ?_
  rw [show r (5) = 0 from hz1 _]
  refine z_iconst (z := 1) C dX10_isPit_9 rfl ?_
  refine z_isub C dX10_isPit_10 ?_
  refine z_cS (As := [.int (zI (z)), .int (zI (0)), .int (zI (0 - 1))]) (rest := [.ref (ad i)]) C (c_X10_within l D A cs tt N ad _ (z) (0) (0 - 1) (by omega) (by omega) (by omega)) ms_yX10_within q_1690 hd_yX10_within (by decide) (Nat.le_of_ble_eq_true rfl) (by decide) dX10_isPit_11 rfl (kI0 fun qy3 gqy3 hqy3 => ?_)
  obtain ⟨eqy3, rfl⟩ := hqy3
  rw [if_neg (by omega)] at eqy3
  subst eqy3
  refine z_iconst (z := 1) C dX10_isPit_14 rfl ?_
  refine z_cV (As := [.int (zI (0)), .int (zI (1))]) (rest := []) (ci := 12) C (c_X10_right0 l D A cs tt N ad _ i hN _ hg h12 1 (by decide)) (by omega) hay1 hg rfl rfl mv_yX10_right q_1652 hd_yX10_right (by decide) (Nat.le_of_ble_eq_true rfl) (by decide) dX10_isPit_15 rfl (kI0 fun qy4 gqy4 hqy4 => ?_)
  obtain ⟨rfl, hcqy4, hfqy4⟩ := hqy4
  exact z_zret C hr hlk dX10_isPit_18 (by decide) (by decide) (by decide) ⟨0, rfl, rfl, rfl, rfl, hcqy4, fun j h1 => by rw [hfqy4 _ (by omega)]⟩

set_option maxRecDepth 100000 in
set_option maxHeartbeats 4000000 in
theorem c_X10_refuses (l : Launch) (D : va_G) (A : Nat → Prop) (cs : Nat → ClassId) (tt : Nat) (N : Nat) (ad : Nat → Nat) (g : Nat → va_E) (i : Nat) (hN : i + 30 ≤ N) (F : Nat → Int) (hg : g i = mC ad i F) (r : Nat → Int) (hr11 : g (i + 11) = iA cs 6 r) (q : Nat) (hq : q < 3) : zM l yX10_refuses cX10_refuses 2 (some .int) ({ frames := 1, cells := 0, slots := 0, locals := 60 } : Room) D A cs tt N ad g [.ref (ad i), .int (zI (q : Int))] (rI0 N ad fun r g' => r = -1 ∧ ∀ j, j ≠ i + 11 → g' j = g j) := by
  have hay1 : zAt ad (i) (ad i) := rfl
  have hay2 : zAt ad (i + 11) (ad (i + 11)) := rfl
  refine z_of (by decide) (Nat.le_of_ble_eq_true rfl) ?_
  intro p e s m below meth c C hr hlk hnm
  refine z_lv (lv' := [(0, .ref (ad i)), (1, .int (zI ((q : Int))))]) [0, 1] rfl ?_
  refine z_aload_n C 0 dX10_refuses_0 rfl ?_
  refine z_get (v := .ref (ad (i + 11))) C (by omega) hay1 hg rfl inA_X10 10 (by decide) q_1469 rfl rfl dX10_refuses_1 ?_
  refine z_iload_n C 1 dX10_refuses_4 rfl ?_
  refine z_dup2 C dX10_refuses_5 rfl rfl ?_
  refine z_iald C (by omega) hay2 hr11 (q) rfl (by omega) (by decide) dX10_refuses_6 ?_
  refine z_iconst (z := 1) C dX10_refuses_7 rfl ?_
  refine z_iadd C dX10_refuses_8 ?_
  refine z_iast C (by omega) hay2 hr11 (q) rfl (by omega) (by decide) dX10_refuses_9 (fun gy3 egy4 => ?_)
  have hgy5 := up_s egy4
  refine z_iconst (z := -1) C dX10_refuses_10 rfl ?_
  exact z_iret C hr hlk dX10_refuses_11 (by decide) (by decide) ⟨-1, rfl, rfl, rfl, rfl, fun j h1 => by rw [egy4, va_up_ne _ _ (by omega)]⟩

