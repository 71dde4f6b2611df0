section
-- 98.refsay.lean.txt
set_option maxRecDepth 100000 in
set_option maxHeartbeats 4000000 in
theorem c_X10_spanX (l : Launch) (D : va_G) (A : Nat → Prop) (cs : Nat → ClassId) (tt : Nat) (N : Nat) (ad : Nat → Nat) (g : Nat → va_E) (z : Int) (hz : -2147483647 ≤ z ∧ z ≤ 2147483647) : zM l yX10_span cX10_span 1 (some .int) ({ frames := 1, cells := 0, slots := 0, locals := 60 } : Room) D A cs tt N ad g [.int (zI (z))] (rI0 N ad fun r g' => ((0 ≤ z ∧ r = z) ∨ (z < 0 ∧ r = -z)) ∧ g = g') := by
  refine z_of (by decide) (Nat.le_of_ble_eq_true rfl) ?_
  intro pZ eZ sZ mZ below meth cZ C hr hlk hnm
  refine z_lv (lv' := [(0, .int (zI (z)))]) [0] rfl ?_
  refine z_iload_n C 0 dX10_span_0 rfl ?_
  refine z_if_ge (tgt := 9) C dX10_span_1 (by decide) (by omega) (fun hby1 => ?_) (fun hby1 => ?_)
  · refine z_iload_n C 0 dX10_span_9 rfl ?_
    exact z_iret C hr hlk dX10_span_10 (by decide) (by decide) ⟨z, rfl, rfl, rfl, by omega, rfl⟩
  · refine z_iload_n C 0 dX10_span_4 rfl ?_
    refine z_ineg C dX10_span_5 ?_
    refine z_goto (tgt := 10) C dX10_span_6 (by decide) ?_
    exact z_iret C hr hlk dX10_span_10 (by decide) (by decide) ⟨-(z), rfl, rfl, rfl, by omega, rfl⟩

set_option maxRecDepth 100000 in
set_option maxHeartbeats 4000000 in
theorem c_X10_says (l : Launch) (D : va_G) (A : Nat → Prop) (cs : Nat → ClassId) (tt : Nat) (N : Nat) (ad : Nat → Nat) (g : Nat → va_E) (i : Nat) (hN : i + 30 ≤ N) (F : Nat → Int) (hg : g i = mC ad i F) (li : Nat → Int) (ha24 : g (i + 24) = iA cs 64 li) (h51 : 0 ≤ F 51 ∧ F 51 ≤ 63) (z : Int) : zM l yX10_says cX10_says 2 none ({ frames := 1, cells := 0, slots := 0, locals := 60 } : Room) D A cs tt N ad g [.ref (ad i), .int (zI (z))] (rV0 N ad fun g' => (∃ F' : Nat → Int, g' i = mC ad i F' ∧ F' 51 = F 51 + 1 ∧ (∀ f, f ≠ 51 → F' f = F f)) ∧ (∃ t' : Nat → Int, g' (i + 24) = iA cs 64 t') ∧ ∀ j, j ≠ i → j ≠ i + 24 → g' j = g j) := by
  have hay1 : zAt ad (i) (ad i) := rfl
  have hay2 : zAt ad (i + 24) (ad (i + 24)) := rfl
  refine z_of (by decide) (Nat.le_of_ble_eq_true rfl) ?_
  intro pZ eZ sZ mZ below meth cZ C hr hlk hnm
  refine z_lv (lv' := [(0, .ref (ad i)), (1, .int (zI (z)))]) [0, 1] rfl ?_
  refine z_aload_n C 0 dX10_says_0 rfl ?_
  refine z_get (v := .ref (ad (i + 24))) C (lt_A0 hN rfl) hay1 hg rfl inA_X10 50 (by decide) q_1509 rfl rfl dX10_says_1 ?_
  refine z_aload_n C 0 dX10_says_4 rfl ?_
  refine z_get (v := .int (zI (F 51))) C (lt_A0 hN rfl) hay1 hg rfl inA_X10 51 (by decide) q_1510 rfl (fv (F := F) (f := 51) rfl) dX10_says_5 ?_
  refine z_iload_n C 1 dX10_says_8 rfl ?_
  refine z_iast C (lt_A (c := 24) hN rfl) hay2 ha24 ((F 51).toNat) (by omega) (by omega) (by decide) dX10_says_9 (fun gy3 egy4 => ?_)
  have hgy5 := up_s egy4
  refine z_aload_n C 0 dX10_says_10 rfl ?_
  refine z_dup C dX10_says_11 rfl ?_
  have hgy6 := up_n egy4 hg (ne_o (i := i) (c := 0) (d := 24) rfl)
  refine z_get (v := .int (zI (F 51))) C (lt_A0 hN rfl) hay1 hgy6 rfl inA_X10 51 (by decide) q_1510 rfl (fv (F := F) (f := 51) rfl) dX10_says_12 ?_
  refine z_iconst (z := 1) C dX10_says_15 rfl ?_
  refine z_iadd C dX10_says_16 ?_
  refine z_put (fs' := mF ad (i) (uZ F 51 ((F 51) + 1))) C (lt_A0 hN rfl) hay1 hgy6 tyX10 tyX10_ok nmX10 rfl inA_X10 51 (by decide) q_1510 rfl rfl rfl rfl (Nat.le_of_ble_eq_true rfl) rfl dX10_says_17 (fun gy7 egy8 => ?_)
  have hgy9 := up_s egy8
  have hFy10 : ∀ f, f ≠ 51 → (uZ F 51 ((F 51) + 1)) f = F f := fun f n51 => ((uZ_n _ _ n51).trans rfl)
  have hey11 : (uZ F 51 ((F 51) + 1)) 51 = (F 51) + 1 := (uZ_s _ _ _)
  have hgy12 := up_n egy8 hgy5 (ne_o (i := i) (c := 24) (d := 0) rfl)
  exact z_vret C hr hlk dX10_says_20 (by decide) (by decide) ⟨rfl, rfl, rfl, ⟨_, hgy9, by omega, hFy10⟩, ⟨_, hgy12⟩, fun j j1 j2 => by rw [egy8, va_up_ne _ _ (by omega)]; rw [egy4, va_up_ne _ _ (by omega)]⟩

set_option maxRecDepth 100000 in
set_option maxHeartbeats 4000000 in
theorem c_X10_saysNumber9 (l : Launch) (D : va_G) (A : Nat → Prop) (cs : Nat → ClassId) (tt : Nat) (N : Nat) (ad : Nat → Nat) (g : Nat → va_E) (i : Nat) (hN : i + 30 ≤ N) (F : Nat → Int) (hg : g i = mC ad i F) (li : Nat → Int) (ha24 : g (i + 24) = iA cs 64 li) (h51 : 0 ≤ F 51 ∧ F 51 + 9 ≤ 64) (z : Int) (hz : 0 ≤ z ∧ z ≤ 999999999) : zM l yX10_saysNumber cX10_saysNumber 4 none ({ frames := 2, cells := 0, slots := 0, locals := 120 } : Room) D A cs tt N ad g [.ref (ad i), .int (zI (z))] (rV0 N ad fun g' => (∃ F' : Nat → Int, g' i = mC ad i F' ∧ (F 51 ≤ F' 51 ∧ F' 51 ≤ F 51 + 9) ∧ (∀ f, f ≠ 51 → F' f = F f)) ∧ (∃ t' : Nat → Int, g' (i + 24) = iA cs 64 t') ∧ ∀ j, j ≠ i → j ≠ i + 24 → g' j = g j) := by
  have hay1 : zAt ad (i) (ad i) := rfl
  have hay2 : zAt ad (i + 24) (ad (i + 24)) := rfl
  refine z_of (by decide) (Nat.le_of_ble_eq_true rfl) ?_
  intro pZ eZ sZ mZ below meth cZ C hr hlk hnm
  refine z_lv (lv' := [(0, .ref (ad i)), (1, .int (zI (z)))]) [0, 1] rfl ?_
  refine z_iload_n C 1 dX10_saysNumber_0 rfl ?_
  refine z_if_ge (tgt := 10) C dX10_saysNumber_1 (by decide) (by omega) (fun _ => ?_) (fun h => absurd h (by omega))
  refine z_iload_n C 1 dX10_saysNumber_10 rfl ?_
  refine z_cS (As := [.int (zI (z))]) (rest := []) C (c_X10_spanX l D A cs tt N ad _ (z) (by omega)) ms_yX10_span q_1839 hd_yX10_span (by decide) (Nat.le_of_ble_eq_true rfl) (by decide) dX10_saysNumber_11 rfl (kI0 fun vy3 gvy3 hvy3 => ?_)
  obtain ⟨hvy3, rfl⟩ := hvy3
  refine z_istore_n (lv' := [(2, .int (zI (vy3))), (0, .ref (ad i)), (1, .int (zI (z)))]) C dX10_saysNumber_14 rfl (by decide) rfl ?_
  refine z_iconst (z := 1) C dX10_saysNumber_15 rfl ?_
  refine z_istore_n (lv' := [(3, .int (zI (1))), (2, .int (zI (vy3))), (0, .ref (ad i)), (1, .int (zI (z)))]) C dX10_saysNumber_16 rfl (by decide) rfl ?_
  refine z_iload_n C 1 dX10_saysNumber_17 rfl ?_
  refine z_iload_n C 0 dX10_saysNumber_18 rfl ?_
  refine z_idiv C dX10_saysNumber_19 (by omega) (by omega) (by omega) ?_
  obtain ⟨xy4, exy4, hxy4⟩ : ∃ x9, (vy3).tdiv 1 = x9 ∧ (0 ≤ vy3 → 0 ≤ x9 ∧ 1 * x9 ≤ vy3 ∧ vy3 < 1 * x9 + 1) ∧ (vy3 ≤ 0 → x9 ≤ 0 ∧ vy3 ≤ 1 * x9 ∧ 1 * x9 < vy3 + 1) := tdk 1 (by decide)
  rw [exy4]
  refine z_bipush (z := 9) C dX10_saysNumber_20 (by decide) ?_
  refine z_icmp_le (tgt := 33) C dX10_saysNumber_22 (by decide) (by omega) (by omega) (fun hby5 => ?_) (fun hby5 => ?_)
  · refine z_iload_n C 0 dX10_saysNumber_33 rfl ?_
    refine z_if_le (tgt := 58) C dX10_saysNumber_34 (by decide) (by omega) (fun h => absurd h (by omega)) (fun _ => ?_)
    refine z_aload_n C 2 dX10_saysNumber_37 rfl ?_
    refine z_bipush (z := 48) C dX10_saysNumber_38 (by decide) ?_
    refine z_iload_n C 1 dX10_saysNumber_40 rfl ?_
    refine z_iload_n C 0 dX10_saysNumber_41 rfl ?_
    refine z_idiv C dX10_saysNumber_42 (by omega) (by omega) (by omega) ?_
    obtain ⟨xy6, exy6, hxy6⟩ : ∃ x9, (vy3).tdiv 1 = x9 ∧ (0 ≤ vy3 → 0 ≤ x9 ∧ 1 * x9 ≤ vy3 ∧ vy3 < 1 * x9 + 1) ∧ (vy3 ≤ 0 → x9 ≤ 0 ∧ vy3 ≤ 1 * x9 ∧ 1 * x9 < vy3 + 1) := tdk 1 (by decide)
    rw [exy6]
    refine z_bipush (z := 10) C dX10_saysNumber_43 (by decide) ?_
    refine z_irem C dX10_saysNumber_45 (by omega) (by omega) (by omega) ?_
    refine z_iadd C dX10_saysNumber_46 ?_
    have hey8 : F 51 = F 51 := rfl
    refine z_cV (As := [.int (zI (48 + (xy6.tmod 10)))]) (rest := []) (ci := 12) C (c_X10_says l D A cs tt N ad _ i hN _ hg _ ha24 (by omega) (48 + (xy6.tmod 10))) (lt_A0 hN rfl) hay1 hg rfl rfl mv_yX10_says q_1850 hd_yX10_says (by decide) (Nat.le_of_ble_eq_true rfl) (by decide) dX10_saysNumber_47 rfl (kV0 fun gvy7 hvy7 => ?_)
    obtain ⟨⟨Fvy7, hcvy7, hnvy7, hFvy7⟩, ⟨tvy7, htvy7⟩, hfvy7⟩ := hvy7
    have hovy7 : F 51 = F 51 := rfl
    have hqvy7 : Fvy7 51 = F 51 + 1 := by omega
    clear hnvy7 hovy7
    refine z_iload_n C 0 dX10_saysNumber_50 rfl ?_
    refine z_bipush (z := 10) C dX10_saysNumber_51 (by decide) ?_
    refine z_idiv C dX10_saysNumber_53 (by decide) (by decide) (by decide) ?_
    rw [show (1 : Int).tdiv 10 = 0 by decide]
    refine z_istore_n (lv' := [(3, .int (zI (0))), (2, .int (zI (vy3))), (0, .ref (ad i)), (1, .int (zI (z)))]) C dX10_saysNumber_54 rfl (by decide) rfl ?_
    refine z_goto (tgt := 33) C dX10_saysNumber_55 (by decide) ?_
    refine z_iload_n C 0 dX10_saysNumber_33 rfl ?_
    refine z_if_le (tgt := 58) C dX10_saysNumber_34 (by decide) (by omega) (fun _ => ?_) (fun h => absurd h (by omega))
    have hFy9 : ∀ f, f ≠ 51 → Fvy7 f = F f := fun f n51 => (hFvy7 f n51)
    have hey10 : Fvy7 51 = F 51 + 1 := hqvy7
    exact z_vret C hr hlk dX10_saysNumber_58 (by decide) (by decide) ⟨rfl, rfl, rfl, ⟨_, hcvy7, by omega, hFy9⟩, ⟨_, htvy7⟩, fun j j1 j2 => by rw [hfvy7 _ (by omega) (by omega)]⟩
  · refine z_iload_n C 0 dX10_saysNumber_25 rfl ?_
    refine z_bipush (z := 10) C dX10_saysNumber_26 (by decide) ?_
    refine z_imul C dX10_saysNumber_28 ?_
    rw [show (1 : Int) * 10 = 10 by decide]
    refine z_istore_n (lv' := [(3, .int (zI (10))), (2, .int (zI (vy3))), (0, .ref (ad i)), (1, .int (zI (z)))]) C dX10_saysNumber_29 rfl (by decide) rfl ?_
    refine z_goto (tgt := 17) C dX10_saysNumber_30 (by decide) ?_
    refine z_iload_n C 1 dX10_saysNumber_17 rfl ?_
    refine z_iload_n C 0 dX10_saysNumber_18 rfl ?_
    refine z_idiv C dX10_saysNumber_19 (by omega) (by omega) (by omega) ?_
    obtain ⟨xy11, exy11, hxy11⟩ : ∃ x9, (vy3).tdiv 10 = x9 ∧ (0 ≤ vy3 → 0 ≤ x9 ∧ 10 * x9 ≤ vy3 ∧ vy3 < 10 * x9 + 10) ∧ (vy3 ≤ 0 → x9 ≤ 0 ∧ vy3 ≤ 10 * x9 ∧ 10 * x9 < vy3 + 10) := tdk 10 (by decide)
    rw [exy11]
    refine z_bipush (z := 9) C dX10_saysNumber_20 (by decide) ?_
    refine z_icmp_le (tgt := 33) C dX10_saysNumber_22 (by decide) (by omega) (by omega) (fun hby12 => ?_) (fun hby12 => ?_)
    · refine z_iload_n C 0 dX10_saysNumber_33 rfl ?_
      refine z_if_le (tgt := 58) C dX10_saysNumber_34 (by decide) (by omega) (fun h => absurd h (by omega)) (fun _ => ?_)
      refine z_aload_n C 2 dX10_saysNumber_37 rfl ?_
      refine z_bipush (z := 48) C dX10_saysNumber_38 (by decide) ?_
      refine z_iload_n C 1 dX10_saysNumber_40 rfl ?_
      refine z_iload_n C 0 dX10_saysNumber_41 rfl ?_
      refine z_idiv C dX10_saysNumber_42 (by omega) (by omega) (by omega) ?_
      obtain ⟨xy13, exy13, hxy13⟩ : ∃ x9, (vy3).tdiv 10 = x9 ∧ (0 ≤ vy3 → 0 ≤ x9 ∧ 10 * x9 ≤ vy3 ∧ vy3 < 10 * x9 + 10) ∧ (vy3 ≤ 0 → x9 ≤ 0 ∧ vy3 ≤ 10 * x9 ∧ 10 * x9 < vy3 + 10) := tdk 10 (by decide)
      rw [exy13]
      refine z_bipush (z := 10) C dX10_saysNumber_43 (by decide) ?_
      refine z_irem C dX10_saysNumber_45 (by omega) (by omega) (by omega) ?_
      refine z_iadd C dX10_saysNumber_46 ?_
      have hey15 : F 51 = F 51 := rfl
      refine z_cV (As := [.int (zI (48 + (xy13.tmod 10)))]) (rest := []) (ci := 12) C (c_X10_says l D A cs tt N ad _ i hN _ hg _ ha24 (by omega) (48 + (xy13.tmod 10))) (lt_A0 hN rfl) hay1 hg rfl rfl mv_yX10_says q_1850 hd_yX10_says (by decide) (Nat.le_of_ble_eq_true rfl) (by decide) dX10_saysNumber_47 rfl (kV0 fun gvy14 hvy14 => ?_)
      obtain ⟨⟨Fvy14, hcvy14, hnvy14, hFvy14⟩, ⟨tvy14, htvy14⟩, hfvy14⟩ := hvy14
      have hovy14 : F 51 = F 51 := rfl
      have hqvy14 : Fvy14 51 = F 51 + 1 := by omega
      clear hnvy14 hovy14
      refine z_iload_n C 0 dX10_saysNumber_50 rfl ?_
      refine z_bipush (z := 10) C dX10_saysNumber_51 (by decide) ?_
      refine z_idiv C dX10_saysNumber_53 (by decide) (by decide) (by decide) ?_
      rw [show (10 : Int).tdiv 10 = 1 by decide]
      refine z_istore_n (lv' := [(3, .int (zI (1))), (2, .int (zI (vy3))), (0, .ref (ad i)), (1, .int (zI (z)))]) C dX10_saysNumber_54 rfl (by decide) rfl ?_
      refine z_goto (tgt := 33) C dX10_saysNumber_55 (by decide) ?_
      refine z_iload_n C 0 dX10_saysNumber_33 rfl ?_
      refine z_if_le (tgt := 58) C dX10_saysNumber_34 (by decide) (by omega) (fun h => absurd h (by omega)) (fun _ => ?_)
      refine z_aload_n C 2 dX10_saysNumber_37 rfl ?_
      refine z_bipush (z := 48) C dX10_saysNumber_38 (by decide) ?_
      refine z_iload_n C 1 dX10_saysNumber_40 rfl ?_
      refine z_iload_n C 0 dX10_saysNumber_41 rfl ?_
      refine z_idiv C dX10_saysNumber_42 (by omega) (by omega) (by omega) ?_
      obtain ⟨xy16, exy16, hxy16⟩ : ∃ x9, (vy3).tdiv 1 = x9 ∧ (0 ≤ vy3 → 0 ≤ x9 ∧ 1 * x9 ≤ vy3 ∧ vy3 < 1 * x9 + 1) ∧ (vy3 ≤ 0 → x9 ≤ 0 ∧ vy3 ≤ 1 * x9 ∧ 1 * x9 < vy3 + 1) := tdk 1 (by decide)
      rw [exy16]
      refine z_bipush (z := 10) C dX10_saysNumber_43 (by decide) ?_
      refine z_irem C dX10_saysNumber_45 (by omega) (by omega) (by omega) ?_
      refine z_iadd C dX10_saysNumber_46 ?_
      have hey18 : Fvy14 51 = F 51 + 1 := hqvy14
      refine z_cV (As := [.int (zI (48 + (xy16.tmod 10)))]) (rest := []) (ci := 12) C (c_X10_says l D A cs tt N ad _ i hN _ hcvy14 _ htvy14 (by omega) (48 + (xy16.tmod 10))) (lt_A0 hN rfl) hay1 hcvy14 rfl rfl mv_yX10_says q_1850 hd_yX10_says (by decide) (Nat.le_of_ble_eq_true rfl) (by decide) dX10_saysNumber_47 rfl (kV0 fun gvy17 hvy17 => ?_)
      obtain ⟨⟨Fvy17, hcvy17, hnvy17, hFvy17⟩, ⟨tvy17, htvy17⟩, hfvy17⟩ := hvy17
      have hovy17 : Fvy14 51 = F 51 + 1 := hqvy14
      have hqvy17 : Fvy17 51 = F 51 + 2 := by omega
      clear hnvy17 hovy17
      refine z_iload_n C 0 dX10_saysNumber_50 rfl ?_
      refine z_bipush (z := 10) C dX10_saysNumber_51 (by decide) ?_
      refine z_idiv C dX10_saysNumber_53 (by decide) (by decide) (by decide) ?_
      rw [show (1 : Int).tdiv 10 = 0 by decide]
      refine z_istore_n (lv' := [(3, .int (zI (0))), (2, .int (zI (vy3))), (0, .ref (ad i)), (1, .int (zI (z)))]) C dX10_saysNumber_54 rfl (by decide) rfl ?_
      refine z_goto (tgt := 33) C dX10_saysNumber_55 (by decide) ?_
      refine z_iload_n C 0 dX10_saysNumber_33 rfl ?_
      refine z_if_le (tgt := 58) C dX10_saysNumber_34 (by decide) (by omega) (fun _ => ?_) (fun h => absurd h (by omega))
      have hFy19 : ∀ f, f ≠ 51 → Fvy17 f = F f := fun f n51 => ((hFvy17 f n51).trans (hFvy14 f n51))
      have hey20 : Fvy17 51 = F 51 + 2 := hqvy17
      exact z_vret C hr hlk dX10_saysNumber_58 (by decide) (by decide) ⟨rfl, rfl, rfl, ⟨_, hcvy17, by omega, hFy19⟩, ⟨_, htvy17⟩, fun j j1 j2 => by rw [hfvy17 _ (by omega) (by omega)]; rw [hfvy14 _ (by omega) (by omega)]⟩
    · refine z_iload_n C 0 dX10_saysNumber_25 rfl ?_
      refine z_bipush (z := 10) C dX10_saysNumber_26 (by decide) ?_
      refine z_imul C dX10_saysNumber_28 ?_
      rw [show (10 : Int) * 10 = 100 by decide]
      refine z_istore_n (lv' := [(3, .int (zI (100))), (2, .int (zI (vy3))), (0, .ref (ad i)), (1, .int (zI (z)))]) C dX10_saysNumber_29 rfl (by decide) rfl ?_
      refine z_goto (tgt := 17) C dX10_saysNumber_30 (by decide) ?_
      refine z_iload_n C 1 dX10_saysNumber_17 rfl ?_
      refine z_iload_n C 0 dX10_saysNumber_18 rfl ?_
      refine z_idiv C dX10_saysNumber_19 (by omega) (by omega) (by omega) ?_
      obtain ⟨xy21, exy21, hxy21⟩ : ∃ x9, (vy3).tdiv 100 = x9 ∧ (0 ≤ vy3 → 0 ≤ x9 ∧ 100 * x9 ≤ vy3 ∧ vy3 < 100 * x9 + 100) ∧ (vy3 ≤ 0 → x9 ≤ 0 ∧ vy3 ≤ 100 * x9 ∧ 100 * x9 < vy3 + 100) := tdk 100 (by decide)
      rw [exy21]
      refine z_bipush (z := 9) C dX10_saysNumber_20 (by decide) ?_
      refine z_icmp_le (tgt := 33) C dX10_saysNumber_22 (by decide) (by omega) (by omega) (fun hby22 => ?_) (fun hby22 => ?_)
      · refine z_iload_n C 0 dX10_saysNumber_33 rfl ?_
        refine z_if_le (tgt := 58) C dX10_saysNumber_34 (by decide) (by omega) (fun h => absurd h (by omega)) (fun _ => ?_)
        refine z_aload_n C 2 dX10_saysNumber_37 rfl ?_
        refine z_bipush (z := 48) C dX10_saysNumber_38 (by decide) ?_
        refine z_iload_n C 1 dX10_saysNumber_40 rfl ?_
        refine z_iload_n C 0 dX10_saysNumber_41 rfl ?_
        refine z_idiv C dX10_saysNumber_42 (by omega) (by omega) (by omega) ?_
        obtain ⟨xy23, exy23, hxy23⟩ : ∃ x9, (vy3).tdiv 100 = x9 ∧ (0 ≤ vy3 → 0 ≤ x9 ∧ 100 * x9 ≤ vy3 ∧ vy3 < 100 * x9 + 100) ∧ (vy3 ≤ 0 → x9 ≤ 0 ∧ vy3 ≤ 100 * x9 ∧ 100 * x9 < vy3 + 100) := tdk 100 (by decide)
        rw [exy23]
        refine z_bipush (z := 10) C dX10_saysNumber_43 (by decide) ?_
        refine z_irem C dX10_saysNumber_45 (by omega) (by omega) (by omega) ?_
        refine z_iadd C dX10_saysNumber_46 ?_
        have hey25 : F 51 = F 51 := rfl
        refine z_cV (As := [.int (zI (48 + (xy23.tmod 10)))]) (rest := []) (ci := 12) C (c_X10_says l D A cs tt N ad _ i hN _ hg _ ha24 (by omega) (48 + (xy23.tmod 10))) (lt_A0 hN rfl) hay1 hg rfl rfl mv_yX10_says q_1850 hd_yX10_says (by decide) (Nat.le_of_ble_eq_true rfl) (by decide) dX10_saysNumber_47 rfl (kV0 fun gvy24 hvy24 => ?_)
        obtain ⟨⟨Fvy24, hcvy24, hnvy24, hFvy24⟩, ⟨tvy24, htvy24⟩, hfvy24⟩ := hvy24
        have hovy24 : F 51 = F 51 := rfl
        have hqvy24 : Fvy24 51 = F 51 + 1 := by omega
        clear hnvy24 hovy24
        refine z_iload_n C 0 dX10_saysNumber_50 rfl ?_
        refine z_bipush (z := 10) C dX10_saysNumber_51 (by decide) ?_
        refine z_idiv C dX10_saysNumber_53 (by decide) (by decide) (by decide) ?_
        rw [show (100 : Int).tdiv 10 = 10 by decide]
        refine z_istore_n (lv' := [(3, .int (zI (10))), (2, .int (zI (vy3))), (0, .ref (ad i)), (1, .int (zI (z)))]) C dX10_saysNumber_54 rfl (by decide) rfl ?_
        refine z_goto (tgt := 33) C dX10_saysNumber_55 (by decide) ?_
        refine z_iload_n C 0 dX10_saysNumber_33 rfl ?_
        refine z_if_le (tgt := 58) C dX10_saysNumber_34 (by decide) (by omega) (fun h => absurd h (by omega)) (fun _ => ?_)
        refine z_aload_n C 2 dX10_saysNumber_37 rfl ?_
        refine z_bipush (z := 48) C dX10_saysNumber_38 (by decide) ?_
        refine z_iload_n C 1 dX10_saysNumber_40 rfl ?_
        refine z_iload_n C 0 dX10_saysNumber_41 rfl ?_
        refine z_idiv C dX10_saysNumber_42 (by omega) (by omega) (by omega) ?_
        obtain ⟨xy26, exy26, hxy26⟩ : ∃ x9, (vy3).tdiv 10 = x9 ∧ (0 ≤ vy3 → 0 ≤ x9 ∧ 10 * x9 ≤ vy3 ∧ vy3 < 10 * x9 + 10) ∧ (vy3 ≤ 0 → x9 ≤ 0 ∧ vy3 ≤ 10 * x9 ∧ 10 * x9 < vy3 + 10) := tdk 10 (by decide)
        rw [exy26]
        refine z_bipush (z := 10) C dX10_saysNumber_43 (by decide) ?_
        refine z_irem C dX10_saysNumber_45 (by omega) (by omega) (by omega) ?_
        refine z_iadd C dX10_saysNumber_46 ?_
        have hey28 : Fvy24 51 = F 51 + 1 := hqvy24
        refine z_cV (As := [.int (zI (48 + (xy26.tmod 10)))]) (rest := []) (ci := 12) C (c_X10_says l D A cs tt N ad _ i hN _ hcvy24 _ htvy24 (by omega) (48 + (xy26.tmod 10))) (lt_A0 hN rfl) hay1 hcvy24 rfl rfl mv_yX10_says q_1850 hd_yX10_says (by decide) (Nat.le_of_ble_eq_true rfl) (by decide) dX10_saysNumber_47 rfl (kV0 fun gvy27 hvy27 => ?_)
        obtain ⟨⟨Fvy27, hcvy27, hnvy27, hFvy27⟩, ⟨tvy27, htvy27⟩, hfvy27⟩ := hvy27
        have hovy27 : Fvy24 51 = F 51 + 1 := hqvy24
        have hqvy27 : Fvy27 51 = F 51 + 2 := by omega
        clear hnvy27 hovy27
        refine z_iload_n C 0 dX10_saysNumber_50 rfl ?_
        refine z_bipush (z := 10) C dX10_saysNumber_51 (by decide) ?_
        refine z_idiv C dX10_saysNumber_53 (by decide) (by decide) (by decide) ?_
        rw [show (10 : Int).tdiv 10 = 1 by decide]
        refine z_istore_n (lv' := [(3, .int (zI (1))), (2, .int (zI (vy3))), (0, .ref (ad i)), (1, .int (zI (z)))]) C dX10_saysNumber_54 rfl (by decide) rfl ?_
        refine z_goto (tgt := 33) C dX10_saysNumber_55 (by decide) ?_
        refine z_iload_n C 0 dX10_saysNumber_33 rfl ?_
        refine z_if_le (tgt := 58) C dX10_saysNumber_34 (by decide) (by omega) (fun h => absurd h (by omega)) (fun _ => ?_)
        refine z_aload_n C 2 dX10_saysNumber_37 rfl ?_
        refine z_bipush (z := 48) C dX10_saysNumber_38 (by decide) ?_
        refine z_iload_n C 1 dX10_saysNumber_40 rfl ?_
        refine z_iload_n C 0 dX10_saysNumber_41 rfl ?_
        refine z_idiv C dX10_saysNumber_42 (by omega) (by omega) (by omega) ?_
        obtain ⟨xy29, exy29, hxy29⟩ : ∃ x9, (vy3).tdiv 1 = x9 ∧ (0 ≤ vy3 → 0 ≤ x9 ∧ 1 * x9 ≤ vy3 ∧ vy3 < 1 * x9 + 1) ∧ (vy3 ≤ 0 → x9 ≤ 0 ∧ vy3 ≤ 1 * x9 ∧ 1 * x9 < vy3 + 1) := tdk 1 (by decide)
        rw [exy29]
        refine z_bipush (z := 10) C dX10_saysNumber_43 (by decide) ?_
        refine z_irem C dX10_saysNumber_45 (by omega) (by omega) (by omega) ?_
        refine z_iadd C dX10_saysNumber_46 ?_
        have hey31 : Fvy27 51 = F 51 + 2 := hqvy27
        refine z_cV (As := [.int (zI (48 + (xy29.tmod 10)))]) (rest := []) (ci := 12) C (c_X10_says l D A cs tt N ad _ i hN _ hcvy27 _ htvy27 (by omega) (48 + (xy29.tmod 10))) (lt_A0 hN rfl) hay1 hcvy27 rfl rfl mv_yX10_says q_1850 hd_yX10_says (by decide) (Nat.le_of_ble_eq_true rfl) (by decide) dX10_saysNumber_47 rfl (kV0 fun gvy30 hvy30 => ?_)
        obtain ⟨⟨Fvy30, hcvy30, hnvy30, hFvy30⟩, ⟨tvy30, htvy30⟩, hfvy30⟩ := hvy30
        have hovy30 : Fvy27 51 = F 51 + 2 := hqvy27
        have hqvy30 : Fvy30 51 = F 51 + 3 := by omega
        clear hnvy30 hovy30
        refine z_iload_n C 0 dX10_saysNumber_50 rfl ?_
        refine z_bipush (z := 10) C dX10_saysNumber_51 (by decide) ?_
        refine z_idiv C dX10_saysNumber_53 (by decide) (by decide) (by decide) ?_
        rw [show (1 : Int).tdiv 10 = 0 by decide]
        refine z_istore_n (lv' := [(3, .int (zI (0))), (2, .int (zI (vy3))), (0, .ref (ad i)), (1, .int (zI (z)))]) C dX10_saysNumber_54 rfl (by decide) rfl ?_
        refine z_goto (tgt := 33) C dX10_saysNumber_55 (by decide) ?_
        refine z_iload_n C 0 dX10_saysNumber_33 rfl ?_
        refine z_if_le (tgt := 58) C dX10_saysNumber_34 (by decide) (by omega) (fun _ => ?_) (fun h => absurd h (by omega))
        have hFy32 : ∀ f, f ≠ 51 → Fvy30 f = F f := fun f n51 => ((hFvy30 f n51).trans ((hFvy27 f n51).trans (hFvy24 f n51)))
        have hey33 : Fvy30 51 = F 51 + 3 := hqvy30
        exact z_vret C hr hlk dX10_saysNumber_58 (by decide) (by decide) ⟨rfl, rfl, rfl, ⟨_, hcvy30, by omega, hFy32⟩, ⟨_, htvy30⟩, fun j j1 j2 => by rw [hfvy30 _ (by omega) (by omega)]; rw [hfvy27 _ (by omega) (by omega)]; rw [hfvy24 _ (by omega) (by omega)]⟩
      · refine z_iload_n C 0 dX10_saysNumber_25 rfl ?_
        refine z_bipush (z := 10) C dX10_saysNumber_26 (by decide) ?_
        refine z_imul C dX10_saysNumber_28 ?_
        rw [show (100 : Int) * 10 = 1000 by decide]
        refine z_istore_n (lv' := [(3, .int (zI (1000))), (2, .int (zI (vy3))), (0, .ref (ad i)), (1, .int (zI (z)))]) C dX10_saysNumber_29 rfl (by decide) rfl ?_
        refine z_goto (tgt := 17) C dX10_saysNumber_30 (by decide) ?_
        refine z_iload_n C 1 dX10_saysNumber_17 rfl ?_
        refine z_iload_n C 0 dX10_saysNumber_18 rfl ?_
        refine z_idiv C dX10_saysNumber_19 (by omega) (by omega) (by omega) ?_
        obtain ⟨xy34, exy34, hxy34⟩ : ∃ x9, (vy3).tdiv 1000 = x9 ∧ (0 ≤ vy3 → 0 ≤ x9 ∧ 1000 * x9 ≤ vy3 ∧ vy3 < 1000 * x9 + 1000) ∧ (vy3 ≤ 0 → x9 ≤ 0 ∧ vy3 ≤ 1000 * x9 ∧ 1000 * x9 < vy3 + 1000) := tdk 1000 (by decide)
        rw [exy34]
        refine z_bipush (z := 9) C dX10_saysNumber_20 (by decide) ?_
        refine z_icmp_le (tgt := 33) C dX10_saysNumber_22 (by decide) (by omega) (by omega) (fun hby35 => ?_) (fun hby35 => ?_)
        · refine z_iload_n C 0 dX10_saysNumber_33 rfl ?_
          refine z_if_le (tgt := 58) C dX10_saysNumber_34 (by decide) (by omega) (fun h => absurd h (by omega)) (fun _ => ?_)
          refine z_aload_n C 2 dX10_saysNumber_37 rfl ?_
          refine z_bipush (z := 48) C dX10_saysNumber_38 (by decide) ?_
          refine z_iload_n C 1 dX10_saysNumber_40 rfl ?_
          refine z_iload_n C 0 dX10_saysNumber_41 rfl ?_
          refine z_idiv C dX10_saysNumber_42 (by omega) (by omega) (by omega) ?_
          obtain ⟨xy36, exy36, hxy36⟩ : ∃ x9, (vy3).tdiv 1000 = x9 ∧ (0 ≤ vy3 → 0 ≤ x9 ∧ 1000 * x9 ≤ vy3 ∧ vy3 < 1000 * x9 + 1000) ∧ (vy3 ≤ 0 → x9 ≤ 0 ∧ vy3 ≤ 1000 * x9 ∧ 1000 * x9 < vy3 + 1000) := tdk 1000 (by decide)
          rw [exy36]
          refine z_bipush (z := 10) C dX10_saysNumber_43 (by decide) ?_
          refine z_irem C dX10_saysNumber_45 (by omega) (by omega) (by omega) ?_
          refine z_iadd C dX10_saysNumber_46 ?_
          have hey38 : F 51 = F 51 := rfl
          refine z_cV (As := [.int (zI (48 + (xy36.tmod 10)))]) (rest := []) (ci := 12) C (c_X10_says l D A cs tt N ad _ i hN _ hg _ ha24 (by omega) (48 + (xy36.tmod 10))) (lt_A0 hN rfl) hay1 hg rfl rfl mv_yX10_says q_1850 hd_yX10_says (by decide) (Nat.le_of_ble_eq_true rfl) (by decide) dX10_saysNumber_47 rfl (kV0 fun gvy37 hvy37 => ?_)
          obtain ⟨⟨Fvy37, hcvy37, hnvy37, hFvy37⟩, ⟨tvy37, htvy37⟩, hfvy37⟩ := hvy37
          have hovy37 : F 51 = F 51 := rfl
          have hqvy37 : Fvy37 51 = F 51 + 1 := by omega
          clear hnvy37 hovy37
          refine z_iload_n C 0 dX10_saysNumber_50 rfl ?_
          refine z_bipush (z := 10) C dX10_saysNumber_51 (by decide) ?_
          refine z_idiv C dX10_saysNumber_53 (by decide) (by decide) (by decide) ?_
          rw [show (1000 : Int).tdiv 10 = 100 by decide]
          refine z_istore_n (lv' := [(3, .int (zI (100))), (2, .int (zI (vy3))), (0, .ref (ad i)), (1, .int (zI (z)))]) C dX10_saysNumber_54 rfl (by decide) rfl ?_
          refine z_goto (tgt := 33) C dX10_saysNumber_55 (by decide) ?_
          refine z_iload_n C 0 dX10_saysNumber_33 rfl ?_
          refine z_if_le (tgt := 58) C dX10_saysNumber_34 (by decide) (by omega) (fun h => absurd h (by omega)) (fun _ => ?_)
          refine z_aload_n C 2 dX10_saysNumber_37 rfl ?_
          refine z_bipush (z := 48) C dX10_saysNumber_38 (by decide) ?_
          refine z_iload_n C 1 dX10_saysNumber_40 rfl ?_
          refine z_iload_n C 0 dX10_saysNumber_41 rfl ?_
          refine z_idiv C dX10_saysNumber_42 (by omega) (by omega) (by omega) ?_
          obtain ⟨xy39, exy39, hxy39⟩ : ∃ x9, (vy3).tdiv 100 = x9 ∧ (0 ≤ vy3 → 0 ≤ x9 ∧ 100 * x9 ≤ vy3 ∧ vy3 < 100 * x9 + 100) ∧ (vy3 ≤ 0 → x9 ≤ 0 ∧ vy3 ≤ 100 * x9 ∧ 100 * x9 < vy3 + 100) := tdk 100 (by decide)
          rw [exy39]
          refine z_bipush (z := 10) C dX10_saysNumber_43 (by decide) ?_
          refine z_irem C dX10_saysNumber_45 (by omega) (by omega) (by omega) ?_
          refine z_iadd C dX10_saysNumber_46 ?_
          have hey41 : Fvy37 51 = F 51 + 1 := hqvy37
          refine z_cV (As := [.int (zI (48 + (xy39.tmod 10)))]) (rest := []) (ci := 12) C (c_X10_says l D A cs tt N ad _ i hN _ hcvy37 _ htvy37 (by omega) (48 + (xy39.tmod 10))) (lt_A0 hN rfl) hay1 hcvy37 rfl rfl mv_yX10_says q_1850 hd_yX10_says (by decide) (Nat.le_of_ble_eq_true rfl) (by decide) dX10_saysNumber_47 rfl (kV0 fun gvy40 hvy40 => ?_)
          obtain ⟨⟨Fvy40, hcvy40, hnvy40, hFvy40⟩, ⟨tvy40, htvy40⟩, hfvy40⟩ := hvy40
          have hovy40 : Fvy37 51 = F 51 + 1 := hqvy37
          have hqvy40 : Fvy40 51 = F 51 + 2 := by omega
          clear hnvy40 hovy40
          refine z_iload_n C 0 dX10_saysNumber_50 rfl ?_
          refine z_bipush (z := 10) C dX10_saysNumber_51 (by decide) ?_
          refine z_idiv C dX10_saysNumber_53 (by decide) (by decide) (by decide) ?_
          rw [show (100 : Int).tdiv 10 = 10 by decide]
          refine z_istore_n (lv' := [(3, .int (zI (10))), (2, .int (zI (vy3))), (0, .ref (ad i)), (1, .int (zI (z)))]) C dX10_saysNumber_54 rfl (by decide) rfl ?_
          refine z_goto (tgt := 33) C dX10_saysNumber_55 (by decide) ?_
          refine z_iload_n C 0 dX10_saysNumber_33 rfl ?_
          refine z_if_le (tgt := 58) C dX10_saysNumber_34 (by decide) (by omega) (fun h => absurd h (by omega)) (fun _ => ?_)
          refine z_aload_n C 2 dX10_saysNumber_37 rfl ?_
          refine z_bipush (z := 48) C dX10_saysNumber_38 (by decide) ?_
          refine z_iload_n C 1 dX10_saysNumber_40 rfl ?_
          refine z_iload_n C 0 dX10_saysNumber_41 rfl ?_
          refine z_idiv C dX10_saysNumber_42 (by omega) (by omega) (by omega) ?_
          obtain ⟨xy42, exy42, hxy42⟩ : ∃ x9, (vy3).tdiv 10 = x9 ∧ (0 ≤ vy3 → 0 ≤ x9 ∧ 10 * x9 ≤ vy3 ∧ vy3 < 10 * x9 + 10) ∧ (vy3 ≤ 0 → x9 ≤ 0 ∧ vy3 ≤ 10 * x9 ∧ 10 * x9 < vy3 + 10) := tdk 10 (by decide)
          rw [exy42]
          refine z_bipush (z := 10) C dX10_saysNumber_43 (by decide) ?_
          refine z_irem C dX10_saysNumber_45 (by omega) (by omega) (by omega) ?_
          refine z_iadd C dX10_saysNumber_46 ?_
          have hey44 : Fvy40 51 = F 51 + 2 := hqvy40
          refine z_cV (As := [.int (zI (48 + (xy42.tmod 10)))]) (rest := []) (ci := 12) C (c_X10_says l D A cs tt N ad _ i hN _ hcvy40 _ htvy40 (by omega) (48 + (xy42.tmod 10))) (lt_A0 hN rfl) hay1 hcvy40 rfl rfl mv_yX10_says q_1850 hd_yX10_says (by decide) (Nat.le_of_ble_eq_true rfl) (by decide) dX10_saysNumber_47 rfl (kV0 fun gvy43 hvy43 => ?_)
          obtain ⟨⟨Fvy43, hcvy43, hnvy43, hFvy43⟩, ⟨tvy43, htvy43⟩, hfvy43⟩ := hvy43
          have hovy43 : Fvy40 51 = F 51 + 2 := hqvy40
          have hqvy43 : Fvy43 51 = F 51 + 3 := by omega
          clear hnvy43 hovy43
          refine z_iload_n C 0 dX10_saysNumber_50 rfl ?_
          refine z_bipush (z := 10) C dX10_saysNumber_51 (by decide) ?_
          refine z_idiv C dX10_saysNumber_53 (by decide) (by decide) (by decide) ?_
          rw [show (10 : Int).tdiv 10 = 1 by decide]
          refine z_istore_n (lv' := [(3, .int (zI (1))), (2, .int (zI (vy3))), (0, .ref (ad i)), (1, .int (zI (z)))]) C dX10_saysNumber_54 rfl (by decide) rfl ?_
          refine z_goto (tgt := 33) C dX10_saysNumber_55 (by decide) ?_
          refine z_iload_n C 0 dX10_saysNumber_33 rfl ?_
          refine z_if_le (tgt := 58) C dX10_saysNumber_34 (by decide) (by omega) (fun h => absurd h (by omega)) (fun _ => ?_)
          refine z_aload_n C 2 dX10_saysNumber_37 rfl ?_
          refine z_bipush (z := 48) C dX10_saysNumber_38 (by decide) ?_
          refine z_iload_n C 1 dX10_saysNumber_40 rfl ?_
          refine z_iload_n C 0 dX10_saysNumber_41 rfl ?_
          refine z_idiv C dX10_saysNumber_42 (by omega) (by omega) (by omega) ?_
          obtain ⟨xy45, exy45, hxy45⟩ : ∃ x9, (vy3).tdiv 1 = x9 ∧ (0 ≤ vy3 → 0 ≤ x9 ∧ 1 * x9 ≤ vy3 ∧ vy3 < 1 * x9 + 1) ∧ (vy3 ≤ 0 → x9 ≤ 0 ∧ vy3 ≤ 1 * x9 ∧ 1 * x9 < vy3 + 1) := tdk 1 (by decide)
          rw [exy45]
          refine z_bipush (z := 10) C dX10_saysNumber_43 (by decide) ?_
          refine z_irem C dX10_saysNumber_45 (by omega) (by omega) (by omega) ?_
          refine z_iadd C dX10_saysNumber_46 ?_
          have hey47 : Fvy43 51 = F 51 + 3 := hqvy43
          refine z_cV (As := [.int (zI (48 + (xy45.tmod 10)))]) (rest := []) (ci := 12) C (c_X10_says l D A cs tt N ad _ i hN _ hcvy43 _ htvy43 (by omega) (48 + (xy45.tmod 10))) (lt_A0 hN rfl) hay1 hcvy43 rfl rfl mv_yX10_says q_1850 hd_yX10_says (by decide) (Nat.le_of_ble_eq_true rfl) (by decide) dX10_saysNumber_47 rfl (kV0 fun gvy46 hvy46 => ?_)
          obtain ⟨⟨Fvy46, hcvy46, hnvy46, hFvy46⟩, ⟨tvy46, htvy46⟩, hfvy46⟩ := hvy46
          have hovy46 : Fvy43 51 = F 51 + 3 := hqvy43
          have hqvy46 : Fvy46 51 = F 51 + 4 := by omega
          clear hnvy46 hovy46
          refine z_iload_n C 0 dX10_saysNumber_50 rfl ?_
          refine z_bipush (z := 10) C dX10_saysNumber_51 (by decide) ?_
          refine z_idiv C dX10_saysNumber_53 (by decide) (by decide) (by decide) ?_
          rw [show (1 : Int).tdiv 10 = 0 by decide]
          refine z_istore_n (lv' := [(3, .int (zI (0))), (2, .int (zI (vy3))), (0, .ref (ad i)), (1, .int (zI (z)))]) C dX10_saysNumber_54 rfl (by decide) rfl ?_
          refine z_goto (tgt := 33) C dX10_saysNumber_55 (by decide) ?_
          refine z_iload_n C 0 dX10_saysNumber_33 rfl ?_
          refine z_if_le (tgt := 58) C dX10_saysNumber_34 (by decide) (by omega) (fun _ => ?_) (fun h => absurd h (by omega))
          have hFy48 : ∀ f, f ≠ 51 → Fvy46 f = F f := fun f n51 => ((hFvy46 f n51).trans ((hFvy43 f n51).trans ((hFvy40 f n51).trans (hFvy37 f n51))))
          have hey49 : Fvy46 51 = F 51 + 4 := hqvy46
          exact z_vret C hr hlk dX10_saysNumber_58 (by decide) (by decide) ⟨rfl, rfl, rfl, ⟨_, hcvy46, by omega, hFy48⟩, ⟨_, htvy46⟩, fun j j1 j2 => by rw [hfvy46 _ (by omega) (by omega)]; rw [hfvy43 _ (by omega) (by omega)]; rw [hfvy40 _ (by omega) (by omega)]; rw [hfvy37 _ (by omega) (by omega)]⟩
        · refine z_iload_n C 0 dX10_saysNumber_25 rfl ?_
          refine z_bipush (z := 10) C dX10_saysNumber_26 (by decide) ?_
          refine z_imul C dX10_saysNumber_28 ?_
          rw [show (1000 : Int) * 10 = 10000 by decide]
          refine z_istore_n (lv' := [(3, .int (zI (10000))), (2, .int (zI (vy3))), (0, .ref (ad i)), (1, .int (zI (z)))]) C dX10_saysNumber_29 rfl (by decide) rfl ?_
          refine z_goto (tgt := 17) C dX10_saysNumber_30 (by decide) ?_
          refine z_iload_n C 1 dX10_saysNumber_17 rfl ?_
          refine z_iload_n C 0 dX10_saysNumber_18 rfl ?_
          refine z_idiv C dX10_saysNumber_19 (by omega) (by omega) (by omega) ?_
          obtain ⟨xy50, exy50, hxy50⟩ : ∃ x9, (vy3).tdiv 10000 = x9 ∧ (0 ≤ vy3 → 0 ≤ x9 ∧ 10000 * x9 ≤ vy3 ∧ vy3 < 10000 * x9 + 10000) ∧ (vy3 ≤ 0 → x9 ≤ 0 ∧ vy3 ≤ 10000 * x9 ∧ 10000 * x9 < vy3 + 10000) := tdk 10000 (by decide)
          rw [exy50]
          refine z_bipush (z := 9) C dX10_saysNumber_20 (by decide) ?_
          refine z_icmp_le (tgt := 33) C dX10_saysNumber_22 (by decide) (by omega) (by omega) (fun hby51 => ?_) (fun hby51 => ?_)
          · refine z_iload_n C 0 dX10_saysNumber_33 rfl ?_
            refine z_if_le (tgt := 58) C dX10_saysNumber_34 (by decide) (by omega) (fun h => absurd h (by omega)) (fun _ => ?_)
            refine z_aload_n C 2 dX10_saysNumber_37 rfl ?_
            refine z_bipush (z := 48) C dX10_saysNumber_38 (by decide) ?_
            refine z_iload_n C 1 dX10_saysNumber_40 rfl ?_
            refine z_iload_n C 0 dX10_saysNumber_41 rfl ?_
            refine z_idiv C dX10_saysNumber_42 (by omega) (by omega) (by omega) ?_
            obtain ⟨xy52, exy52, hxy52⟩ : ∃ x9, (vy3).tdiv 10000 = x9 ∧ (0 ≤ vy3 → 0 ≤ x9 ∧ 10000 * x9 ≤ vy3 ∧ vy3 < 10000 * x9 + 10000) ∧ (vy3 ≤ 0 → x9 ≤ 0 ∧ vy3 ≤ 10000 * x9 ∧ 10000 * x9 < vy3 + 10000) := tdk 10000 (by decide)
            rw [exy52]
            refine z_bipush (z := 10) C dX10_saysNumber_43 (by decide) ?_
            refine z_irem C dX10_saysNumber_45 (by omega) (by omega) (by omega) ?_
            refine z_iadd C dX10_saysNumber_46 ?_
            have hey54 : F 51 = F 51 := rfl
            refine z_cV (As := [.int (zI (48 + (xy52.tmod 10)))]) (rest := []) (ci := 12) C (c_X10_says l D A cs tt N ad _ i hN _ hg _ ha24 (by omega) (48 + (xy52.tmod 10))) (lt_A0 hN rfl) hay1 hg rfl rfl mv_yX10_says q_1850 hd_yX10_says (by decide) (Nat.le_of_ble_eq_true rfl) (by decide) dX10_saysNumber_47 rfl (kV0 fun gvy53 hvy53 => ?_)
            obtain ⟨⟨Fvy53, hcvy53, hnvy53, hFvy53⟩, ⟨tvy53, htvy53⟩, hfvy53⟩ := hvy53
            have hovy53 : F 51 = F 51 := rfl
            have hqvy53 : Fvy53 51 = F 51 + 1 := by omega
            clear hnvy53 hovy53
            refine z_iload_n C 0 dX10_saysNumber_50 rfl ?_
            refine z_bipush (z := 10) C dX10_saysNumber_51 (by decide) ?_
            refine z_idiv C dX10_saysNumber_53 (by decide) (by decide) (by decide) ?_
            rw [show (10000 : Int).tdiv 10 = 1000 by decide]
            refine z_istore_n (lv' := [(3, .int (zI (1000))), (2, .int (zI (vy3))), (0, .ref (ad i)), (1, .int (zI (z)))]) C dX10_saysNumber_54 rfl (by decide) rfl ?_
            refine z_goto (tgt := 33) C dX10_saysNumber_55 (by decide) ?_
            refine z_iload_n C 0 dX10_saysNumber_33 rfl ?_
            refine z_if_le (tgt := 58) C dX10_saysNumber_34 (by decide) (by omega) (fun h => absurd h (by omega)) (fun _ => ?_)
            refine z_aload_n C 2 dX10_saysNumber_37 rfl ?_
            refine z_bipush (z := 48) C dX10_saysNumber_38 (by decide) ?_
            refine z_iload_n C 1 dX10_saysNumber_40 rfl ?_
            refine z_iload_n C 0 dX10_saysNumber_41 rfl ?_
            refine z_idiv C dX10_saysNumber_42 (by omega) (by omega) (by omega) ?_
            obtain ⟨xy55, exy55, hxy55⟩ : ∃ x9, (vy3).tdiv 1000 = x9 ∧ (0 ≤ vy3 → 0 ≤ x9 ∧ 1000 * x9 ≤ vy3 ∧ vy3 < 1000 * x9 + 1000) ∧ (vy3 ≤ 0 → x9 ≤ 0 ∧ vy3 ≤ 1000 * x9 ∧ 1000 * x9 < vy3 + 1000) := tdk 1000 (by decide)
            rw [exy55]
            refine z_bipush (z := 10) C dX10_saysNumber_43 (by decide) ?_
            refine z_irem C dX10_saysNumber_45 (by omega) (by omega) (by omega) ?_
            refine z_iadd C dX10_saysNumber_46 ?_
            have hey57 : Fvy53 51 = F 51 + 1 := hqvy53
            refine z_cV (As := [.int (zI (48 + (xy55.tmod 10)))]) (rest := []) (ci := 12) C (c_X10_says l D A cs tt N ad _ i hN _ hcvy53 _ htvy53 (by omega) (48 + (xy55.tmod 10))) (lt_A0 hN rfl) hay1 hcvy53 rfl rfl mv_yX10_says q_1850 hd_yX10_says (by decide) (Nat.le_of_ble_eq_true rfl) (by decide) dX10_saysNumber_47 rfl (kV0 fun gvy56 hvy56 => ?_)
            obtain ⟨⟨Fvy56, hcvy56, hnvy56, hFvy56⟩, ⟨tvy56, htvy56⟩, hfvy56⟩ := hvy56
            have hovy56 : Fvy53 51 = F 51 + 1 := hqvy53
            have hqvy56 : Fvy56 51 = F 51 + 2 := by omega
            clear hnvy56 hovy56
            refine z_iload_n C 0 dX10_saysNumber_50 rfl ?_
            refine z_bipush (z := 10) C dX10_saysNumber_51 (by decide) ?_
            refine z_idiv C dX10_saysNumber_53 (by decide) (by decide) (by decide) ?_
            rw [show (1000 : Int).tdiv 10 = 100 by decide]
            refine z_istore_n (lv' := [(3, .int (zI (100))), (2, .int (zI (vy3))), (0, .ref (ad i)), (1, .int (zI (z)))]) C dX10_saysNumber_54 rfl (by decide) rfl ?_
            refine z_goto (tgt := 33) C dX10_saysNumber_55 (by decide) ?_
            refine z_iload_n C 0 dX10_saysNumber_33 rfl ?_
            refine z_if_le (tgt := 58) C dX10_saysNumber_34 (by decide) (by omega) (fun h => absurd h (by omega)) (fun _ => ?_)
            refine z_aload_n C 2 dX10_saysNumber_37 rfl ?_
            refine z_bipush (z := 48) C dX10_saysNumber_38 (by decide) ?_
            refine z_iload_n C 1 dX10_saysNumber_40 rfl ?_
            refine z_iload_n C 0 dX10_saysNumber_41 rfl ?_
            refine z_idiv C dX10_saysNumber_42 (by omega) (by omega) (by omega) ?_
            obtain ⟨xy58, exy58, hxy58⟩ : ∃ x9, (vy3).tdiv 100 = x9 ∧ (0 ≤ vy3 → 0 ≤ x9 ∧ 100 * x9 ≤ vy3 ∧ vy3 < 100 * x9 + 100) ∧ (vy3 ≤ 0 → x9 ≤ 0 ∧ vy3 ≤ 100 * x9 ∧ 100 * x9 < vy3 + 100) := tdk 100 (by decide)
            rw [exy58]
            refine z_bipush (z := 10) C dX10_saysNumber_43 (by decide) ?_
            refine z_irem C dX10_saysNumber_45 (by omega) (by omega) (by omega) ?_
            refine z_iadd C dX10_saysNumber_46 ?_
            have hey60 : Fvy56 51 = F 51 + 2 := hqvy56
            refine z_cV (As := [.int (zI (48 + (xy58.tmod 10)))]) (rest := []) (ci := 12) C (c_X10_says l D A cs tt N ad _ i hN _ hcvy56 _ htvy56 (by omega) (48 + (xy58.tmod 10))) (lt_A0 hN rfl) hay1 hcvy56 rfl rfl mv_yX10_says q_1850 hd_yX10_says (by decide) (Nat.le_of_ble_eq_true rfl) (by decide) dX10_saysNumber_47 rfl (kV0 fun gvy59 hvy59 => ?_)
            obtain ⟨⟨Fvy59, hcvy59, hnvy59, hFvy59⟩, ⟨tvy59, htvy59⟩, hfvy59⟩ := hvy59
            have hovy59 : Fvy56 51 = F 51 + 2 := hqvy56
            have hqvy59 : Fvy59 51 = F 51 + 3 := by omega
            clear hnvy59 hovy59
            refine z_iload_n C 0 dX10_saysNumber_50 rfl ?_
            refine z_bipush (z := 10) C dX10_saysNumber_51 (by decide) ?_
            refine z_idiv C dX10_saysNumber_53 (by decide) (by decide) (by decide) ?_
            rw [show (100 : Int).tdiv 10 = 10 by decide]
            refine z_istore_n (lv' := [(3, .int (zI (10))), (2, .int (zI (vy3))), (0, .ref (ad i)), (1, .int (zI (z)))]) C dX10_saysNumber_54 rfl (by decide) rfl ?_
            refine z_goto (tgt := 33) C dX10_saysNumber_55 (by decide) ?_
            refine z_iload_n C 0 dX10_saysNumber_33 rfl ?_
            refine z_if_le (tgt := 58) C dX10_saysNumber_34 (by decide) (by omega) (fun h => absurd h (by omega)) (fun _ => ?_)
            refine z_aload_n C 2 dX10_saysNumber_37 rfl ?_
            refine z_bipush (z := 48) C dX10_saysNumber_38 (by decide) ?_
            refine z_iload_n C 1 dX10_saysNumber_40 rfl ?_
            refine z_iload_n C 0 dX10_saysNumber_41 rfl ?_
            refine z_idiv C dX10_saysNumber_42 (by omega) (by omega) (by omega) ?_
            obtain ⟨xy61, exy61, hxy61⟩ : ∃ x9, (vy3).tdiv 10 = x9 ∧ (0 ≤ vy3 → 0 ≤ x9 ∧ 10 * x9 ≤ vy3 ∧ vy3 < 10 * x9 + 10) ∧ (vy3 ≤ 0 → x9 ≤ 0 ∧ vy3 ≤ 10 * x9 ∧ 10 * x9 < vy3 + 10) := tdk 10 (by decide)
            rw [exy61]
            refine z_bipush (z := 10) C dX10_saysNumber_43 (by decide) ?_
            refine z_irem C dX10_saysNumber_45 (by omega) (by omega) (by omega) ?_
            refine z_iadd C dX10_saysNumber_46 ?_
            have hey63 : Fvy59 51 = F 51 + 3 := hqvy59
            refine z_cV (As := [.int (zI (48 + (xy61.tmod 10)))]) (rest := []) (ci := 12) C (c_X10_says l D A cs tt N ad _ i hN _ hcvy59 _ htvy59 (by omega) (48 + (xy61.tmod 10))) (lt_A0 hN rfl) hay1 hcvy59 rfl rfl mv_yX10_says q_1850 hd_yX10_says (by decide) (Nat.le_of_ble_eq_true rfl) (by decide) dX10_saysNumber_47 rfl (kV0 fun gvy62 hvy62 => ?_)
            obtain ⟨⟨Fvy62, hcvy62, hnvy62, hFvy62⟩, ⟨tvy62, htvy62⟩, hfvy62⟩ := hvy62
            have hovy62 : Fvy59 51 = F 51 + 3 := hqvy59
            have hqvy62 : Fvy62 51 = F 51 + 4 := by omega
            clear hnvy62 hovy62
            refine z_iload_n C 0 dX10_saysNumber_50 rfl ?_
            refine z_bipush (z := 10) C dX10_saysNumber_51 (by decide) ?_
            refine z_idiv C dX10_saysNumber_53 (by decide) (by decide) (by decide) ?_
            rw [show (10 : Int).tdiv 10 = 1 by decide]
            refine z_istore_n (lv' := [(3, .int (zI (1))), (2, .int (zI (vy3))), (0, .ref (ad i)), (1, .int (zI (z)))]) C dX10_saysNumber_54 rfl (by decide) rfl ?_
            refine z_goto (tgt := 33) C dX10_saysNumber_55 (by decide) ?_
            refine z_iload_n C 0 dX10_saysNumber_33 rfl ?_
            refine z_if_le (tgt := 58) C dX10_saysNumber_34 (by decide) (by omega) (fun h => absurd h (by omega)) (fun _ => ?_)
            refine z_aload_n C 2 dX10_saysNumber_37 rfl ?_
            refine z_bipush (z := 48) C dX10_saysNumber_38 (by decide) ?_
            refine z_iload_n C 1 dX10_saysNumber_40 rfl ?_
            refine z_iload_n C 0 dX10_saysNumber_41 rfl ?_
            refine z_idiv C dX10_saysNumber_42 (by omega) (by omega) (by omega) ?_
            obtain ⟨xy64, exy64, hxy64⟩ : ∃ x9, (vy3).tdiv 1 = x9 ∧ (0 ≤ vy3 → 0 ≤ x9 ∧ 1 * x9 ≤ vy3 ∧ vy3 < 1 * x9 + 1) ∧ (vy3 ≤ 0 → x9 ≤ 0 ∧ vy3 ≤ 1 * x9 ∧ 1 * x9 < vy3 + 1) := tdk 1 (by decide)
            rw [exy64]
            refine z_bipush (z := 10) C dX10_saysNumber_43 (by decide) ?_
            refine z_irem C dX10_saysNumber_45 (by omega) (by omega) (by omega) ?_
            refine z_iadd C dX10_saysNumber_46 ?_
            have hey66 : Fvy62 51 = F 51 + 4 := hqvy62
            refine z_cV (As := [.int (zI (48 + (xy64.tmod 10)))]) (rest := []) (ci := 12) C (c_X10_says l D A cs tt N ad _ i hN _ hcvy62 _ htvy62 (by omega) (48 + (xy64.tmod 10))) (lt_A0 hN rfl) hay1 hcvy62 rfl rfl mv_yX10_says q_1850 hd_yX10_says (by decide) (Nat.le_of_ble_eq_true rfl) (by decide) dX10_saysNumber_47 rfl (kV0 fun gvy65 hvy65 => ?_)
            obtain ⟨⟨Fvy65, hcvy65, hnvy65, hFvy65⟩, ⟨tvy65, htvy65⟩, hfvy65⟩ := hvy65
            have hovy65 : Fvy62 51 = F 51 + 4 := hqvy62
            have hqvy65 : Fvy65 51 = F 51 + 5 := by omega
            clear hnvy65 hovy65
            refine z_iload_n C 0 dX10_saysNumber_50 rfl ?_
            refine z_bipush (z := 10) C dX10_saysNumber_51 (by decide) ?_
            refine z_idiv C dX10_saysNumber_53 (by decide) (by decide) (by decide) ?_
            rw [show (1 : Int).tdiv 10 = 0 by decide]
            refine z_istore_n (lv' := [(3, .int (zI (0))), (2, .int (zI (vy3))), (0, .ref (ad i)), (1, .int (zI (z)))]) C dX10_saysNumber_54 rfl (by decide) rfl ?_
            refine z_goto (tgt := 33) C dX10_saysNumber_55 (by decide) ?_
            refine z_iload_n C 0 dX10_saysNumber_33 rfl ?_
            refine z_if_le (tgt := 58) C dX10_saysNumber_34 (by decide) (by omega) (fun _ => ?_) (fun h => absurd h (by omega))
            have hFy67 : ∀ f, f ≠ 51 → Fvy65 f = F f := fun f n51 => ((hFvy65 f n51).trans ((hFvy62 f n51).trans ((hFvy59 f n51).trans ((hFvy56 f n51).trans (hFvy53 f n51)))))
            have hey68 : Fvy65 51 = F 51 + 5 := hqvy65
            exact z_vret C hr hlk dX10_saysNumber_58 (by decide) (by decide) ⟨rfl, rfl, rfl, ⟨_, hcvy65, by omega, hFy67⟩, ⟨_, htvy65⟩, fun j j1 j2 => by rw [hfvy65 _ (by omega) (by omega)]; rw [hfvy62 _ (by omega) (by omega)]; rw [hfvy59 _ (by omega) (by omega)]; rw [hfvy56 _ (by omega) (by omega)]; rw [hfvy53 _ (by omega) (by omega)]⟩
          · refine z_iload_n C 0 dX10_saysNumber_25 rfl ?_
            refine z_bipush (z := 10) C dX10_saysNumber_26 (by decide) ?_
            refine z_imul C dX10_saysNumber_28 ?_
            rw [show (10000 : Int) * 10 = 100000 by decide]
            refine z_istore_n (lv' := [(3, .int (zI (100000))), (2, .int (zI (vy3))), (0, .ref (ad i)), (1, .int (zI (z)))]) C dX10_saysNumber_29 rfl (by decide) rfl ?_
            refine z_goto (tgt := 17) C dX10_saysNumber_30 (by decide) ?_
            refine z_iload_n C 1 dX10_saysNumber_17 rfl ?_
            refine z_iload_n C 0 dX10_saysNumber_18 rfl ?_
            refine z_idiv C dX10_saysNumber_19 (by omega) (by omega) (by omega) ?_
            obtain ⟨xy69, exy69, hxy69⟩ : ∃ x9, (vy3).tdiv 100000 = x9 ∧ (0 ≤ vy3 → 0 ≤ x9 ∧ 100000 * x9 ≤ vy3 ∧ vy3 < 100000 * x9 + 100000) ∧ (vy3 ≤ 0 → x9 ≤ 0 ∧ vy3 ≤ 100000 * x9 ∧ 100000 * x9 < vy3 + 100000) := tdk 100000 (by decide)
            rw [exy69]
            refine z_bipush (z := 9) C dX10_saysNumber_20 (by decide) ?_
            refine z_icmp_le (tgt := 33) C dX10_saysNumber_22 (by decide) (by omega) (by omega) (fun hby70 => ?_) (fun hby70 => ?_)
            · refine z_iload_n C 0 dX10_saysNumber_33 rfl ?_
              refine z_if_le (tgt := 58) C dX10_saysNumber_34 (by decide) (by omega) (fun h => absurd h (by omega)) (fun _ => ?_)
              refine z_aload_n C 2 dX10_saysNumber_37 rfl ?_
              refine z_bipush (z := 48) C dX10_saysNumber_38 (by decide) ?_
              refine z_iload_n C 1 dX10_saysNumber_40 rfl ?_
              refine z_iload_n C 0 dX10_saysNumber_41 rfl ?_
              refine z_idiv C dX10_saysNumber_42 (by omega) (by omega) (by omega) ?_
              obtain ⟨xy71, exy71, hxy71⟩ : ∃ x9, (vy3).tdiv 100000 = x9 ∧ (0 ≤ vy3 → 0 ≤ x9 ∧ 100000 * x9 ≤ vy3 ∧ vy3 < 100000 * x9 + 100000) ∧ (vy3 ≤ 0 → x9 ≤ 0 ∧ vy3 ≤ 100000 * x9 ∧ 100000 * x9 < vy3 + 100000) := tdk 100000 (by decide)
              rw [exy71]
              refine z_bipush (z := 10) C dX10_saysNumber_43 (by decide) ?_
              refine z_irem C dX10_saysNumber_45 (by omega) (by omega) (by omega) ?_
              refine z_iadd C dX10_saysNumber_46 ?_
              have hey73 : F 51 = F 51 := rfl
              refine z_cV (As := [.int (zI (48 + (xy71.tmod 10)))]) (rest := []) (ci := 12) C (c_X10_says l D A cs tt N ad _ i hN _ hg _ ha24 (by omega) (48 + (xy71.tmod 10))) (lt_A0 hN rfl) hay1 hg rfl rfl mv_yX10_says q_1850 hd_yX10_says (by decide) (Nat.le_of_ble_eq_true rfl) (by decide) dX10_saysNumber_47 rfl (kV0 fun gvy72 hvy72 => ?_)
              obtain ⟨⟨Fvy72, hcvy72, hnvy72, hFvy72⟩, ⟨tvy72, htvy72⟩, hfvy72⟩ := hvy72
              have hovy72 : F 51 = F 51 := rfl
              have hqvy72 : Fvy72 51 = F 51 + 1 := by omega
              clear hnvy72 hovy72
              refine z_iload_n C 0 dX10_saysNumber_50 rfl ?_
              refine z_bipush (z := 10) C dX10_saysNumber_51 (by decide) ?_
              refine z_idiv C dX10_saysNumber_53 (by decide) (by decide) (by decide) ?_
              rw [show (100000 : Int).tdiv 10 = 10000 by decide]
              refine z_istore_n (lv' := [(3, .int (zI (10000))), (2, .int (zI (vy3))), (0, .ref (ad i)), (1, .int (zI (z)))]) C dX10_saysNumber_54 rfl (by decide) rfl ?_
              refine z_goto (tgt := 33) C dX10_saysNumber_55 (by decide) ?_
              refine z_iload_n C 0 dX10_saysNumber_33 rfl ?_
              refine z_if_le (tgt := 58) C dX10_saysNumber_34 (by decide) (by omega) (fun h => absurd h (by omega)) (fun _ => ?_)
              refine z_aload_n C 2 dX10_saysNumber_37 rfl ?_
              refine z_bipush (z := 48) C dX10_saysNumber_38 (by decide) ?_
              refine z_iload_n C 1 dX10_saysNumber_40 rfl ?_
              refine z_iload_n C 0 dX10_saysNumber_41 rfl ?_
              refine z_idiv C dX10_saysNumber_42 (by omega) (by omega) (by omega) ?_
              obtain ⟨xy74, exy74, hxy74⟩ : ∃ x9, (vy3).tdiv 10000 = x9 ∧ (0 ≤ vy3 → 0 ≤ x9 ∧ 10000 * x9 ≤ vy3 ∧ vy3 < 10000 * x9 + 10000) ∧ (vy3 ≤ 0 → x9 ≤ 0 ∧ vy3 ≤ 10000 * x9 ∧ 10000 * x9 < vy3 + 10000) := tdk 10000 (by decide)
              rw [exy74]
              refine z_bipush (z := 10) C dX10_saysNumber_43 (by decide) ?_
              refine z_irem C dX10_saysNumber_45 (by omega) (by omega) (by omega) ?_
              refine z_iadd C dX10_saysNumber_46 ?_
              have hey76 : Fvy72 51 = F 51 + 1 := hqvy72
              refine z_cV (As := [.int (zI (48 + (xy74.tmod 10)))]) (rest := []) (ci := 12) C (c_X10_says l D A cs tt N ad _ i hN _ hcvy72 _ htvy72 (by omega) (48 + (xy74.tmod 10))) (lt_A0 hN rfl) hay1 hcvy72 rfl rfl mv_yX10_says q_1850 hd_yX10_says (by decide) (Nat.le_of_ble_eq_true rfl) (by decide) dX10_saysNumber_47 rfl (kV0 fun gvy75 hvy75 => ?_)
              obtain ⟨⟨Fvy75, hcvy75, hnvy75, hFvy75⟩, ⟨tvy75, htvy75⟩, hfvy75⟩ := hvy75
              have hovy75 : Fvy72 51 = F 51 + 1 := hqvy72
              have hqvy75 : Fvy75 51 = F 51 + 2 := by omega
              clear hnvy75 hovy75
              refine z_iload_n C 0 dX10_saysNumber_50 rfl ?_
              refine z_bipush (z := 10) C dX10_saysNumber_51 (by decide) ?_
              refine z_idiv C dX10_saysNumber_53 (by decide) (by decide) (by decide) ?_
              rw [show (10000 : Int).tdiv 10 = 1000 by decide]
              refine z_istore_n (lv' := [(3, .int (zI (1000))), (2, .int (zI (vy3))), (0, .ref (ad i)), (1, .int (zI (z)))]) C dX10_saysNumber_54 rfl (by decide) rfl ?_
              refine z_goto (tgt := 33) C dX10_saysNumber_55 (by decide) ?_
              refine z_iload_n C 0 dX10_saysNumber_33 rfl ?_
              refine z_if_le (tgt := 58) C dX10_saysNumber_34 (by decide) (by omega) (fun h => absurd h (by omega)) (fun _ => ?_)
              refine z_aload_n C 2 dX10_saysNumber_37 rfl ?_
              refine z_bipush (z := 48) C dX10_saysNumber_38 (by decide) ?_
              refine z_iload_n C 1 dX10_saysNumber_40 rfl ?_
              refine z_iload_n C 0 dX10_saysNumber_41 rfl ?_
              refine z_idiv C dX10_saysNumber_42 (by omega) (by omega) (by omega) ?_
              obtain ⟨xy77, exy77, hxy77⟩ : ∃ x9, (vy3).tdiv 1000 = x9 ∧ (0 ≤ vy3 → 0 ≤ x9 ∧ 1000 * x9 ≤ vy3 ∧ vy3 < 1000 * x9 + 1000) ∧ (vy3 ≤ 0 → x9 ≤ 0 ∧ vy3 ≤ 1000 * x9 ∧ 1000 * x9 < vy3 + 1000) := tdk 1000 (by decide)
              rw [exy77]
              refine z_bipush (z := 10) C dX10_saysNumber_43 (by decide) ?_
              refine z_irem C dX10_saysNumber_45 (by omega) (by omega) (by omega) ?_
              refine z_iadd C dX10_saysNumber_46 ?_
              have hey79 : Fvy75 51 = F 51 + 2 := hqvy75
              refine z_cV (As := [.int (zI (48 + (xy77.tmod 10)))]) (rest := []) (ci := 12) C (c_X10_says l D A cs tt N ad _ i hN _ hcvy75 _ htvy75 (by omega) (48 + (xy77.tmod 10))) (lt_A0 hN rfl) hay1 hcvy75 rfl rfl mv_yX10_says q_1850 hd_yX10_says (by decide) (Nat.le_of_ble_eq_true rfl) (by decide) dX10_saysNumber_47 rfl (kV0 fun gvy78 hvy78 => ?_)
              obtain ⟨⟨Fvy78, hcvy78, hnvy78, hFvy78⟩, ⟨tvy78, htvy78⟩, hfvy78⟩ := hvy78
              have hovy78 : Fvy75 51 = F 51 + 2 := hqvy75
              have hqvy78 : Fvy78 51 = F 51 + 3 := by omega
              clear hnvy78 hovy78
              refine z_iload_n C 0 dX10_saysNumber_50 rfl ?_
              refine z_bipush (z := 10) C dX10_saysNumber_51 (by decide) ?_
              refine z_idiv C dX10_saysNumber_53 (by decide) (by decide) (by decide) ?_
              rw [show (1000 : Int).tdiv 10 = 100 by decide]
              refine z_istore_n (lv' := [(3, .int (zI (100))), (2, .int (zI (vy3))), (0, .ref (ad i)), (1, .int (zI (z)))]) C dX10_saysNumber_54 rfl (by decide) rfl ?_
              refine z_goto (tgt := 33) C dX10_saysNumber_55 (by decide) ?_
              refine z_iload_n C 0 dX10_saysNumber_33 rfl ?_
              refine z_if_le (tgt := 58) C dX10_saysNumber_34 (by decide) (by omega) (fun h => absurd h (by omega)) (fun _ => ?_)
              refine z_aload_n C 2 dX10_saysNumber_37 rfl ?_
              refine z_bipush (z := 48) C dX10_saysNumber_38 (by decide) ?_
              refine z_iload_n C 1 dX10_saysNumber_40 rfl ?_
              refine z_iload_n C 0 dX10_saysNumber_41 rfl ?_
              refine z_idiv C dX10_saysNumber_42 (by omega) (by omega) (by omega) ?_
              obtain ⟨xy80, exy80, hxy80⟩ : ∃ x9, (vy3).tdiv 100 = x9 ∧ (0 ≤ vy3 → 0 ≤ x9 ∧ 100 * x9 ≤ vy3 ∧ vy3 < 100 * x9 + 100) ∧ (vy3 ≤ 0 → x9 ≤ 0 ∧ vy3 ≤ 100 * x9 ∧ 100 * x9 < vy3 + 100) := tdk 100 (by decide)
              rw [exy80]
              refine z_bipush (z := 10) C dX10_saysNumber_43 (by decide) ?_
              refine z_irem C dX10_saysNumber_45 (by omega) (by omega) (by omega) ?_
              refine z_iadd C dX10_saysNumber_46 ?_
              have hey82 : Fvy78 51 = F 51 + 3 := hqvy78
              refine z_cV (As := [.int (zI (48 + (xy80.tmod 10)))]) (rest := []) (ci := 12) C (c_X10_says l D A cs tt N ad _ i hN _ hcvy78 _ htvy78 (by omega) (48 + (xy80.tmod 10))) (lt_A0 hN rfl) hay1 hcvy78 rfl rfl mv_yX10_says q_1850 hd_yX10_says (by decide) (Nat.le_of_ble_eq_true rfl) (by decide) dX10_saysNumber_47 rfl (kV0 fun gvy81 hvy81 => ?_)
              obtain ⟨⟨Fvy81, hcvy81, hnvy81, hFvy81⟩, ⟨tvy81, htvy81⟩, hfvy81⟩ := hvy81
              have hovy81 : Fvy78 51 = F 51 + 3 := hqvy78
              have hqvy81 : Fvy81 51 = F 51 + 4 := by omega
              clear hnvy81 hovy81
              refine z_iload_n C 0 dX10_saysNumber_50 rfl ?_
              refine z_bipush (z := 10) C dX10_saysNumber_51 (by decide) ?_
              refine z_idiv C dX10_saysNumber_53 (by decide) (by decide) (by decide) ?_
              rw [show (100 : Int).tdiv 10 = 10 by decide]
              refine z_istore_n (lv' := [(3, .int (zI (10))), (2, .int (zI (vy3))), (0, .ref (ad i)), (1, .int (zI (z)))]) C dX10_saysNumber_54 rfl (by decide) rfl ?_
              refine z_goto (tgt := 33) C dX10_saysNumber_55 (by decide) ?_
              refine z_iload_n C 0 dX10_saysNumber_33 rfl ?_
              refine z_if_le (tgt := 58) C dX10_saysNumber_34 (by decide) (by omega) (fun h => absurd h (by omega)) (fun _ => ?_)
              refine z_aload_n C 2 dX10_saysNumber_37 rfl ?_
              refine z_bipush (z := 48) C dX10_saysNumber_38 (by decide) ?_
              refine z_iload_n C 1 dX10_saysNumber_40 rfl ?_
              refine z_iload_n C 0 dX10_saysNumber_41 rfl ?_
              refine z_idiv C dX10_saysNumber_42 (by omega) (by omega) (by omega) ?_
              obtain ⟨xy83, exy83, hxy83⟩ : ∃ x9, (vy3).tdiv 10 = x9 ∧ (0 ≤ vy3 → 0 ≤ x9 ∧ 10 * x9 ≤ vy3 ∧ vy3 < 10 * x9 + 10) ∧ (vy3 ≤ 0 → x9 ≤ 0 ∧ vy3 ≤ 10 * x9 ∧ 10 * x9 < vy3 + 10) := tdk 10 (by decide)
              rw [exy83]
              refine z_bipush (z := 10) C dX10_saysNumber_43 (by decide) ?_
              refine z_irem C dX10_saysNumber_45 (by omega) (by omega) (by omega) ?_
              refine z_iadd C dX10_saysNumber_46 ?_
              have hey85 : Fvy81 51 = F 51 + 4 := hqvy81
              refine z_cV (As := [.int (zI (48 + (xy83.tmod 10)))]) (rest := []) (ci := 12) C (c_X10_says l D A cs tt N ad _ i hN _ hcvy81 _ htvy81 (by omega) (48 + (xy83.tmod 10))) (lt_A0 hN rfl) hay1 hcvy81 rfl rfl mv_yX10_says q_1850 hd_yX10_says (by decide) (Nat.le_of_ble_eq_true rfl) (by decide) dX10_saysNumber_47 rfl (kV0 fun gvy84 hvy84 => ?_)
              obtain ⟨⟨Fvy84, hcvy84, hnvy84, hFvy84⟩, ⟨tvy84, htvy84⟩, hfvy84⟩ := hvy84
              have hovy84 : Fvy81 51 = F 51 + 4 := hqvy81
              have hqvy84 : Fvy84 51 = F 51 + 5 := by omega
              clear hnvy84 hovy84
              refine z_iload_n C 0 dX10_saysNumber_50 rfl ?_
              refine z_bipush (z := 10) C dX10_saysNumber_51 (by decide) ?_
              refine z_idiv C dX10_saysNumber_53 (by decide) (by decide) (by decide) ?_
              rw [show (10 : Int).tdiv 10 = 1 by decide]
              refine z_istore_n (lv' := [(3, .int (zI (1))), (2, .int (zI (vy3))), (0, .ref (ad i)), (1, .int (zI (z)))]) C dX10_saysNumber_54 rfl (by decide) rfl ?_
              refine z_goto (tgt := 33) C dX10_saysNumber_55 (by decide) ?_
              refine z_iload_n C 0 dX10_saysNumber_33 rfl ?_
              refine z_if_le (tgt := 58) C dX10_saysNumber_34 (by decide) (by omega) (fun h => absurd h (by omega)) (fun _ => ?_)
              refine z_aload_n C 2 dX10_saysNumber_37 rfl ?_
              refine z_bipush (z := 48) C dX10_saysNumber_38 (by decide) ?_
              refine z_iload_n C 1 dX10_saysNumber_40 rfl ?_
              refine z_iload_n C 0 dX10_saysNumber_41 rfl ?_
              refine z_idiv C dX10_saysNumber_42 (by omega) (by omega) (by omega) ?_
              obtain ⟨xy86, exy86, hxy86⟩ : ∃ x9, (vy3).tdiv 1 = x9 ∧ (0 ≤ vy3 → 0 ≤ x9 ∧ 1 * x9 ≤ vy3 ∧ vy3 < 1 * x9 + 1) ∧ (vy3 ≤ 0 → x9 ≤ 0 ∧ vy3 ≤ 1 * x9 ∧ 1 * x9 < vy3 + 1) := tdk 1 (by decide)
              rw [exy86]
              refine z_bipush (z := 10) C dX10_saysNumber_43 (by decide) ?_
              refine z_irem C dX10_saysNumber_45 (by omega) (by omega) (by omega) ?_
              refine z_iadd C dX10_saysNumber_46 ?_
              have hey88 : Fvy84 51 = F 51 + 5 := hqvy84
              refine z_cV (As := [.int (zI (48 + (xy86.tmod 10)))]) (rest := []) (ci := 12) C (c_X10_says l D A cs tt N ad _ i hN _ hcvy84 _ htvy84 (by omega) (48 + (xy86.tmod 10))) (lt_A0 hN rfl) hay1 hcvy84 rfl rfl mv_yX10_says q_1850 hd_yX10_says (by decide) (Nat.le_of_ble_eq_true rfl) (by decide) dX10_saysNumber_47 rfl (kV0 fun gvy87 hvy87 => ?_)
              obtain ⟨⟨Fvy87, hcvy87, hnvy87, hFvy87⟩, ⟨tvy87, htvy87⟩, hfvy87⟩ := hvy87
              have hovy87 : Fvy84 51 = F 51 + 5 := hqvy84
              have hqvy87 : Fvy87 51 = F 51 + 6 := by omega
              clear hnvy87 hovy87
              refine z_iload_n C 0 dX10_saysNumber_50 rfl ?_
              refine z_bipush (z := 10) C dX10_saysNumber_51 (by decide) ?_
              refine z_idiv C dX10_saysNumber_53 (by decide) (by decide) (by decide) ?_
              rw [show (1 : Int).tdiv 10 = 0 by decide]
              refine z_istore_n (lv' := [(3, .int (zI (0))), (2, .int (zI (vy3))), (0, .ref (ad i)), (1, .int (zI (z)))]) C dX10_saysNumber_54 rfl (by decide) rfl ?_
              refine z_goto (tgt := 33) C dX10_saysNumber_55 (by decide) ?_
              refine z_iload_n C 0 dX10_saysNumber_33 rfl ?_
              refine z_if_le (tgt := 58) C dX10_saysNumber_34 (by decide) (by omega) (fun _ => ?_) (fun h => absurd h (by omega))
              have hFy89 : ∀ f, f ≠ 51 → Fvy87 f = F f := fun f n51 => ((hFvy87 f n51).trans ((hFvy84 f n51).trans ((hFvy81 f n51).trans ((hFvy78 f n51).trans ((hFvy75 f n51).trans (hFvy72 f n51))))))
              have hey90 : Fvy87 51 = F 51 + 6 := hqvy87
              exact z_vret C hr hlk dX10_saysNumber_58 (by decide) (by decide) ⟨rfl, rfl, rfl, ⟨_, hcvy87, by omega, hFy89⟩, ⟨_, htvy87⟩, fun j j1 j2 => by rw [hfvy87 _ (by omega) (by omega)]; rw [hfvy84 _ (by omega) (by omega)]; rw [hfvy81 _ (by omega) (by omega)]; rw [hfvy78 _ (by omega) (by omega)]; rw [hfvy75 _ (by omega) (by omega)]; rw [hfvy72 _ (by omega) (by omega)]⟩
            · refine z_iload_n C 0 dX10_saysNumber_25 rfl ?_
              refine z_bipush (z := 10) C dX10_saysNumber_26 (by decide) ?_
              refine z_imul C dX10_saysNumber_28 ?_
              rw [show (100000 : Int) * 10 = 1000000 by decide]
              refine z_istore_n (lv' := [(3, .int (zI (1000000))), (2, .int (zI (vy3))), (0, .ref (ad i)), (1, .int (zI (z)))]) C dX10_saysNumber_29 rfl (by decide) rfl ?_
              refine z_goto (tgt := 17) C dX10_saysNumber_30 (by decide) ?_
              refine z_iload_n C 1 dX10_saysNumber_17 rfl ?_
              refine z_iload_n C 0 dX10_saysNumber_18 rfl ?_
              refine z_idiv C dX10_saysNumber_19 (by omega) (by omega) (by omega) ?_
              obtain ⟨xy91, exy91, hxy91⟩ : ∃ x9, (vy3).tdiv 1000000 = x9 ∧ (0 ≤ vy3 → 0 ≤ x9 ∧ 1000000 * x9 ≤ vy3 ∧ vy3 < 1000000 * x9 + 1000000) ∧ (vy3 ≤ 0 → x9 ≤ 0 ∧ vy3 ≤ 1000000 * x9 ∧ 1000000 * x9 < vy3 + 1000000) := tdk 1000000 (by decide)
              rw [exy91]
              refine z_bipush (z := 9) C dX10_saysNumber_20 (by decide) ?_
              refine z_icmp_le (tgt := 33) C dX10_saysNumber_22 (by decide) (by omega) (by omega) (fun hby92 => ?_) (fun hby92 => ?_)
              · refine z_iload_n C 0 dX10_saysNumber_33 rfl ?_
                refine z_if_le (tgt := 58) C dX10_saysNumber_34 (by decide) (by omega) (fun h => absurd h (by omega)) (fun _ => ?_)
                refine z_aload_n C 2 dX10_saysNumber_37 rfl ?_
                refine z_bipush (z := 48) C dX10_saysNumber_38 (by decide) ?_
                refine z_iload_n C 1 dX10_saysNumber_40 rfl ?_
                refine z_iload_n C 0 dX10_saysNumber_41 rfl ?_
                refine z_idiv C dX10_saysNumber_42 (by omega) (by omega) (by omega) ?_
                obtain ⟨xy93, exy93, hxy93⟩ : ∃ x9, (vy3).tdiv 1000000 = x9 ∧ (0 ≤ vy3 → 0 ≤ x9 ∧ 1000000 * x9 ≤ vy3 ∧ vy3 < 1000000 * x9 + 1000000) ∧ (vy3 ≤ 0 → x9 ≤ 0 ∧ vy3 ≤ 1000000 * x9 ∧ 1000000 * x9 < vy3 + 1000000) := tdk 1000000 (by decide)
                rw [exy93]
                refine z_bipush (z := 10) C dX10_saysNumber_43 (by decide) ?_
                refine z_irem C dX10_saysNumber_45 (by omega) (by omega) (by omega) ?_
                refine z_iadd C dX10_saysNumber_46 ?_
                have hey95 : F 51 = F 51 := rfl
                refine z_cV (As := [.int (zI (48 + (xy93.tmod 10)))]) (rest := []) (ci := 12) C (c_X10_says l D A cs tt N ad _ i hN _ hg _ ha24 (by omega) (48 + (xy93.tmod 10))) (lt_A0 hN rfl) hay1 hg rfl rfl mv_yX10_says q_1850 hd_yX10_says (by decide) (Nat.le_of_ble_eq_true rfl) (by decide) dX10_saysNumber_47 rfl (kV0 fun gvy94 hvy94 => ?_)
                obtain ⟨⟨Fvy94, hcvy94, hnvy94, hFvy94⟩, ⟨tvy94, htvy94⟩, hfvy94⟩ := hvy94
                have hovy94 : F 51 = F 51 := rfl
                have hqvy94 : Fvy94 51 = F 51 + 1 := by omega
                clear hnvy94 hovy94
                refine z_iload_n C 0 dX10_saysNumber_50 rfl ?_
                refine z_bipush (z := 10) C dX10_saysNumber_51 (by decide) ?_
                refine z_idiv C dX10_saysNumber_53 (by decide) (by decide) (by decide) ?_
                rw [show (1000000 : Int).tdiv 10 = 100000 by decide]
                refine z_istore_n (lv' := [(3, .int (zI (100000))), (2, .int (zI (vy3))), (0, .ref (ad i)), (1, .int (zI (z)))]) C dX10_saysNumber_54 rfl (by decide) rfl ?_
                refine z_goto (tgt := 33) C dX10_saysNumber_55 (by decide) ?_
                refine z_iload_n C 0 dX10_saysNumber_33 rfl ?_
                refine z_if_le (tgt := 58) C dX10_saysNumber_34 (by decide) (by omega) (fun h => absurd h (by omega)) (fun _ => ?_)
                refine z_aload_n C 2 dX10_saysNumber_37 rfl ?_
                refine z_bipush (z := 48) C dX10_saysNumber_38 (by decide) ?_
                refine z_iload_n C 1 dX10_saysNumber_40 rfl ?_
                refine z_iload_n C 0 dX10_saysNumber_41 rfl ?_
                refine z_idiv C dX10_saysNumber_42 (by omega) (by omega) (by omega) ?_
                obtain ⟨xy96, exy96, hxy96⟩ : ∃ x9, (vy3).tdiv 100000 = x9 ∧ (0 ≤ vy3 → 0 ≤ x9 ∧ 100000 * x9 ≤ vy3 ∧ vy3 < 100000 * x9 + 100000) ∧ (vy3 ≤ 0 → x9 ≤ 0 ∧ vy3 ≤ 100000 * x9 ∧ 100000 * x9 < vy3 + 100000) := tdk 100000 (by decide)
                rw [exy96]
                refine z_bipush (z := 10) C dX10_saysNumber_43 (by decide) ?_
                refine z_irem C dX10_saysNumber_45 (by omega) (by omega) (by omega) ?_
                refine z_iadd C dX10_saysNumber_46 ?_
                have hey98 : Fvy94 51 = F 51 + 1 := hqvy94
                refine z_cV (As := [.int (zI (48 + (xy96.tmod 10)))]) (rest := []) (ci := 12) C (c_X10_says l D A cs tt N ad _ i hN _ hcvy94 _ htvy94 (by omega) (48 + (xy96.tmod 10))) (lt_A0 hN rfl) hay1 hcvy94 rfl rfl mv_yX10_says q_1850 hd_yX10_says (by decide) (Nat.le_of_ble_eq_true rfl) (by decide) dX10_saysNumber_47 rfl (kV0 fun gvy97 hvy97 => ?_)
                obtain ⟨⟨Fvy97, hcvy97, hnvy97, hFvy97⟩, ⟨tvy97, htvy97⟩, hfvy97⟩ := hvy97
                have hovy97 : Fvy94 51 = F 51 + 1 := hqvy94
                have hqvy97 : Fvy97 51 = F 51 + 2 := by omega
                clear hnvy97 hovy97
                refine z_iload_n C 0 dX10_saysNumber_50 rfl ?_
                refine z_bipush (z := 10) C dX10_saysNumber_51 (by decide) ?_
                refine z_idiv C dX10_saysNumber_53 (by decide) (by decide) (by decide) ?_
                rw [show (100000 : Int).tdiv 10 = 10000 by decide]
                refine z_istore_n (lv' := [(3, .int (zI (10000))), (2, .int (zI (vy3))), (0, .ref (ad i)), (1, .int (zI (z)))]) C dX10_saysNumber_54 rfl (by decide) rfl ?_
                refine z_goto (tgt := 33) C dX10_saysNumber_55 (by decide) ?_
                refine z_iload_n C 0 dX10_saysNumber_33 rfl ?_
                refine z_if_le (tgt := 58) C dX10_saysNumber_34 (by decide) (by omega) (fun h => absurd h (by omega)) (fun _ => ?_)
                refine z_aload_n C 2 dX10_saysNumber_37 rfl ?_
                refine z_bipush (z := 48) C dX10_saysNumber_38 (by decide) ?_
                refine z_iload_n C 1 dX10_saysNumber_40 rfl ?_
                refine z_iload_n C 0 dX10_saysNumber_41 rfl ?_
                refine z_idiv C dX10_saysNumber_42 (by omega) (by omega) (by omega) ?_
                obtain ⟨xy99, exy99, hxy99⟩ : ∃ x9, (vy3).tdiv 10000 = x9 ∧ (0 ≤ vy3 → 0 ≤ x9 ∧ 10000 * x9 ≤ vy3 ∧ vy3 < 10000 * x9 + 10000) ∧ (vy3 ≤ 0 → x9 ≤ 0 ∧ vy3 ≤ 10000 * x9 ∧ 10000 * x9 < vy3 + 10000) := tdk 10000 (by decide)
                rw [exy99]
                refine z_bipush (z := 10) C dX10_saysNumber_43 (by decide) ?_
                refine z_irem C dX10_saysNumber_45 (by omega) (by omega) (by omega) ?_
                refine z_iadd C dX10_saysNumber_46 ?_
                have hey101 : Fvy97 51 = F 51 + 2 := hqvy97
                refine z_cV (As := [.int (zI (48 + (xy99.tmod 10)))]) (rest := []) (ci := 12) C (c_X10_says l D A cs tt N ad _ i hN _ hcvy97 _ htvy97 (by omega) (48 + (xy99.tmod 10))) (lt_A0 hN rfl) hay1 hcvy97 rfl rfl mv_yX10_says q_1850 hd_yX10_says (by decide) (Nat.le_of_ble_eq_true rfl) (by decide) dX10_saysNumber_47 rfl (kV0 fun gvy100 hvy100 => ?_)
                obtain ⟨⟨Fvy100, hcvy100, hnvy100, hFvy100⟩, ⟨tvy100, htvy100⟩, hfvy100⟩ := hvy100
                have hovy100 : Fvy97 51 = F 51 + 2 := hqvy97
                have hqvy100 : Fvy100 51 = F 51 + 3 := by omega
                clear hnvy100 hovy100
                refine z_iload_n C 0 dX10_saysNumber_50 rfl ?_
                refine z_bipush (z := 10) C dX10_saysNumber_51 (by decide) ?_
                refine z_idiv C dX10_saysNumber_53 (by decide) (by decide) (by decide) ?_
                rw [show (10000 : Int).tdiv 10 = 1000 by decide]
                refine z_istore_n (lv' := [(3, .int (zI (1000))), (2, .int (zI (vy3))), (0, .ref (ad i)), (1, .int (zI (z)))]) C dX10_saysNumber_54 rfl (by decide) rfl ?_
                refine z_goto (tgt := 33) C dX10_saysNumber_55 (by decide) ?_
                refine z_iload_n C 0 dX10_saysNumber_33 rfl ?_
                refine z_if_le (tgt := 58) C dX10_saysNumber_34 (by decide) (by omega) (fun h => absurd h (by omega)) (fun _ => ?_)
                refine z_aload_n C 2 dX10_saysNumber_37 rfl ?_
                refine z_bipush (z := 48) C dX10_saysNumber_38 (by decide) ?_
                refine z_iload_n C 1 dX10_saysNumber_40 rfl ?_
                refine z_iload_n C 0 dX10_saysNumber_41 rfl ?_
                refine z_idiv C dX10_saysNumber_42 (by omega) (by omega) (by omega) ?_
                obtain ⟨xy102, exy102, hxy102⟩ : ∃ x9, (vy3).tdiv 1000 = x9 ∧ (0 ≤ vy3 → 0 ≤ x9 ∧ 1000 * x9 ≤ vy3 ∧ vy3 < 1000 * x9 + 1000) ∧ (vy3 ≤ 0 → x9 ≤ 0 ∧ vy3 ≤ 1000 * x9 ∧ 1000 * x9 < vy3 + 1000) := tdk 1000 (by decide)
                rw [exy102]
                refine z_bipush (z := 10) C dX10_saysNumber_43 (by decide) ?_
                refine z_irem C dX10_saysNumber_45 (by omega) (by omega) (by omega) ?_
                refine z_iadd C dX10_saysNumber_46 ?_
                have hey104 : Fvy100 51 = F 51 + 3 := hqvy100
                refine z_cV (As := [.int (zI (48 + (xy102.tmod 10)))]) (rest := []) (ci := 12) C (c_X10_says l D A cs tt N ad _ i hN _ hcvy100 _ htvy100 (by omega) (48 + (xy102.tmod 10))) (lt_A0 hN rfl) hay1 hcvy100 rfl rfl mv_yX10_says q_1850 hd_yX10_says (by decide) (Nat.le_of_ble_eq_true rfl) (by decide) dX10_saysNumber_47 rfl (kV0 fun gvy103 hvy103 => ?_)
                obtain ⟨⟨Fvy103, hcvy103, hnvy103, hFvy103⟩, ⟨tvy103, htvy103⟩, hfvy103⟩ := hvy103
                have hovy103 : Fvy100 51 = F 51 + 3 := hqvy100
                have hqvy103 : Fvy103 51 = F 51 + 4 := by omega
                clear hnvy103 hovy103
                refine z_iload_n C 0 dX10_saysNumber_50 rfl ?_
                refine z_bipush (z := 10) C dX10_saysNumber_51 (by decide) ?_
                refine z_idiv C dX10_saysNumber_53 (by decide) (by decide) (by decide) ?_
                rw [show (1000 : Int).tdiv 10 = 100 by decide]
                refine z_istore_n (lv' := [(3, .int (zI (100))), (2, .int (zI (vy3))), (0, .ref (ad i)), (1, .int (zI (z)))]) C dX10_saysNumber_54 rfl (by decide) rfl ?_
                refine z_goto (tgt := 33) C dX10_saysNumber_55 (by decide) ?_
                refine z_iload_n C 0 dX10_saysNumber_33 rfl ?_
                refine z_if_le (tgt := 58) C dX10_saysNumber_34 (by decide) (by omega) (fun h => absurd h (by omega)) (fun _ => ?_)
                refine z_aload_n C 2 dX10_saysNumber_37 rfl ?_
                refine z_bipush (z := 48) C dX10_saysNumber_38 (by decide) ?_
                refine z_iload_n C 1 dX10_saysNumber_40 rfl ?_
                refine z_iload_n C 0 dX10_saysNumber_41 rfl ?_
                refine z_idiv C dX10_saysNumber_42 (by omega) (by omega) (by omega) ?_
                obtain ⟨xy105, exy105, hxy105⟩ : ∃ x9, (vy3).tdiv 100 = x9 ∧ (0 ≤ vy3 → 0 ≤ x9 ∧ 100 * x9 ≤ vy3 ∧ vy3 < 100 * x9 + 100) ∧ (vy3 ≤ 0 → x9 ≤ 0 ∧ vy3 ≤ 100 * x9 ∧ 100 * x9 < vy3 + 100) := tdk 100 (by decide)
                rw [exy105]
                refine z_bipush (z := 10) C dX10_saysNumber_43 (by decide) ?_
                refine z_irem C dX10_saysNumber_45 (by omega) (by omega) (by omega) ?_
                refine z_iadd C dX10_saysNumber_46 ?_
                have hey107 : Fvy103 51 = F 51 + 4 := hqvy103
                refine z_cV (As := [.int (zI (48 + (xy105.tmod 10)))]) (rest := []) (ci := 12) C (c_X10_says l D A cs tt N ad _ i hN _ hcvy103 _ htvy103 (by omega) (48 + (xy105.tmod 10))) (lt_A0 hN rfl) hay1 hcvy103 rfl rfl mv_yX10_says q_1850 hd_yX10_says (by decide) (Nat.le_of_ble_eq_true rfl) (by decide) dX10_saysNumber_47 rfl (kV0 fun gvy106 hvy106 => ?_)
                obtain ⟨⟨Fvy106, hcvy106, hnvy106, hFvy106⟩, ⟨tvy106, htvy106⟩, hfvy106⟩ := hvy106
                have hovy106 : Fvy103 51 = F 51 + 4 := hqvy103
                have hqvy106 : Fvy106 51 = F 51 + 5 := by omega
                clear hnvy106 hovy106
                refine z_iload_n C 0 dX10_saysNumber_50 rfl ?_
                refine z_bipush (z := 10) C dX10_saysNumber_51 (by decide) ?_
                refine z_idiv C dX10_saysNumber_53 (by decide) (by decide) (by decide) ?_
                rw [show (100 : Int).tdiv 10 = 10 by decide]
                refine z_istore_n (lv' := [(3, .int (zI (10))), (2, .int (zI (vy3))), (0, .ref (ad i)), (1, .int (zI (z)))]) C dX10_saysNumber_54 rfl (by decide) rfl ?_
                refine z_goto (tgt := 33) C dX10_saysNumber_55 (by decide) ?_
                refine z_iload_n C 0 dX10_saysNumber_33 rfl ?_
                refine z_if_le (tgt := 58) C dX10_saysNumber_34 (by decide) (by omega) (fun h => absurd h (by omega)) (fun _ => ?_)
                refine z_aload_n C 2 dX10_saysNumber_37 rfl ?_
                refine z_bipush (z := 48) C dX10_saysNumber_38 (by decide) ?_
                refine z_iload_n C 1 dX10_saysNumber_40 rfl ?_
                refine z_iload_n C 0 dX10_saysNumber_41 rfl ?_
                refine z_idiv C dX10_saysNumber_42 (by omega) (by omega) (by omega) ?_
                obtain ⟨xy108, exy108, hxy108⟩ : ∃ x9, (vy3).tdiv 10 = x9 ∧ (0 ≤ vy3 → 0 ≤ x9 ∧ 10 * x9 ≤ vy3 ∧ vy3 < 10 * x9 + 10) ∧ (vy3 ≤ 0 → x9 ≤ 0 ∧ vy3 ≤ 10 * x9 ∧ 10 * x9 < vy3 + 10) := tdk 10 (by decide)
                rw [exy108]
                refine z_bipush (z := 10) C dX10_saysNumber_43 (by decide) ?_
                refine z_irem C dX10_saysNumber_45 (by omega) (by omega) (by omega) ?_
                refine z_iadd C dX10_saysNumber_46 ?_
                have hey110 : Fvy106 51 = F 51 + 5 := hqvy106
                refine z_cV (As := [.int (zI (48 + (xy108.tmod 10)))]) (rest := []) (ci := 12) C (c_X10_says l D A cs tt N ad _ i hN _ hcvy106 _ htvy106 (by omega) (48 + (xy108.tmod 10))) (lt_A0 hN rfl) hay1 hcvy106 rfl rfl mv_yX10_says q_1850 hd_yX10_says (by decide) (Nat.le_of_ble_eq_true rfl) (by decide) dX10_saysNumber_47 rfl (kV0 fun gvy109 hvy109 => ?_)
                obtain ⟨⟨Fvy109, hcvy109, hnvy109, hFvy109⟩, ⟨tvy109, htvy109⟩, hfvy109⟩ := hvy109
                have hovy109 : Fvy106 51 = F 51 + 5 := hqvy106
                have hqvy109 : Fvy109 51 = F 51 + 6 := by omega
                clear hnvy109 hovy109
                refine z_iload_n C 0 dX10_saysNumber_50 rfl ?_
                refine z_bipush (z := 10) C dX10_saysNumber_51 (by decide) ?_
                refine z_idiv C dX10_saysNumber_53 (by decide) (by decide) (by decide) ?_
                rw [show (10 : Int).tdiv 10 = 1 by decide]
                refine z_istore_n (lv' := [(3, .int (zI (1))), (2, .int (zI (vy3))), (0, .ref (ad i)), (1, .int (zI (z)))]) C dX10_saysNumber_54 rfl (by decide) rfl ?_
                refine z_goto (tgt := 33) C dX10_saysNumber_55 (by decide) ?_
                refine z_iload_n C 0 dX10_saysNumber_33 rfl ?_
                refine z_if_le (tgt := 58) C dX10_saysNumber_34 (by decide) (by omega) (fun h => absurd h (by omega)) (fun _ => ?_)
                refine z_aload_n C 2 dX10_saysNumber_37 rfl ?_
                refine z_bipush (z := 48) C dX10_saysNumber_38 (by decide) ?_
                refine z_iload_n C 1 dX10_saysNumber_40 rfl ?_
                refine z_iload_n C 0 dX10_saysNumber_41 rfl ?_
                refine z_idiv C dX10_saysNumber_42 (by omega) (by omega) (by omega) ?_
                obtain ⟨xy111, exy111, hxy111⟩ : ∃ x9, (vy3).tdiv 1 = x9 ∧ (0 ≤ vy3 → 0 ≤ x9 ∧ 1 * x9 ≤ vy3 ∧ vy3 < 1 * x9 + 1) ∧ (vy3 ≤ 0 → x9 ≤ 0 ∧ vy3 ≤ 1 * x9 ∧ 1 * x9 < vy3 + 1) := tdk 1 (by decide)
                rw [exy111]
                refine z_bipush (z := 10) C dX10_saysNumber_43 (by decide) ?_
                refine z_irem C dX10_saysNumber_45 (by omega) (by omega) (by omega) ?_
                refine z_iadd C dX10_saysNumber_46 ?_
                have hey113 : Fvy109 51 = F 51 + 6 := hqvy109
                refine z_cV (As := [.int (zI (48 + (xy111.tmod 10)))]) (rest := []) (ci := 12) C (c_X10_says l D A cs tt N ad _ i hN _ hcvy109 _ htvy109 (by omega) (48 + (xy111.tmod 10))) (lt_A0 hN rfl) hay1 hcvy109 rfl rfl mv_yX10_says q_1850 hd_yX10_says (by decide) (Nat.le_of_ble_eq_true rfl) (by decide) dX10_saysNumber_47 rfl (kV0 fun gvy112 hvy112 => ?_)
                obtain ⟨⟨Fvy112, hcvy112, hnvy112, hFvy112⟩, ⟨tvy112, htvy112⟩, hfvy112⟩ := hvy112
                have hovy112 : Fvy109 51 = F 51 + 6 := hqvy109
                have hqvy112 : Fvy112 51 = F 51 + 7 := by omega
                clear hnvy112 hovy112
                refine z_iload_n C 0 dX10_saysNumber_50 rfl ?_
                refine z_bipush (z := 10) C dX10_saysNumber_51 (by decide) ?_
                refine z_idiv C dX10_saysNumber_53 (by decide) (by decide) (by decide) ?_
                rw [show (1 : Int).tdiv 10 = 0 by decide]
                refine z_istore_n (lv' := [(3, .int (zI (0))), (2, .int (zI (vy3))), (0, .ref (ad i)), (1, .int (zI (z)))]) C dX10_saysNumber_54 rfl (by decide) rfl ?_
                refine z_goto (tgt := 33) C dX10_saysNumber_55 (by decide) ?_
                refine z_iload_n C 0 dX10_saysNumber_33 rfl ?_
                refine z_if_le (tgt := 58) C dX10_saysNumber_34 (by decide) (by omega) (fun _ => ?_) (fun h => absurd h (by omega))
                have hFy114 : ∀ f, f ≠ 51 → Fvy112 f = F f := fun f n51 => ((hFvy112 f n51).trans ((hFvy109 f n51).trans ((hFvy106 f n51).trans ((hFvy103 f n51).trans ((hFvy100 f n51).trans ((hFvy97 f n51).trans (hFvy94 f n51)))))))
                have hey115 : Fvy112 51 = F 51 + 7 := hqvy112
                exact z_vret C hr hlk dX10_saysNumber_58 (by decide) (by decide) ⟨rfl, rfl, rfl, ⟨_, hcvy112, by omega, hFy114⟩, ⟨_, htvy112⟩, fun j j1 j2 => by rw [hfvy112 _ (by omega) (by omega)]; rw [hfvy109 _ (by omega) (by omega)]; rw [hfvy106 _ (by omega) (by omega)]; rw [hfvy103 _ (by omega) (by omega)]; rw [hfvy100 _ (by omega) (by omega)]; rw [hfvy97 _ (by omega) (by omega)]; rw [hfvy94 _ (by omega) (by omega)]⟩
              · refine z_iload_n C 0 dX10_saysNumber_25 rfl ?_
                refine z_bipush (z := 10) C dX10_saysNumber_26 (by decide) ?_
                refine z_imul C dX10_saysNumber_28 ?_
                rw [show (1000000 : Int) * 10 = 10000000 by decide]
                refine z_istore_n (lv' := [(3, .int (zI (10000000))), (2, .int (zI (vy3))), (0, .ref (ad i)), (1, .int (zI (z)))]) C dX10_saysNumber_29 rfl (by decide) rfl ?_
                refine z_goto (tgt := 17) C dX10_saysNumber_30 (by decide) ?_
                refine z_iload_n C 1 dX10_saysNumber_17 rfl ?_
                refine z_iload_n C 0 dX10_saysNumber_18 rfl ?_
                refine z_idiv C dX10_saysNumber_19 (by omega) (by omega) (by omega) ?_
                obtain ⟨xy116, exy116, hxy116⟩ : ∃ x9, (vy3).tdiv 10000000 = x9 ∧ (0 ≤ vy3 → 0 ≤ x9 ∧ 10000000 * x9 ≤ vy3 ∧ vy3 < 10000000 * x9 + 10000000) ∧ (vy3 ≤ 0 → x9 ≤ 0 ∧ vy3 ≤ 10000000 * x9 ∧ 10000000 * x9 < vy3 + 10000000) := tdk 10000000 (by decide)
                rw [exy116]
                refine z_bipush (z := 9) C dX10_saysNumber_20 (by decide) ?_
                refine z_icmp_le (tgt := 33) C dX10_saysNumber_22 (by decide) (by omega) (by omega) (fun hby117 => ?_) (fun hby117 => ?_)
                · refine z_iload_n C 0 dX10_saysNumber_33 rfl ?_
                  refine z_if_le (tgt := 58) C dX10_saysNumber_34 (by decide) (by omega) (fun h => absurd h (by omega)) (fun _ => ?_)
                  refine z_aload_n C 2 dX10_saysNumber_37 rfl ?_
                  refine z_bipush (z := 48) C dX10_saysNumber_38 (by decide) ?_
                  refine z_iload_n C 1 dX10_saysNumber_40 rfl ?_
                  refine z_iload_n C 0 dX10_saysNumber_41 rfl ?_
                  refine z_idiv C dX10_saysNumber_42 (by omega) (by omega) (by omega) ?_
                  obtain ⟨xy118, exy118, hxy118⟩ : ∃ x9, (vy3).tdiv 10000000 = x9 ∧ (0 ≤ vy3 → 0 ≤ x9 ∧ 10000000 * x9 ≤ vy3 ∧ vy3 < 10000000 * x9 + 10000000) ∧ (vy3 ≤ 0 → x9 ≤ 0 ∧ vy3 ≤ 10000000 * x9 ∧ 10000000 * x9 < vy3 + 10000000) := tdk 10000000 (by decide)
                  rw [exy118]
                  refine z_bipush (z := 10) C dX10_saysNumber_43 (by decide) ?_
                  refine z_irem C dX10_saysNumber_45 (by omega) (by omega) (by omega) ?_
                  refine z_iadd C dX10_saysNumber_46 ?_
                  have hey120 : F 51 = F 51 := rfl
                  refine z_cV (As := [.int (zI (48 + (xy118.tmod 10)))]) (rest := []) (ci := 12) C (c_X10_says l D A cs tt N ad _ i hN _ hg _ ha24 (by omega) (48 + (xy118.tmod 10))) (lt_A0 hN rfl) hay1 hg rfl rfl mv_yX10_says q_1850 hd_yX10_says (by decide) (Nat.le_of_ble_eq_true rfl) (by decide) dX10_saysNumber_47 rfl (kV0 fun gvy119 hvy119 => ?_)
                  obtain ⟨⟨Fvy119, hcvy119, hnvy119, hFvy119⟩, ⟨tvy119, htvy119⟩, hfvy119⟩ := hvy119
                  have hovy119 : F 51 = F 51 := rfl
                  have hqvy119 : Fvy119 51 = F 51 + 1 := by omega
                  clear hnvy119 hovy119
                  refine z_iload_n C 0 dX10_saysNumber_50 rfl ?_
                  refine z_bipush (z := 10) C dX10_saysNumber_51 (by decide) ?_
                  refine z_idiv C dX10_saysNumber_53 (by decide) (by decide) (by decide) ?_
                  rw [show (10000000 : Int).tdiv 10 = 1000000 by decide]
                  refine z_istore_n (lv' := [(3, .int (zI (1000000))), (2, .int (zI (vy3))), (0, .ref (ad i)), (1, .int (zI (z)))]) C dX10_saysNumber_54 rfl (by decide) rfl ?_
                  refine z_goto (tgt := 33) C dX10_saysNumber_55 (by decide) ?_
                  refine z_iload_n C 0 dX10_saysNumber_33 rfl ?_
                  refine z_if_le (tgt := 58) C dX10_saysNumber_34 (by decide) (by omega) (fun h => absurd h (by omega)) (fun _ => ?_)
                  refine z_aload_n C 2 dX10_saysNumber_37 rfl ?_
                  refine z_bipush (z := 48) C dX10_saysNumber_38 (by decide) ?_
                  refine z_iload_n C 1 dX10_saysNumber_40 rfl ?_
                  refine z_iload_n C 0 dX10_saysNumber_41 rfl ?_
                  refine z_idiv C dX10_saysNumber_42 (by omega) (by omega) (by omega) ?_
                  obtain ⟨xy121, exy121, hxy121⟩ : ∃ x9, (vy3).tdiv 1000000 = x9 ∧ (0 ≤ vy3 → 0 ≤ x9 ∧ 1000000 * x9 ≤ vy3 ∧ vy3 < 1000000 * x9 + 1000000) ∧ (vy3 ≤ 0 → x9 ≤ 0 ∧ vy3 ≤ 1000000 * x9 ∧ 1000000 * x9 < vy3 + 1000000) := tdk 1000000 (by decide)
                  rw [exy121]
                  refine z_bipush (z := 10) C dX10_saysNumber_43 (by decide) ?_
                  refine z_irem C dX10_saysNumber_45 (by omega) (by omega) (by omega) ?_
                  refine z_iadd C dX10_saysNumber_46 ?_
                  have hey123 : Fvy119 51 = F 51 + 1 := hqvy119
                  refine z_cV (As := [.int (zI (48 + (xy121.tmod 10)))]) (rest := []) (ci := 12) C (c_X10_says l D A cs tt N ad _ i hN _ hcvy119 _ htvy119 (by omega) (48 + (xy121.tmod 10))) (lt_A0 hN rfl) hay1 hcvy119 rfl rfl mv_yX10_says q_1850 hd_yX10_says (by decide) (Nat.le_of_ble_eq_true rfl) (by decide) dX10_saysNumber_47 rfl (kV0 fun gvy122 hvy122 => ?_)
                  obtain ⟨⟨Fvy122, hcvy122, hnvy122, hFvy122⟩, ⟨tvy122, htvy122⟩, hfvy122⟩ := hvy122
                  have hovy122 : Fvy119 51 = F 51 + 1 := hqvy119
                  have hqvy122 : Fvy122 51 = F 51 + 2 := by omega
                  clear hnvy122 hovy122
                  refine z_iload_n C 0 dX10_saysNumber_50 rfl ?_
                  refine z_bipush (z := 10) C dX10_saysNumber_51 (by decide) ?_
                  refine z_idiv C dX10_saysNumber_53 (by decide) (by decide) (by decide) ?_
                  rw [show (1000000 : Int).tdiv 10 = 100000 by decide]
                  refine z_istore_n (lv' := [(3, .int (zI (100000))), (2, .int (zI (vy3))), (0, .ref (ad i)), (1, .int (zI (z)))]) C dX10_saysNumber_54 rfl (by decide) rfl ?_
                  refine z_goto (tgt := 33) C dX10_saysNumber_55 (by decide) ?_
                  refine z_iload_n C 0 dX10_saysNumber_33 rfl ?_
                  refine z_if_le (tgt := 58) C dX10_saysNumber_34 (by decide) (by omega) (fun h => absurd h (by omega)) (fun _ => ?_)
                  refine z_aload_n C 2 dX10_saysNumber_37 rfl ?_
                  refine z_bipush (z := 48) C dX10_saysNumber_38 (by decide) ?_
                  refine z_iload_n C 1 dX10_saysNumber_40 rfl ?_
                  refine z_iload_n C 0 dX10_saysNumber_41 rfl ?_
                  refine z_idiv C dX10_saysNumber_42 (by omega) (by omega) (by omega) ?_
                  obtain ⟨xy124, exy124, hxy124⟩ : ∃ x9, (vy3).tdiv 100000 = x9 ∧ (0 ≤ vy3 → 0 ≤ x9 ∧ 100000 * x9 ≤ vy3 ∧ vy3 < 100000 * x9 + 100000) ∧ (vy3 ≤ 0 → x9 ≤ 0 ∧ vy3 ≤ 100000 * x9 ∧ 100000 * x9 < vy3 + 100000) := tdk 100000 (by decide)
                  rw [exy124]
                  refine z_bipush (z := 10) C dX10_saysNumber_43 (by decide) ?_
                  refine z_irem C dX10_saysNumber_45 (by omega) (by omega) (by omega) ?_
                  refine z_iadd C dX10_saysNumber_46 ?_
                  have hey126 : Fvy122 51 = F 51 + 2 := hqvy122
                  refine z_cV (As := [.int (zI (48 + (xy124.tmod 10)))]) (rest := []) (ci := 12) C (c_X10_says l D A cs tt N ad _ i hN _ hcvy122 _ htvy122 (by omega) (48 + (xy124.tmod 10))) (lt_A0 hN rfl) hay1 hcvy122 rfl rfl mv_yX10_says q_1850 hd_yX10_says (by decide) (Nat.le_of_ble_eq_true rfl) (by decide) dX10_saysNumber_47 rfl (kV0 fun gvy125 hvy125 => ?_)
                  obtain ⟨⟨Fvy125, hcvy125, hnvy125, hFvy125⟩, ⟨tvy125, htvy125⟩, hfvy125⟩ := hvy125
                  have hovy125 : Fvy122 51 = F 51 + 2 := hqvy122
                  have hqvy125 : Fvy125 51 = F 51 + 3 := by omega
                  clear hnvy125 hovy125
                  refine z_iload_n C 0 dX10_saysNumber_50 rfl ?_
                  refine z_bipush (z := 10) C dX10_saysNumber_51 (by decide) ?_
                  refine z_idiv C dX10_saysNumber_53 (by decide) (by decide) (by decide) ?_
                  rw [show (100000 : Int).tdiv 10 = 10000 by decide]
                  refine z_istore_n (lv' := [(3, .int (zI (10000))), (2, .int (zI (vy3))), (0, .ref (ad i)), (1, .int (zI (z)))]) C dX10_saysNumber_54 rfl (by decide) rfl ?_
                  refine z_goto (tgt := 33) C dX10_saysNumber_55 (by decide) ?_
                  refine z_iload_n C 0 dX10_saysNumber_33 rfl ?_
                  refine z_if_le (tgt := 58) C dX10_saysNumber_34 (by decide) (by omega) (fun h => absurd h (by omega)) (fun _ => ?_)
                  refine z_aload_n C 2 dX10_saysNumber_37 rfl ?_
                  refine z_bipush (z := 48) C dX10_saysNumber_38 (by decide) ?_
                  refine z_iload_n C 1 dX10_saysNumber_40 rfl ?_
                  refine z_iload_n C 0 dX10_saysNumber_41 rfl ?_
                  refine z_idiv C dX10_saysNumber_42 (by omega) (by omega) (by omega) ?_
                  obtain ⟨xy127, exy127, hxy127⟩ : ∃ x9, (vy3).tdiv 10000 = x9 ∧ (0 ≤ vy3 → 0 ≤ x9 ∧ 10000 * x9 ≤ vy3 ∧ vy3 < 10000 * x9 + 10000) ∧ (vy3 ≤ 0 → x9 ≤ 0 ∧ vy3 ≤ 10000 * x9 ∧ 10000 * x9 < vy3 + 10000) := tdk 10000 (by decide)
                  rw [exy127]
                  refine z_bipush (z := 10) C dX10_saysNumber_43 (by decide) ?_
                  refine z_irem C dX10_saysNumber_45 (by omega) (by omega) (by omega) ?_
                  refine z_iadd C dX10_saysNumber_46 ?_
                  have hey129 : Fvy125 51 = F 51 + 3 := hqvy125
                  refine z_cV (As := [.int (zI (48 + (xy127.tmod 10)))]) (rest := []) (ci := 12) C (c_X10_says l D A cs tt N ad _ i hN _ hcvy125 _ htvy125 (by omega) (48 + (xy127.tmod 10))) (lt_A0 hN rfl) hay1 hcvy125 rfl rfl mv_yX10_says q_1850 hd_yX10_says (by decide) (Nat.le_of_ble_eq_true rfl) (by decide) dX10_saysNumber_47 rfl (kV0 fun gvy128 hvy128 => ?_)
                  obtain ⟨⟨Fvy128, hcvy128, hnvy128, hFvy128⟩, ⟨tvy128, htvy128⟩, hfvy128⟩ := hvy128
                  have hovy128 : Fvy125 51 = F 51 + 3 := hqvy125
                  have hqvy128 : Fvy128 51 = F 51 + 4 := by omega
                  clear hnvy128 hovy128
                  refine z_iload_n C 0 dX10_saysNumber_50 rfl ?_
                  refine z_bipush (z := 10) C dX10_saysNumber_51 (by decide) ?_
                  refine z_idiv C dX10_saysNumber_53 (by decide) (by decide) (by decide) ?_
                  rw [show (10000 : Int).tdiv 10 = 1000 by decide]
                  refine z_istore_n (lv' := [(3, .int (zI (1000))), (2, .int (zI (vy3))), (0, .ref (ad i)), (1, .int (zI (z)))]) C dX10_saysNumber_54 rfl (by decide) rfl ?_
                  refine z_goto (tgt := 33) C dX10_saysNumber_55 (by decide) ?_
                  refine z_iload_n C 0 dX10_saysNumber_33 rfl ?_
                  refine z_if_le (tgt := 58) C dX10_saysNumber_34 (by decide) (by omega) (fun h => absurd h (by omega)) (fun _ => ?_)
                  refine z_aload_n C 2 dX10_saysNumber_37 rfl ?_
                  refine z_bipush (z := 48) C dX10_saysNumber_38 (by decide) ?_
                  refine z_iload_n C 1 dX10_saysNumber_40 rfl ?_
                  refine z_iload_n C 0 dX10_saysNumber_41 rfl ?_
                  refine z_idiv C dX10_saysNumber_42 (by omega) (by omega) (by omega) ?_
                  obtain ⟨xy130, exy130, hxy130⟩ : ∃ x9, (vy3).tdiv 1000 = x9 ∧ (0 ≤ vy3 → 0 ≤ x9 ∧ 1000 * x9 ≤ vy3 ∧ vy3 < 1000 * x9 + 1000) ∧ (vy3 ≤ 0 → x9 ≤ 0 ∧ vy3 ≤ 1000 * x9 ∧ 1000 * x9 < vy3 + 1000) := tdk 1000 (by decide)
                  rw [exy130]
                  refine z_bipush (z := 10) C dX10_saysNumber_43 (by decide) ?_
                  refine z_irem C dX10_saysNumber_45 (by omega) (by omega) (by omega) ?_
                  refine z_iadd C dX10_saysNumber_46 ?_
                  have hey132 : Fvy128 51 = F 51 + 4 := hqvy128
                  refine z_cV (As := [.int (zI (48 + (xy130.tmod 10)))]) (rest := []) (ci := 12) C (c_X10_says l D A cs tt N ad _ i hN _ hcvy128 _ htvy128 (by omega) (48 + (xy130.tmod 10))) (lt_A0 hN rfl) hay1 hcvy128 rfl rfl mv_yX10_says q_1850 hd_yX10_says (by decide) (Nat.le_of_ble_eq_true rfl) (by decide) dX10_saysNumber_47 rfl (kV0 fun gvy131 hvy131 => ?_)
                  obtain ⟨⟨Fvy131, hcvy131, hnvy131, hFvy131⟩, ⟨tvy131, htvy131⟩, hfvy131⟩ := hvy131
                  have hovy131 : Fvy128 51 = F 51 + 4 := hqvy128
                  have hqvy131 : Fvy131 51 = F 51 + 5 := by omega
                  clear hnvy131 hovy131
                  refine z_iload_n C 0 dX10_saysNumber_50 rfl ?_
                  refine z_bipush (z := 10) C dX10_saysNumber_51 (by decide) ?_
                  refine z_idiv C dX10_saysNumber_53 (by decide) (by decide) (by decide) ?_
                  rw [show (1000 : Int).tdiv 10 = 100 by decide]
                  refine z_istore_n (lv' := [(3, .int (zI (100))), (2, .int (zI (vy3))), (0, .ref (ad i)), (1, .int (zI (z)))]) C dX10_saysNumber_54 rfl (by decide) rfl ?_
                  refine z_goto (tgt := 33) C dX10_saysNumber_55 (by decide) ?_
                  refine z_iload_n C 0 dX10_saysNumber_33 rfl ?_
                  refine z_if_le (tgt := 58) C dX10_saysNumber_34 (by decide) (by omega) (fun h => absurd h (by omega)) (fun _ => ?_)
                  refine z_aload_n C 2 dX10_saysNumber_37 rfl ?_
                  refine z_bipush (z := 48) C dX10_saysNumber_38 (by decide) ?_
                  refine z_iload_n C 1 dX10_saysNumber_40 rfl ?_
                  refine z_iload_n C 0 dX10_saysNumber_41 rfl ?_
                  refine z_idiv C dX10_saysNumber_42 (by omega) (by omega) (by omega) ?_
                  obtain ⟨xy133, exy133, hxy133⟩ : ∃ x9, (vy3).tdiv 100 = x9 ∧ (0 ≤ vy3 → 0 ≤ x9 ∧ 100 * x9 ≤ vy3 ∧ vy3 < 100 * x9 + 100) ∧ (vy3 ≤ 0 → x9 ≤ 0 ∧ vy3 ≤ 100 * x9 ∧ 100 * x9 < vy3 + 100) := tdk 100 (by decide)
                  rw [exy133]
                  refine z_bipush (z := 10) C dX10_saysNumber_43 (by decide) ?_
                  refine z_irem C dX10_saysNumber_45 (by omega) (by omega) (by omega) ?_
                  refine z_iadd C dX10_saysNumber_46 ?_
                  have hey135 : Fvy131 51 = F 51 + 5 := hqvy131
                  refine z_cV (As := [.int (zI (48 + (xy133.tmod 10)))]) (rest := []) (ci := 12) C (c_X10_says l D A cs tt N ad _ i hN _ hcvy131 _ htvy131 (by omega) (48 + (xy133.tmod 10))) (lt_A0 hN rfl) hay1 hcvy131 rfl rfl mv_yX10_says q_1850 hd_yX10_says (by decide) (Nat.le_of_ble_eq_true rfl) (by decide) dX10_saysNumber_47 rfl (kV0 fun gvy134 hvy134 => ?_)
                  obtain ⟨⟨Fvy134, hcvy134, hnvy134, hFvy134⟩, ⟨tvy134, htvy134⟩, hfvy134⟩ := hvy134
                  have hovy134 : Fvy131 51 = F 51 + 5 := hqvy131
                  have hqvy134 : Fvy134 51 = F 51 + 6 := by omega
                  clear hnvy134 hovy134
                  refine z_iload_n C 0 dX10_saysNumber_50 rfl ?_
                  refine z_bipush (z := 10) C dX10_saysNumber_51 (by decide) ?_
                  refine z_idiv C dX10_saysNumber_53 (by decide) (by decide) (by decide) ?_
                  rw [show (100 : Int).tdiv 10 = 10 by decide]
                  refine z_istore_n (lv' := [(3, .int (zI (10))), (2, .int (zI (vy3))), (0, .ref (ad i)), (1, .int (zI (z)))]) C dX10_saysNumber_54 rfl (by decide) rfl ?_
                  refine z_goto (tgt := 33) C dX10_saysNumber_55 (by decide) ?_
                  refine z_iload_n C 0 dX10_saysNumber_33 rfl ?_
                  refine z_if_le (tgt := 58) C dX10_saysNumber_34 (by decide) (by omega) (fun h => absurd h (by omega)) (fun _ => ?_)
                  refine z_aload_n C 2 dX10_saysNumber_37 rfl ?_
                  refine z_bipush (z := 48) C dX10_saysNumber_38 (by decide) ?_
                  refine z_iload_n C 1 dX10_saysNumber_40 rfl ?_
                  refine z_iload_n C 0 dX10_saysNumber_41 rfl ?_
                  refine z_idiv C dX10_saysNumber_42 (by omega) (by omega) (by omega) ?_
                  obtain ⟨xy136, exy136, hxy136⟩ : ∃ x9, (vy3).tdiv 10 = x9 ∧ (0 ≤ vy3 → 0 ≤ x9 ∧ 10 * x9 ≤ vy3 ∧ vy3 < 10 * x9 + 10) ∧ (vy3 ≤ 0 → x9 ≤ 0 ∧ vy3 ≤ 10 * x9 ∧ 10 * x9 < vy3 + 10) := tdk 10 (by decide)
                  rw [exy136]
                  refine z_bipush (z := 10) C dX10_saysNumber_43 (by decide) ?_
                  refine z_irem C dX10_saysNumber_45 (by omega) (by omega) (by omega) ?_
                  refine z_iadd C dX10_saysNumber_46 ?_
                  have hey138 : Fvy134 51 = F 51 + 6 := hqvy134
                  refine z_cV (As := [.int (zI (48 + (xy136.tmod 10)))]) (rest := []) (ci := 12) C (c_X10_says l D A cs tt N ad _ i hN _ hcvy134 _ htvy134 (by omega) (48 + (xy136.tmod 10))) (lt_A0 hN rfl) hay1 hcvy134 rfl rfl mv_yX10_says q_1850 hd_yX10_says (by decide) (Nat.le_of_ble_eq_true rfl) (by decide) dX10_saysNumber_47 rfl (kV0 fun gvy137 hvy137 => ?_)
                  obtain ⟨⟨Fvy137, hcvy137, hnvy137, hFvy137⟩, ⟨tvy137, htvy137⟩, hfvy137⟩ := hvy137
                  have hovy137 : Fvy134 51 = F 51 + 6 := hqvy134
                  have hqvy137 : Fvy137 51 = F 51 + 7 := by omega
                  clear hnvy137 hovy137
                  refine z_iload_n C 0 dX10_saysNumber_50 rfl ?_
                  refine z_bipush (z := 10) C dX10_saysNumber_51 (by decide) ?_
                  refine z_idiv C dX10_saysNumber_53 (by decide) (by decide) (by decide) ?_
                  rw [show (10 : Int).tdiv 10 = 1 by decide]
                  refine z_istore_n (lv' := [(3, .int (zI (1))), (2, .int (zI (vy3))), (0, .ref (ad i)), (1, .int (zI (z)))]) C dX10_saysNumber_54 rfl (by decide) rfl ?_
                  refine z_goto (tgt := 33) C dX10_saysNumber_55 (by decide) ?_
                  refine z_iload_n C 0 dX10_saysNumber_33 rfl ?_
                  refine z_if_le (tgt := 58) C dX10_saysNumber_34 (by decide) (by omega) (fun h => absurd h (by omega)) (fun _ => ?_)
                  refine z_aload_n C 2 dX10_saysNumber_37 rfl ?_
                  refine z_bipush (z := 48) C dX10_saysNumber_38 (by decide) ?_
                  refine z_iload_n C 1 dX10_saysNumber_40 rfl ?_
                  refine z_iload_n C 0 dX10_saysNumber_41 rfl ?_
                  refine z_idiv C dX10_saysNumber_42 (by omega) (by omega) (by omega) ?_
                  obtain ⟨xy139, exy139, hxy139⟩ : ∃ x9, (vy3).tdiv 1 = x9 ∧ (0 ≤ vy3 → 0 ≤ x9 ∧ 1 * x9 ≤ vy3 ∧ vy3 < 1 * x9 + 1) ∧ (vy3 ≤ 0 → x9 ≤ 0 ∧ vy3 ≤ 1 * x9 ∧ 1 * x9 < vy3 + 1) := tdk 1 (by decide)
                  rw [exy139]
                  refine z_bipush (z := 10) C dX10_saysNumber_43 (by decide) ?_
                  refine z_irem C dX10_saysNumber_45 (by omega) (by omega) (by omega) ?_
                  refine z_iadd C dX10_saysNumber_46 ?_
                  have hey141 : Fvy137 51 = F 51 + 7 := hqvy137
                  refine z_cV (As := [.int (zI (48 + (xy139.tmod 10)))]) (rest := []) (ci := 12) C (c_X10_says l D A cs tt N ad _ i hN _ hcvy137 _ htvy137 (by omega) (48 + (xy139.tmod 10))) (lt_A0 hN rfl) hay1 hcvy137 rfl rfl mv_yX10_says q_1850 hd_yX10_says (by decide) (Nat.le_of_ble_eq_true rfl) (by decide) dX10_saysNumber_47 rfl (kV0 fun gvy140 hvy140 => ?_)
                  obtain ⟨⟨Fvy140, hcvy140, hnvy140, hFvy140⟩, ⟨tvy140, htvy140⟩, hfvy140⟩ := hvy140
                  have hovy140 : Fvy137 51 = F 51 + 7 := hqvy137
                  have hqvy140 : Fvy140 51 = F 51 + 8 := by omega
                  clear hnvy140 hovy140
                  refine z_iload_n C 0 dX10_saysNumber_50 rfl ?_
                  refine z_bipush (z := 10) C dX10_saysNumber_51 (by decide) ?_
                  refine z_idiv C dX10_saysNumber_53 (by decide) (by decide) (by decide) ?_
                  rw [show (1 : Int).tdiv 10 = 0 by decide]
                  refine z_istore_n (lv' := [(3, .int (zI (0))), (2, .int (zI (vy3))), (0, .ref (ad i)), (1, .int (zI (z)))]) C dX10_saysNumber_54 rfl (by decide) rfl ?_
                  refine z_goto (tgt := 33) C dX10_saysNumber_55 (by decide) ?_
                  refine z_iload_n C 0 dX10_saysNumber_33 rfl ?_
                  refine z_if_le (tgt := 58) C dX10_saysNumber_34 (by decide) (by omega) (fun _ => ?_) (fun h => absurd h (by omega))
                  have hFy142 : ∀ f, f ≠ 51 → Fvy140 f = F f := fun f n51 => ((hFvy140 f n51).trans ((hFvy137 f n51).trans ((hFvy134 f n51).trans ((hFvy131 f n51).trans ((hFvy128 f n51).trans ((hFvy125 f n51).trans ((hFvy122 f n51).trans (hFvy119 f n51))))))))
                  have hey143 : Fvy140 51 = F 51 + 8 := hqvy140
                  exact z_vret C hr hlk dX10_saysNumber_58 (by decide) (by decide) ⟨rfl, rfl, rfl, ⟨_, hcvy140, by omega, hFy142⟩, ⟨_, htvy140⟩, fun j j1 j2 => by rw [hfvy140 _ (by omega) (by omega)]; rw [hfvy137 _ (by omega) (by omega)]; rw [hfvy134 _ (by omega) (by omega)]; rw [hfvy131 _ (by omega) (by omega)]; rw [hfvy128 _ (by omega) (by omega)]; rw [hfvy125 _ (by omega) (by omega)]; rw [hfvy122 _ (by omega) (by omega)]; rw [hfvy119 _ (by omega) (by omega)]⟩
                · refine z_iload_n C 0 dX10_saysNumber_25 rfl ?_
                  refine z_bipush (z := 10) C dX10_saysNumber_26 (by decide) ?_
                  refine z_imul C dX10_saysNumber_28 ?_
                  rw [show (10000000 : Int) * 10 = 100000000 by decide]
                  refine z_istore_n (lv' := [(3, .int (zI (100000000))), (2, .int (zI (vy3))), (0, .ref (ad i)), (1, .int (zI (z)))]) C dX10_saysNumber_29 rfl (by decide) rfl ?_
                  refine z_goto (tgt := 17) C dX10_saysNumber_30 (by decide) ?_
                  refine z_iload_n C 1 dX10_saysNumber_17 rfl ?_
                  refine z_iload_n C 0 dX10_saysNumber_18 rfl ?_
                  refine z_idiv C dX10_saysNumber_19 (by omega) (by omega) (by omega) ?_
                  obtain ⟨xy144, exy144, hxy144⟩ : ∃ x9, (vy3).tdiv 100000000 = x9 ∧ (0 ≤ vy3 → 0 ≤ x9 ∧ 100000000 * x9 ≤ vy3 ∧ vy3 < 100000000 * x9 + 100000000) ∧ (vy3 ≤ 0 → x9 ≤ 0 ∧ vy3 ≤ 100000000 * x9 ∧ 100000000 * x9 < vy3 + 100000000) := tdk 100000000 (by decide)
                  rw [exy144]
                  refine z_bipush (z := 9) C dX10_saysNumber_20 (by decide) ?_
                  refine z_icmp_le (tgt := 33) C dX10_saysNumber_22 (by decide) (by omega) (by omega) (fun _ => ?_) (fun h => absurd h (by omega))
                  refine z_iload_n C 0 dX10_saysNumber_33 rfl ?_
                  refine z_if_le (tgt := 58) C dX10_saysNumber_34 (by decide) (by omega) (fun h => absurd h (by omega)) (fun _ => ?_)
                  refine z_aload_n C 2 dX10_saysNumber_37 rfl ?_
                  refine z_bipush (z := 48) C dX10_saysNumber_38 (by decide) ?_
                  refine z_iload_n C 1 dX10_saysNumber_40 rfl ?_
                  refine z_iload_n C 0 dX10_saysNumber_41 rfl ?_
                  refine z_idiv C dX10_saysNumber_42 (by omega) (by omega) (by omega) ?_
                  obtain ⟨xy145, exy145, hxy145⟩ : ∃ x9, (vy3).tdiv 100000000 = x9 ∧ (0 ≤ vy3 → 0 ≤ x9 ∧ 100000000 * x9 ≤ vy3 ∧ vy3 < 100000000 * x9 + 100000000) ∧ (vy3 ≤ 0 → x9 ≤ 0 ∧ vy3 ≤ 100000000 * x9 ∧ 100000000 * x9 < vy3 + 100000000) := tdk 100000000 (by decide)
                  rw [exy145]
                  refine z_bipush (z := 10) C dX10_saysNumber_43 (by decide) ?_
                  refine z_irem C dX10_saysNumber_45 (by omega) (by omega) (by omega) ?_
                  refine z_iadd C dX10_saysNumber_46 ?_
                  have hey147 : F 51 = F 51 := rfl
                  refine z_cV (As := [.int (zI (48 + (xy145.tmod 10)))]) (rest := []) (ci := 12) C (c_X10_says l D A cs tt N ad _ i hN _ hg _ ha24 (by omega) (48 + (xy145.tmod 10))) (lt_A0 hN rfl) hay1 hg rfl rfl mv_yX10_says q_1850 hd_yX10_says (by decide) (Nat.le_of_ble_eq_true rfl) (by decide) dX10_saysNumber_47 rfl (kV0 fun gvy146 hvy146 => ?_)
                  obtain ⟨⟨Fvy146, hcvy146, hnvy146, hFvy146⟩, ⟨tvy146, htvy146⟩, hfvy146⟩ := hvy146
                  have hovy146 : F 51 = F 51 := rfl
                  have hqvy146 : Fvy146 51 = F 51 + 1 := by omega
                  clear hnvy146 hovy146
                  refine z_iload_n C 0 dX10_saysNumber_50 rfl ?_
                  refine z_bipush (z := 10) C dX10_saysNumber_51 (by decide) ?_
                  refine z_idiv C dX10_saysNumber_53 (by decide) (by decide) (by decide) ?_
                  rw [show (100000000 : Int).tdiv 10 = 10000000 by decide]
                  refine z_istore_n (lv' := [(3, .int (zI (10000000))), (2, .int (zI (vy3))), (0, .ref (ad i)), (1, .int (zI (z)))]) C dX10_saysNumber_54 rfl (by decide) rfl ?_
                  refine z_goto (tgt := 33) C dX10_saysNumber_55 (by decide) ?_
                  refine z_iload_n C 0 dX10_saysNumber_33 rfl ?_
                  refine z_if_le (tgt := 58) C dX10_saysNumber_34 (by decide) (by omega) (fun h => absurd h (by omega)) (fun _ => ?_)
                  refine z_aload_n C 2 dX10_saysNumber_37 rfl ?_
                  refine z_bipush (z := 48) C dX10_saysNumber_38 (by decide) ?_
                  refine z_iload_n C 1 dX10_saysNumber_40 rfl ?_
                  refine z_iload_n C 0 dX10_saysNumber_41 rfl ?_
                  refine z_idiv C dX10_saysNumber_42 (by omega) (by omega) (by omega) ?_
                  obtain ⟨xy148, exy148, hxy148⟩ : ∃ x9, (vy3).tdiv 10000000 = x9 ∧ (0 ≤ vy3 → 0 ≤ x9 ∧ 10000000 * x9 ≤ vy3 ∧ vy3 < 10000000 * x9 + 10000000) ∧ (vy3 ≤ 0 → x9 ≤ 0 ∧ vy3 ≤ 10000000 * x9 ∧ 10000000 * x9 < vy3 + 10000000) := tdk 10000000 (by decide)
                  rw [exy148]
                  refine z_bipush (z := 10) C dX10_saysNumber_43 (by decide) ?_
                  refine z_irem C dX10_saysNumber_45 (by omega) (by omega) (by omega) ?_
                  refine z_iadd C dX10_saysNumber_46 ?_
                  have hey150 : Fvy146 51 = F 51 + 1 := hqvy146
                  refine z_cV (As := [.int (zI (48 + (xy148.tmod 10)))]) (rest := []) (ci := 12) C (c_X10_says l D A cs tt N ad _ i hN _ hcvy146 _ htvy146 (by omega) (48 + (xy148.tmod 10))) (lt_A0 hN rfl) hay1 hcvy146 rfl rfl mv_yX10_says q_1850 hd_yX10_says (by decide) (Nat.le_of_ble_eq_true rfl) (by decide) dX10_saysNumber_47 rfl (kV0 fun gvy149 hvy149 => ?_)
                  obtain ⟨⟨Fvy149, hcvy149, hnvy149, hFvy149⟩, ⟨tvy149, htvy149⟩, hfvy149⟩ := hvy149
                  have hovy149 : Fvy146 51 = F 51 + 1 := hqvy146
                  have hqvy149 : Fvy149 51 = F 51 + 2 := by omega
                  clear hnvy149 hovy149
                  refine z_iload_n C 0 dX10_saysNumber_50 rfl ?_
                  refine z_bipush (z := 10) C dX10_saysNumber_51 (by decide) ?_
                  refine z_idiv C dX10_saysNumber_53 (by decide) (by decide) (by decide) ?_
                  rw [show (10000000 : Int).tdiv 10 = 1000000 by decide]
                  refine z_istore_n (lv' := [(3, .int (zI (1000000))), (2, .int (zI (vy3))), (0, .ref (ad i)), (1, .int (zI (z)))]) C dX10_saysNumber_54 rfl (by decide) rfl ?_
                  refine z_goto (tgt := 33) C dX10_saysNumber_55 (by decide) ?_
                  refine z_iload_n C 0 dX10_saysNumber_33 rfl ?_
                  refine z_if_le (tgt := 58) C dX10_saysNumber_34 (by decide) (by omega) (fun h => absurd h (by omega)) (fun _ => ?_)
                  refine z_aload_n C 2 dX10_saysNumber_37 rfl ?_
                  refine z_bipush (z := 48) C dX10_saysNumber_38 (by decide) ?_
                  refine z_iload_n C 1 dX10_saysNumber_40 rfl ?_
                  refine z_iload_n C 0 dX10_saysNumber_41 rfl ?_
                  refine z_idiv C dX10_saysNumber_42 (by omega) (by omega) (by omega) ?_
                  obtain ⟨xy151, exy151, hxy151⟩ : ∃ x9, (vy3).tdiv 1000000 = x9 ∧ (0 ≤ vy3 → 0 ≤ x9 ∧ 1000000 * x9 ≤ vy3 ∧ vy3 < 1000000 * x9 + 1000000) ∧ (vy3 ≤ 0 → x9 ≤ 0 ∧ vy3 ≤ 1000000 * x9 ∧ 1000000 * x9 < vy3 + 1000000) := tdk 1000000 (by decide)
                  rw [exy151]
                  refine z_bipush (z := 10) C dX10_saysNumber_43 (by decide) ?_
                  refine z_irem C dX10_saysNumber_45 (by omega) (by omega) (by omega) ?_
                  refine z_iadd C dX10_saysNumber_46 ?_
                  have hey153 : Fvy149 51 = F 51 + 2 := hqvy149
                  refine z_cV (As := [.int (zI (48 + (xy151.tmod 10)))]) (rest := []) (ci := 12) C (c_X10_says l D A cs tt N ad _ i hN _ hcvy149 _ htvy149 (by omega) (48 + (xy151.tmod 10))) (lt_A0 hN rfl) hay1 hcvy149 rfl rfl mv_yX10_says q_1850 hd_yX10_says (by decide) (Nat.le_of_ble_eq_true rfl) (by decide) dX10_saysNumber_47 rfl (kV0 fun gvy152 hvy152 => ?_)
                  obtain ⟨⟨Fvy152, hcvy152, hnvy152, hFvy152⟩, ⟨tvy152, htvy152⟩, hfvy152⟩ := hvy152
                  have hovy152 : Fvy149 51 = F 51 + 2 := hqvy149
                  have hqvy152 : Fvy152 51 = F 51 + 3 := by omega
                  clear hnvy152 hovy152
                  refine z_iload_n C 0 dX10_saysNumber_50 rfl ?_
                  refine z_bipush (z := 10) C dX10_saysNumber_51 (by decide) ?_
                  refine z_idiv C dX10_saysNumber_53 (by decide) (by decide) (by decide) ?_
                  rw [show (1000000 : Int).tdiv 10 = 100000 by decide]
                  refine z_istore_n (lv' := [(3, .int (zI (100000))), (2, .int (zI (vy3))), (0, .ref (ad i)), (1, .int (zI (z)))]) C dX10_saysNumber_54 rfl (by decide) rfl ?_
                  refine z_goto (tgt := 33) C dX10_saysNumber_55 (by decide) ?_
                  refine z_iload_n C 0 dX10_saysNumber_33 rfl ?_
                  refine z_if_le (tgt := 58) C dX10_saysNumber_34 (by decide) (by omega) (fun h => absurd h (by omega)) (fun _ => ?_)
                  refine z_aload_n C 2 dX10_saysNumber_37 rfl ?_
                  refine z_bipush (z := 48) C dX10_saysNumber_38 (by decide) ?_
                  refine z_iload_n C 1 dX10_saysNumber_40 rfl ?_
                  refine z_iload_n C 0 dX10_saysNumber_41 rfl ?_
                  refine z_idiv C dX10_saysNumber_42 (by omega) (by omega) (by omega) ?_
                  obtain ⟨xy154, exy154, hxy154⟩ : ∃ x9, (vy3).tdiv 100000 = x9 ∧ (0 ≤ vy3 → 0 ≤ x9 ∧ 100000 * x9 ≤ vy3 ∧ vy3 < 100000 * x9 + 100000) ∧ (vy3 ≤ 0 → x9 ≤ 0 ∧ vy3 ≤ 100000 * x9 ∧ 100000 * x9 < vy3 + 100000) := tdk 100000 (by decide)
                  rw [exy154]
                  refine z_bipush (z := 10) C dX10_saysNumber_43 (by decide) ?_
                  refine z_irem C dX10_saysNumber_45 (by omega) (by omega) (by omega) ?_
                  refine z_iadd C dX10_saysNumber_46 ?_
                  have hey156 : Fvy152 51 = F 51 + 3 := hqvy152
                  refine z_cV (As := [.int (zI (48 + (xy154.tmod 10)))]) (rest := []) (ci := 12) C (c_X10_says l D A cs tt N ad _ i hN _ hcvy152 _ htvy152 (by omega) (48 + (xy154.tmod 10))) (lt_A0 hN rfl) hay1 hcvy152 rfl rfl mv_yX10_says q_1850 hd_yX10_says (by decide) (Nat.le_of_ble_eq_true rfl) (by decide) dX10_saysNumber_47 rfl (kV0 fun gvy155 hvy155 => ?_)
                  obtain ⟨⟨Fvy155, hcvy155, hnvy155, hFvy155⟩, ⟨tvy155, htvy155⟩, hfvy155⟩ := hvy155
                  have hovy155 : Fvy152 51 = F 51 + 3 := hqvy152
                  have hqvy155 : Fvy155 51 = F 51 + 4 := by omega
                  clear hnvy155 hovy155
                  refine z_iload_n C 0 dX10_saysNumber_50 rfl ?_
                  refine z_bipush (z := 10) C dX10_saysNumber_51 (by decide) ?_
                  refine z_idiv C dX10_saysNumber_53 (by decide) (by decide) (by decide) ?_
                  rw [show (100000 : Int).tdiv 10 = 10000 by decide]
                  refine z_istore_n (lv' := [(3, .int (zI (10000))), (2, .int (zI (vy3))), (0, .ref (ad i)), (1, .int (zI (z)))]) C dX10_saysNumber_54 rfl (by decide) rfl ?_
                  refine z_goto (tgt := 33) C dX10_saysNumber_55 (by decide) ?_
                  refine z_iload_n C 0 dX10_saysNumber_33 rfl ?_
                  refine z_if_le (tgt := 58) C dX10_saysNumber_34 (by decide) (by omega) (fun h => absurd h (by omega)) (fun _ => ?_)
                  refine z_aload_n C 2 dX10_saysNumber_37 rfl ?_
                  refine z_bipush (z := 48) C dX10_saysNumber_38 (by decide) ?_
                  refine z_iload_n C 1 dX10_saysNumber_40 rfl ?_
                  refine z_iload_n C 0 dX10_saysNumber_41 rfl ?_
                  refine z_idiv C dX10_saysNumber_42 (by omega) (by omega) (by omega) ?_
                  obtain ⟨xy157, exy157, hxy157⟩ : ∃ x9, (vy3).tdiv 10000 = x9 ∧ (0 ≤ vy3 → 0 ≤ x9 ∧ 10000 * x9 ≤ vy3 ∧ vy3 < 10000 * x9 + 10000) ∧ (vy3 ≤ 0 → x9 ≤ 0 ∧ vy3 ≤ 10000 * x9 ∧ 10000 * x9 < vy3 + 10000) := tdk 10000 (by decide)
                  rw [exy157]
                  refine z_bipush (z := 10) C dX10_saysNumber_43 (by decide) ?_
                  refine z_irem C dX10_saysNumber_45 (by omega) (by omega) (by omega) ?_
                  refine z_iadd C dX10_saysNumber_46 ?_
                  have hey159 : Fvy155 51 = F 51 + 4 := hqvy155
                  refine z_cV (As := [.int (zI (48 + (xy157.tmod 10)))]) (rest := []) (ci := 12) C (c_X10_says l D A cs tt N ad _ i hN _ hcvy155 _ htvy155 (by omega) (48 + (xy157.tmod 10))) (lt_A0 hN rfl) hay1 hcvy155 rfl rfl mv_yX10_says q_1850 hd_yX10_says (by decide) (Nat.le_of_ble_eq_true rfl) (by decide) dX10_saysNumber_47 rfl (kV0 fun gvy158 hvy158 => ?_)
                  obtain ⟨⟨Fvy158, hcvy158, hnvy158, hFvy158⟩, ⟨tvy158, htvy158⟩, hfvy158⟩ := hvy158
                  have hovy158 : Fvy155 51 = F 51 + 4 := hqvy155
                  have hqvy158 : Fvy158 51 = F 51 + 5 := by omega
                  clear hnvy158 hovy158
                  refine z_iload_n C 0 dX10_saysNumber_50 rfl ?_
                  refine z_bipush (z := 10) C dX10_saysNumber_51 (by decide) ?_
                  refine z_idiv C dX10_saysNumber_53 (by decide) (by decide) (by decide) ?_
                  rw [show (10000 : Int).tdiv 10 = 1000 by decide]
                  refine z_istore_n (lv' := [(3, .int (zI (1000))), (2, .int (zI (vy3))), (0, .ref (ad i)), (1, .int (zI (z)))]) C dX10_saysNumber_54 rfl (by decide) rfl ?_
                  refine z_goto (tgt := 33) C dX10_saysNumber_55 (by decide) ?_
                  refine z_iload_n C 0 dX10_saysNumber_33 rfl ?_
                  refine z_if_le (tgt := 58) C dX10_saysNumber_34 (by decide) (by omega) (fun h => absurd h (by omega)) (fun _ => ?_)
                  refine z_aload_n C 2 dX10_saysNumber_37 rfl ?_
                  refine z_bipush (z := 48) C dX10_saysNumber_38 (by decide) ?_
                  refine z_iload_n C 1 dX10_saysNumber_40 rfl ?_
                  refine z_iload_n C 0 dX10_saysNumber_41 rfl ?_
                  refine z_idiv C dX10_saysNumber_42 (by omega) (by omega) (by omega) ?_
                  obtain ⟨xy160, exy160, hxy160⟩ : ∃ x9, (vy3).tdiv 1000 = x9 ∧ (0 ≤ vy3 → 0 ≤ x9 ∧ 1000 * x9 ≤ vy3 ∧ vy3 < 1000 * x9 + 1000) ∧ (vy3 ≤ 0 → x9 ≤ 0 ∧ vy3 ≤ 1000 * x9 ∧ 1000 * x9 < vy3 + 1000) := tdk 1000 (by decide)
                  rw [exy160]
                  refine z_bipush (z := 10) C dX10_saysNumber_43 (by decide) ?_
                  refine z_irem C dX10_saysNumber_45 (by omega) (by omega) (by omega) ?_
                  refine z_iadd C dX10_saysNumber_46 ?_
                  have hey162 : Fvy158 51 = F 51 + 5 := hqvy158
                  refine z_cV (As := [.int (zI (48 + (xy160.tmod 10)))]) (rest := []) (ci := 12) C (c_X10_says l D A cs tt N ad _ i hN _ hcvy158 _ htvy158 (by omega) (48 + (xy160.tmod 10))) (lt_A0 hN rfl) hay1 hcvy158 rfl rfl mv_yX10_says q_1850 hd_yX10_says (by decide) (Nat.le_of_ble_eq_true rfl) (by decide) dX10_saysNumber_47 rfl (kV0 fun gvy161 hvy161 => ?_)
                  obtain ⟨⟨Fvy161, hcvy161, hnvy161, hFvy161⟩, ⟨tvy161, htvy161⟩, hfvy161⟩ := hvy161
                  have hovy161 : Fvy158 51 = F 51 + 5 := hqvy158
                  have hqvy161 : Fvy161 51 = F 51 + 6 := by omega
                  clear hnvy161 hovy161
                  refine z_iload_n C 0 dX10_saysNumber_50 rfl ?_
                  refine z_bipush (z := 10) C dX10_saysNumber_51 (by decide) ?_
                  refine z_idiv C dX10_saysNumber_53 (by decide) (by decide) (by decide) ?_
                  rw [show (1000 : Int).tdiv 10 = 100 by decide]
                  refine z_istore_n (lv' := [(3, .int (zI (100))), (2, .int (zI (vy3))), (0, .ref (ad i)), (1, .int (zI (z)))]) C dX10_saysNumber_54 rfl (by decide) rfl ?_
                  refine z_goto (tgt := 33) C dX10_saysNumber_55 (by decide) ?_
                  refine z_iload_n C 0 dX10_saysNumber_33 rfl ?_
                  refine z_if_le (tgt := 58) C dX10_saysNumber_34 (by decide) (by omega) (fun h => absurd h (by omega)) (fun _ => ?_)
                  refine z_aload_n C 2 dX10_saysNumber_37 rfl ?_
                  refine z_bipush (z := 48) C dX10_saysNumber_38 (by decide) ?_
                  refine z_iload_n C 1 dX10_saysNumber_40 rfl ?_
                  refine z_iload_n C 0 dX10_saysNumber_41 rfl ?_
                  refine z_idiv C dX10_saysNumber_42 (by omega) (by omega) (by omega) ?_
                  obtain ⟨xy163, exy163, hxy163⟩ : ∃ x9, (vy3).tdiv 100 = x9 ∧ (0 ≤ vy3 → 0 ≤ x9 ∧ 100 * x9 ≤ vy3 ∧ vy3 < 100 * x9 + 100) ∧ (vy3 ≤ 0 → x9 ≤ 0 ∧ vy3 ≤ 100 * x9 ∧ 100 * x9 < vy3 + 100) := tdk 100 (by decide)
                  rw [exy163]
                  refine z_bipush (z := 10) C dX10_saysNumber_43 (by decide) ?_
                  refine z_irem C dX10_saysNumber_45 (by omega) (by omega) (by omega) ?_
                  refine z_iadd C dX10_saysNumber_46 ?_
                  have hey165 : Fvy161 51 = F 51 + 6 := hqvy161
                  refine z_cV (As := [.int (zI (48 + (xy163.tmod 10)))]) (rest := []) (ci := 12) C (c_X10_says l D A cs tt N ad _ i hN _ hcvy161 _ htvy161 (by omega) (48 + (xy163.tmod 10))) (lt_A0 hN rfl) hay1 hcvy161 rfl rfl mv_yX10_says q_1850 hd_yX10_says (by decide) (Nat.le_of_ble_eq_true rfl) (by decide) dX10_saysNumber_47 rfl (kV0 fun gvy164 hvy164 => ?_)
                  obtain ⟨⟨Fvy164, hcvy164, hnvy164, hFvy164⟩, ⟨tvy164, htvy164⟩, hfvy164⟩ := hvy164
                  have hovy164 : Fvy161 51 = F 51 + 6 := hqvy161
                  have hqvy164 : Fvy164 51 = F 51 + 7 := by omega
                  clear hnvy164 hovy164
                  refine z_iload_n C 0 dX10_saysNumber_50 rfl ?_
                  refine z_bipush (z := 10) C dX10_saysNumber_51 (by decide) ?_
                  refine z_idiv C dX10_saysNumber_53 (by decide) (by decide) (by decide) ?_
                  rw [show (100 : Int).tdiv 10 = 10 by decide]
                  refine z_istore_n (lv' := [(3, .int (zI (10))), (2, .int (zI (vy3))), (0, .ref (ad i)), (1, .int (zI (z)))]) C dX10_saysNumber_54 rfl (by decide) rfl ?_
                  refine z_goto (tgt := 33) C dX10_saysNumber_55 (by decide) ?_
                  refine z_iload_n C 0 dX10_saysNumber_33 rfl ?_
                  refine z_if_le (tgt := 58) C dX10_saysNumber_34 (by decide) (by omega) (fun h => absurd h (by omega)) (fun _ => ?_)
                  refine z_aload_n C 2 dX10_saysNumber_37 rfl ?_
                  refine z_bipush (z := 48) C dX10_saysNumber_38 (by decide) ?_
                  refine z_iload_n C 1 dX10_saysNumber_40 rfl ?_
                  refine z_iload_n C 0 dX10_saysNumber_41 rfl ?_
                  refine z_idiv C dX10_saysNumber_42 (by omega) (by omega) (by omega) ?_
                  obtain ⟨xy166, exy166, hxy166⟩ : ∃ x9, (vy3).tdiv 10 = x9 ∧ (0 ≤ vy3 → 0 ≤ x9 ∧ 10 * x9 ≤ vy3 ∧ vy3 < 10 * x9 + 10) ∧ (vy3 ≤ 0 → x9 ≤ 0 ∧ vy3 ≤ 10 * x9 ∧ 10 * x9 < vy3 + 10) := tdk 10 (by decide)
                  rw [exy166]
                  refine z_bipush (z := 10) C dX10_saysNumber_43 (by decide) ?_
                  refine z_irem C dX10_saysNumber_45 (by omega) (by omega) (by omega) ?_
                  refine z_iadd C dX10_saysNumber_46 ?_
                  have hey168 : Fvy164 51 = F 51 + 7 := hqvy164
                  refine z_cV (As := [.int (zI (48 + (xy166.tmod 10)))]) (rest := []) (ci := 12) C (c_X10_says l D A cs tt N ad _ i hN _ hcvy164 _ htvy164 (by omega) (48 + (xy166.tmod 10))) (lt_A0 hN rfl) hay1 hcvy164 rfl rfl mv_yX10_says q_1850 hd_yX10_says (by decide) (Nat.le_of_ble_eq_true rfl) (by decide) dX10_saysNumber_47 rfl (kV0 fun gvy167 hvy167 => ?_)
                  obtain ⟨⟨Fvy167, hcvy167, hnvy167, hFvy167⟩, ⟨tvy167, htvy167⟩, hfvy167⟩ := hvy167
                  have hovy167 : Fvy164 51 = F 51 + 7 := hqvy164
                  have hqvy167 : Fvy167 51 = F 51 + 8 := by omega
                  clear hnvy167 hovy167
                  refine z_iload_n C 0 dX10_saysNumber_50 rfl ?_
                  refine z_bipush (z := 10) C dX10_saysNumber_51 (by decide) ?_
                  refine z_idiv C dX10_saysNumber_53 (by decide) (by decide) (by decide) ?_
                  rw [show (10 : Int).tdiv 10 = 1 by decide]
                  refine z_istore_n (lv' := [(3, .int (zI (1))), (2, .int (zI (vy3))), (0, .ref (ad i)), (1, .int (zI (z)))]) C dX10_saysNumber_54 rfl (by decide) rfl ?_
                  refine z_goto (tgt := 33) C dX10_saysNumber_55 (by decide) ?_
                  refine z_iload_n C 0 dX10_saysNumber_33 rfl ?_
                  refine z_if_le (tgt := 58) C dX10_saysNumber_34 (by decide) (by omega) (fun h => absurd h (by omega)) (fun _ => ?_)
                  refine z_aload_n C 2 dX10_saysNumber_37 rfl ?_
                  refine z_bipush (z := 48) C dX10_saysNumber_38 (by decide) ?_
                  refine z_iload_n C 1 dX10_saysNumber_40 rfl ?_
                  refine z_iload_n C 0 dX10_saysNumber_41 rfl ?_
                  refine z_idiv C dX10_saysNumber_42 (by omega) (by omega) (by omega) ?_
                  obtain ⟨xy169, exy169, hxy169⟩ : ∃ x9, (vy3).tdiv 1 = x9 ∧ (0 ≤ vy3 → 0 ≤ x9 ∧ 1 * x9 ≤ vy3 ∧ vy3 < 1 * x9 + 1) ∧ (vy3 ≤ 0 → x9 ≤ 0 ∧ vy3 ≤ 1 * x9 ∧ 1 * x9 < vy3 + 1) := tdk 1 (by decide)
                  rw [exy169]
                  refine z_bipush (z := 10) C dX10_saysNumber_43 (by decide) ?_
                  refine z_irem C dX10_saysNumber_45 (by omega) (by omega) (by omega) ?_
                  refine z_iadd C dX10_saysNumber_46 ?_
                  have hey171 : Fvy167 51 = F 51 + 8 := hqvy167
                  refine z_cV (As := [.int (zI (48 + (xy169.tmod 10)))]) (rest := []) (ci := 12) C (c_X10_says l D A cs tt N ad _ i hN _ hcvy167 _ htvy167 (by omega) (48 + (xy169.tmod 10))) (lt_A0 hN rfl) hay1 hcvy167 rfl rfl mv_yX10_says q_1850 hd_yX10_says (by decide) (Nat.le_of_ble_eq_true rfl) (by decide) dX10_saysNumber_47 rfl (kV0 fun gvy170 hvy170 => ?_)
                  obtain ⟨⟨Fvy170, hcvy170, hnvy170, hFvy170⟩, ⟨tvy170, htvy170⟩, hfvy170⟩ := hvy170
                  have hovy170 : Fvy167 51 = F 51 + 8 := hqvy167
                  have hqvy170 : Fvy170 51 = F 51 + 9 := by omega
                  clear hnvy170 hovy170
                  refine z_iload_n C 0 dX10_saysNumber_50 rfl ?_
                  refine z_bipush (z := 10) C dX10_saysNumber_51 (by decide) ?_
                  refine z_idiv C dX10_saysNumber_53 (by decide) (by decide) (by decide) ?_
                  rw [show (1 : Int).tdiv 10 = 0 by decide]
                  refine z_istore_n (lv' := [(3, .int (zI (0))), (2, .int (zI (vy3))), (0, .ref (ad i)), (1, .int (zI (z)))]) C dX10_saysNumber_54 rfl (by decide) rfl ?_
                  refine z_goto (tgt := 33) C dX10_saysNumber_55 (by decide) ?_
                  refine z_iload_n C 0 dX10_saysNumber_33 rfl ?_
                  refine z_if_le (tgt := 58) C dX10_saysNumber_34 (by decide) (by omega) (fun _ => ?_) (fun h => absurd h (by omega))
                  have hFy172 : ∀ f, f ≠ 51 → Fvy170 f = F f := fun f n51 => ((hFvy170 f n51).trans ((hFvy167 f n51).trans ((hFvy164 f n51).trans ((hFvy161 f n51).trans ((hFvy158 f n51).trans ((hFvy155 f n51).trans ((hFvy152 f n51).trans ((hFvy149 f n51).trans (hFvy146 f n51)))))))))
                  have hey173 : Fvy170 51 = F 51 + 9 := hqvy170
                  exact z_vret C hr hlk dX10_saysNumber_58 (by decide) (by decide) ⟨rfl, rfl, rfl, ⟨_, hcvy170, by omega, hFy172⟩, ⟨_, htvy170⟩, fun j j1 j2 => by rw [hfvy170 _ (by omega) (by omega)]; rw [hfvy167 _ (by omega) (by omega)]; rw [hfvy164 _ (by omega) (by omega)]; rw [hfvy161 _ (by omega) (by omega)]; rw [hfvy158 _ (by omega) (by omega)]; rw [hfvy155 _ (by omega) (by omega)]; rw [hfvy152 _ (by omega) (by omega)]; rw [hfvy149 _ (by omega) (by omega)]; rw [hfvy146 _ (by omega) (by omega)]⟩

set_option maxRecDepth 100000 in
set_option maxHeartbeats 4000000 in
theorem c_X10_saysNumber5 (l : Launch) (D : va_G) (A : Nat → Prop) (cs : Nat → ClassId) (tt : Nat) (N : Nat) (ad : Nat → Nat) (g : Nat → va_E) (i : Nat) (hN : i + 30 ≤ N) (F : Nat → Int) (hg : g i = mC ad i F) (li : Nat → Int) (ha24 : g (i + 24) = iA cs 64 li) (h51 : 0 ≤ F 51 ∧ F 51 + 5 ≤ 64) (z : Int) (hz : -300 ≤ z ∧ z ≤ 99999) : zM l yX10_saysNumber cX10_saysNumber 4 none ({ frames := 2, cells := 0, slots := 0, locals := 120 } : Room) D A cs tt N ad g [.ref (ad i), .int (zI (z))] (rV0 N ad fun g' => (∃ F' : Nat → Int, g' i = mC ad i F' ∧ (F 51 ≤ F' 51 ∧ F' 51 ≤ F 51 + 5) ∧ (∀ f, f ≠ 51 → F' f = F f)) ∧ (∃ t' : Nat → Int, g' (i + 24) = iA cs 64 t') ∧ ∀ j, j ≠ i → j ≠ i + 24 → g' j = g j) := by
  have hay1 : zAt ad (i) (ad i) := rfl
  have hay2 : zAt ad (i + 24) (ad (i + 24)) := rfl
  refine z_of (by decide) (Nat.le_of_ble_eq_true rfl) ?_
  intro pZ eZ sZ mZ below meth cZ C hr hlk hnm
  refine z_lv (lv' := [(0, .ref (ad i)), (1, .int (zI (z)))]) [0, 1] rfl ?_
  refine z_iload_n C 1 dX10_saysNumber_0 rfl ?_
  refine z_if_ge (tgt := 10) C dX10_saysNumber_1 (by decide) (by omega) (fun hby3 => ?_) (fun hby3 => ?_)
  · refine z_iload_n C 1 dX10_saysNumber_10 rfl ?_
    refine z_cS (As := [.int (zI (z))]) (rest := []) C (c_X10_spanX l D A cs tt N ad _ (z) (by omega)) ms_yX10_span q_1839 hd_yX10_span (by decide) (Nat.le_of_ble_eq_true rfl) (by decide) dX10_saysNumber_11 rfl (kI0 fun vy4 gvy4 hvy4 => ?_)
    obtain ⟨hvy4, rfl⟩ := hvy4
    refine z_istore_n (lv' := [(2, .int (zI (vy4))), (0, .ref (ad i)), (1, .int (zI (z)))]) C dX10_saysNumber_14 rfl (by decide) rfl ?_
    refine z_iconst (z := 1) C dX10_saysNumber_15 rfl ?_
    refine z_istore_n (lv' := [(3, .int (zI (1))), (2, .int (zI (vy4))), (0, .ref (ad i)), (1, .int (zI (z)))]) C dX10_saysNumber_16 rfl (by decide) rfl ?_
    refine z_iload_n C 1 dX10_saysNumber_17 rfl ?_
    refine z_iload_n C 0 dX10_saysNumber_18 rfl ?_
    refine z_idiv C dX10_saysNumber_19 (by omega) (by omega) (by omega) ?_
    obtain ⟨xy5, exy5, hxy5⟩ : ∃ x9, (vy4).tdiv 1 = x9 ∧ (0 ≤ vy4 → 0 ≤ x9 ∧ 1 * x9 ≤ vy4 ∧ vy4 < 1 * x9 + 1) ∧ (vy4 ≤ 0 → x9 ≤ 0 ∧ vy4 ≤ 1 * x9 ∧ 1 * x9 < vy4 + 1) := tdk 1 (by decide)
    rw [exy5]
    refine z_bipush (z := 9) C dX10_saysNumber_20 (by decide) ?_
    refine z_icmp_le (tgt := 33) C dX10_saysNumber_22 (by decide) (by omega) (by omega) (fun hby6 => ?_) (fun hby6 => ?_)
    · refine z_iload_n C 0 dX10_saysNumber_33 rfl ?_
      refine z_if_le (tgt := 58) C dX10_saysNumber_34 (by decide) (by omega) (fun h => absurd h (by omega)) (fun _ => ?_)
      refine z_aload_n C 2 dX10_saysNumber_37 rfl ?_
      refine z_bipush (z := 48) C dX10_saysNumber_38 (by decide) ?_
      refine z_iload_n C 1 dX10_saysNumber_40 rfl ?_
      refine z_iload_n C 0 dX10_saysNumber_41 rfl ?_
      refine z_idiv C dX10_saysNumber_42 (by omega) (by omega) (by omega) ?_
      obtain ⟨xy7, exy7, hxy7⟩ : ∃ x9, (vy4).tdiv 1 = x9 ∧ (0 ≤ vy4 → 0 ≤ x9 ∧ 1 * x9 ≤ vy4 ∧ vy4 < 1 * x9 + 1) ∧ (vy4 ≤ 0 → x9 ≤ 0 ∧ vy4 ≤ 1 * x9 ∧ 1 * x9 < vy4 + 1) := tdk 1 (by decide)
      rw [exy7]
      refine z_bipush (z := 10) C dX10_saysNumber_43 (by decide) ?_
      refine z_irem C dX10_saysNumber_45 (by omega) (by omega) (by omega) ?_
      refine z_iadd C dX10_saysNumber_46 ?_
      have hey9 : F 51 = F 51 := rfl
      refine z_cV (As := [.int (zI (48 + (xy7.tmod 10)))]) (rest := []) (ci := 12) C (c_X10_says l D A cs tt N ad _ i hN _ hg _ ha24 (by omega) (48 + (xy7.tmod 10))) (lt_A0 hN rfl) hay1 hg rfl rfl mv_yX10_says q_1850 hd_yX10_says (by decide) (Nat.le_of_ble_eq_true rfl) (by decide) dX10_saysNumber_47 rfl (kV0 fun gvy8 hvy8 => ?_)
      obtain ⟨⟨Fvy8, hcvy8, hnvy8, hFvy8⟩, ⟨tvy8, htvy8⟩, hfvy8⟩ := hvy8
      have hovy8 : F 51 = F 51 := rfl
      have hqvy8 : Fvy8 51 = F 51 + 1 := by omega
      clear hnvy8 hovy8
      refine z_iload_n C 0 dX10_saysNumber_50 rfl ?_
      refine z_bipush (z := 10) C dX10_saysNumber_51 (by decide) ?_
      refine z_idiv C dX10_saysNumber_53 (by decide) (by decide) (by decide) ?_
      rw [show (1 : Int).tdiv 10 = 0 by decide]
      refine z_istore_n (lv' := [(3, .int (zI (0))), (2, .int (zI (vy4))), (0, .ref (ad i)), (1, .int (zI (z)))]) C dX10_saysNumber_54 rfl (by decide) rfl ?_
      refine z_goto (tgt := 33) C dX10_saysNumber_55 (by decide) ?_
      refine z_iload_n C 0 dX10_saysNumber_33 rfl ?_
      refine z_if_le (tgt := 58) C dX10_saysNumber_34 (by decide) (by omega) (fun _ => ?_) (fun h => absurd h (by omega))
      have hFy10 : ∀ f, f ≠ 51 → Fvy8 f = F f := fun f n51 => (hFvy8 f n51)
      have hey11 : Fvy8 51 = F 51 + 1 := hqvy8
      exact z_vret C hr hlk dX10_saysNumber_58 (by decide) (by decide) ⟨rfl, rfl, rfl, ⟨_, hcvy8, by omega, hFy10⟩, ⟨_, htvy8⟩, fun j j1 j2 => by rw [hfvy8 _ (by omega) (by omega)]⟩
    · refine z_iload_n C 0 dX10_saysNumber_25 rfl ?_
      refine z_bipush (z := 10) C dX10_saysNumber_26 (by decide) ?_
      refine z_imul C dX10_saysNumber_28 ?_
      rw [show (1 : Int) * 10 = 10 by decide]
      refine z_istore_n (lv' := [(3, .int (zI (10))), (2, .int (zI (vy4))), (0, .ref (ad i)), (1, .int (zI (z)))]) C dX10_saysNumber_29 rfl (by decide) rfl ?_
      refine z_goto (tgt := 17) C dX10_saysNumber_30 (by decide) ?_
      refine z_iload_n C 1 dX10_saysNumber_17 rfl ?_
      refine z_iload_n C 0 dX10_saysNumber_18 rfl ?_
      refine z_idiv C dX10_saysNumber_19 (by omega) (by omega) (by omega) ?_
      obtain ⟨xy12, exy12, hxy12⟩ : ∃ x9, (vy4).tdiv 10 = x9 ∧ (0 ≤ vy4 → 0 ≤ x9 ∧ 10 * x9 ≤ vy4 ∧ vy4 < 10 * x9 + 10) ∧ (vy4 ≤ 0 → x9 ≤ 0 ∧ vy4 ≤ 10 * x9 ∧ 10 * x9 < vy4 + 10) := tdk 10 (by decide)
      rw [exy12]
      refine z_bipush (z := 9) C dX10_saysNumber_20 (by decide) ?_
      refine z_icmp_le (tgt := 33) C dX10_saysNumber_22 (by decide) (by omega) (by omega) (fun hby13 => ?_) (fun hby13 => ?_)
      · refine z_iload_n C 0 dX10_saysNumber_33 rfl ?_
        refine z_if_le (tgt := 58) C dX10_saysNumber_34 (by decide) (by omega) (fun h => absurd h (by omega)) (fun _ => ?_)
        refine z_aload_n C 2 dX10_saysNumber_37 rfl ?_
        refine z_bipush (z := 48) C dX10_saysNumber_38 (by decide) ?_
        refine z_iload_n C 1 dX10_saysNumber_40 rfl ?_
        refine z_iload_n C 0 dX10_saysNumber_41 rfl ?_
        refine z_idiv C dX10_saysNumber_42 (by omega) (by omega) (by omega) ?_
        obtain ⟨xy14, exy14, hxy14⟩ : ∃ x9, (vy4).tdiv 10 = x9 ∧ (0 ≤ vy4 → 0 ≤ x9 ∧ 10 * x9 ≤ vy4 ∧ vy4 < 10 * x9 + 10) ∧ (vy4 ≤ 0 → x9 ≤ 0 ∧ vy4 ≤ 10 * x9 ∧ 10 * x9 < vy4 + 10) := tdk 10 (by decide)
        rw [exy14]
        refine z_bipush (z := 10) C dX10_saysNumber_43 (by decide) ?_
        refine z_irem C dX10_saysNumber_45 (by omega) (by omega) (by omega) ?_
        refine z_iadd C dX10_saysNumber_46 ?_
        have hey16 : F 51 = F 51 := rfl
        refine z_cV (As := [.int (zI (48 + (xy14.tmod 10)))]) (rest := []) (ci := 12) C (c_X10_says l D A cs tt N ad _ i hN _ hg _ ha24 (by omega) (48 + (xy14.tmod 10))) (lt_A0 hN rfl) hay1 hg rfl rfl mv_yX10_says q_1850 hd_yX10_says (by decide) (Nat.le_of_ble_eq_true rfl) (by decide) dX10_saysNumber_47 rfl (kV0 fun gvy15 hvy15 => ?_)
        obtain ⟨⟨Fvy15, hcvy15, hnvy15, hFvy15⟩, ⟨tvy15, htvy15⟩, hfvy15⟩ := hvy15
        have hovy15 : F 51 = F 51 := rfl
        have hqvy15 : Fvy15 51 = F 51 + 1 := by omega
        clear hnvy15 hovy15
        refine z_iload_n C 0 dX10_saysNumber_50 rfl ?_
        refine z_bipush (z := 10) C dX10_saysNumber_51 (by decide) ?_
        refine z_idiv C dX10_saysNumber_53 (by decide) (by decide) (by decide) ?_
        rw [show (10 : Int).tdiv 10 = 1 by decide]
        refine z_istore_n (lv' := [(3, .int (zI (1))), (2, .int (zI (vy4))), (0, .ref (ad i)), (1, .int (zI (z)))]) C dX10_saysNumber_54 rfl (by decide) rfl ?_
        refine z_goto (tgt := 33) C dX10_saysNumber_55 (by decide) ?_
        refine z_iload_n C 0 dX10_saysNumber_33 rfl ?_
        refine z_if_le (tgt := 58) C dX10_saysNumber_34 (by decide) (by omega) (fun h => absurd h (by omega)) (fun _ => ?_)
        refine z_aload_n C 2 dX10_saysNumber_37 rfl ?_
        refine z_bipush (z := 48) C dX10_saysNumber_38 (by decide) ?_
        refine z_iload_n C 1 dX10_saysNumber_40 rfl ?_
        refine z_iload_n C 0 dX10_saysNumber_41 rfl ?_
        refine z_idiv C dX10_saysNumber_42 (by omega) (by omega) (by omega) ?_
        obtain ⟨xy17, exy17, hxy17⟩ : ∃ x9, (vy4).tdiv 1 = x9 ∧ (0 ≤ vy4 → 0 ≤ x9 ∧ 1 * x9 ≤ vy4 ∧ vy4 < 1 * x9 + 1) ∧ (vy4 ≤ 0 → x9 ≤ 0 ∧ vy4 ≤ 1 * x9 ∧ 1 * x9 < vy4 + 1) := tdk 1 (by decide)
        rw [exy17]
        refine z_bipush (z := 10) C dX10_saysNumber_43 (by decide) ?_
        refine z_irem C dX10_saysNumber_45 (by omega) (by omega) (by omega) ?_
        refine z_iadd C dX10_saysNumber_46 ?_
        have hey19 : Fvy15 51 = F 51 + 1 := hqvy15
        refine z_cV (As := [.int (zI (48 + (xy17.tmod 10)))]) (rest := []) (ci := 12) C (c_X10_says l D A cs tt N ad _ i hN _ hcvy15 _ htvy15 (by omega) (48 + (xy17.tmod 10))) (lt_A0 hN rfl) hay1 hcvy15 rfl rfl mv_yX10_says q_1850 hd_yX10_says (by decide) (Nat.le_of_ble_eq_true rfl) (by decide) dX10_saysNumber_47 rfl (kV0 fun gvy18 hvy18 => ?_)
        obtain ⟨⟨Fvy18, hcvy18, hnvy18, hFvy18⟩, ⟨tvy18, htvy18⟩, hfvy18⟩ := hvy18
        have hovy18 : Fvy15 51 = F 51 + 1 := hqvy15
        have hqvy18 : Fvy18 51 = F 51 + 2 := by omega
        clear hnvy18 hovy18
        refine z_iload_n C 0 dX10_saysNumber_50 rfl ?_
        refine z_bipush (z := 10) C dX10_saysNumber_51 (by decide) ?_
        refine z_idiv C dX10_saysNumber_53 (by decide) (by decide) (by decide) ?_
        rw [show (1 : Int).tdiv 10 = 0 by decide]
        refine z_istore_n (lv' := [(3, .int (zI (0))), (2, .int (zI (vy4))), (0, .ref (ad i)), (1, .int (zI (z)))]) C dX10_saysNumber_54 rfl (by decide) rfl ?_
        refine z_goto (tgt := 33) C dX10_saysNumber_55 (by decide) ?_
        refine z_iload_n C 0 dX10_saysNumber_33 rfl ?_
        refine z_if_le (tgt := 58) C dX10_saysNumber_34 (by decide) (by omega) (fun _ => ?_) (fun h => absurd h (by omega))
        have hFy20 : ∀ f, f ≠ 51 → Fvy18 f = F f := fun f n51 => ((hFvy18 f n51).trans (hFvy15 f n51))
        have hey21 : Fvy18 51 = F 51 + 2 := hqvy18
        exact z_vret C hr hlk dX10_saysNumber_58 (by decide) (by decide) ⟨rfl, rfl, rfl, ⟨_, hcvy18, by omega, hFy20⟩, ⟨_, htvy18⟩, fun j j1 j2 => by rw [hfvy18 _ (by omega) (by omega)]; rw [hfvy15 _ (by omega) (by omega)]⟩
      · refine z_iload_n C 0 dX10_saysNumber_25 rfl ?_
        refine z_bipush (z := 10) C dX10_saysNumber_26 (by decide) ?_
        refine z_imul C dX10_saysNumber_28 ?_
        rw [show (10 : Int) * 10 = 100 by decide]
        refine z_istore_n (lv' := [(3, .int (zI (100))), (2, .int (zI (vy4))), (0, .ref (ad i)), (1, .int (zI (z)))]) C dX10_saysNumber_29 rfl (by decide) rfl ?_
        refine z_goto (tgt := 17) C dX10_saysNumber_30 (by decide) ?_
        refine z_iload_n C 1 dX10_saysNumber_17 rfl ?_
        refine z_iload_n C 0 dX10_saysNumber_18 rfl ?_
        refine z_idiv C dX10_saysNumber_19 (by omega) (by omega) (by omega) ?_
        obtain ⟨xy22, exy22, hxy22⟩ : ∃ x9, (vy4).tdiv 100 = x9 ∧ (0 ≤ vy4 → 0 ≤ x9 ∧ 100 * x9 ≤ vy4 ∧ vy4 < 100 * x9 + 100) ∧ (vy4 ≤ 0 → x9 ≤ 0 ∧ vy4 ≤ 100 * x9 ∧ 100 * x9 < vy4 + 100) := tdk 100 (by decide)
        rw [exy22]
        refine z_bipush (z := 9) C dX10_saysNumber_20 (by decide) ?_
        refine z_icmp_le (tgt := 33) C dX10_saysNumber_22 (by decide) (by omega) (by omega) (fun hby23 => ?_) (fun hby23 => ?_)
        · refine z_iload_n C 0 dX10_saysNumber_33 rfl ?_
          refine z_if_le (tgt := 58) C dX10_saysNumber_34 (by decide) (by omega) (fun h => absurd h (by omega)) (fun _ => ?_)
          refine z_aload_n C 2 dX10_saysNumber_37 rfl ?_
          refine z_bipush (z := 48) C dX10_saysNumber_38 (by decide) ?_
          refine z_iload_n C 1 dX10_saysNumber_40 rfl ?_
          refine z_iload_n C 0 dX10_saysNumber_41 rfl ?_
          refine z_idiv C dX10_saysNumber_42 (by omega) (by omega) (by omega) ?_
          obtain ⟨xy24, exy24, hxy24⟩ : ∃ x9, (vy4).tdiv 100 = x9 ∧ (0 ≤ vy4 → 0 ≤ x9 ∧ 100 * x9 ≤ vy4 ∧ vy4 < 100 * x9 + 100) ∧ (vy4 ≤ 0 → x9 ≤ 0 ∧ vy4 ≤ 100 * x9 ∧ 100 * x9 < vy4 + 100) := tdk 100 (by decide)
          rw [exy24]
          refine z_bipush (z := 10) C dX10_saysNumber_43 (by decide) ?_
          refine z_irem C dX10_saysNumber_45 (by omega) (by omega) (by omega) ?_
          refine z_iadd C dX10_saysNumber_46 ?_
          have hey26 : F 51 = F 51 := rfl
          refine z_cV (As := [.int (zI (48 + (xy24.tmod 10)))]) (rest := []) (ci := 12) C (c_X10_says l D A cs tt N ad _ i hN _ hg _ ha24 (by omega) (48 + (xy24.tmod 10))) (lt_A0 hN rfl) hay1 hg rfl rfl mv_yX10_says q_1850 hd_yX10_says (by decide) (Nat.le_of_ble_eq_true rfl) (by decide) dX10_saysNumber_47 rfl (kV0 fun gvy25 hvy25 => ?_)
          obtain ⟨⟨Fvy25, hcvy25, hnvy25, hFvy25⟩, ⟨tvy25, htvy25⟩, hfvy25⟩ := hvy25
          have hovy25 : F 51 = F 51 := rfl
          have hqvy25 : Fvy25 51 = F 51 + 1 := by omega
          clear hnvy25 hovy25
          refine z_iload_n C 0 dX10_saysNumber_50 rfl ?_
          refine z_bipush (z := 10) C dX10_saysNumber_51 (by decide) ?_
          refine z_idiv C dX10_saysNumber_53 (by decide) (by decide) (by decide) ?_
          rw [show (100 : Int).tdiv 10 = 10 by decide]
          refine z_istore_n (lv' := [(3, .int (zI (10))), (2, .int (zI (vy4))), (0, .ref (ad i)), (1, .int (zI (z)))]) C dX10_saysNumber_54 rfl (by decide) rfl ?_
          refine z_goto (tgt := 33) C dX10_saysNumber_55 (by decide) ?_
          refine z_iload_n C 0 dX10_saysNumber_33 rfl ?_
          refine z_if_le (tgt := 58) C dX10_saysNumber_34 (by decide) (by omega) (fun h => absurd h (by omega)) (fun _ => ?_)
          refine z_aload_n C 2 dX10_saysNumber_37 rfl ?_
          refine z_bipush (z := 48) C dX10_saysNumber_38 (by decide) ?_
          refine z_iload_n C 1 dX10_saysNumber_40 rfl ?_
          refine z_iload_n C 0 dX10_saysNumber_41 rfl ?_
          refine z_idiv C dX10_saysNumber_42 (by omega) (by omega) (by omega) ?_
          obtain ⟨xy27, exy27, hxy27⟩ : ∃ x9, (vy4).tdiv 10 = x9 ∧ (0 ≤ vy4 → 0 ≤ x9 ∧ 10 * x9 ≤ vy4 ∧ vy4 < 10 * x9 + 10) ∧ (vy4 ≤ 0 → x9 ≤ 0 ∧ vy4 ≤ 10 * x9 ∧ 10 * x9 < vy4 + 10) := tdk 10 (by decide)
          rw [exy27]
          refine z_bipush (z := 10) C dX10_saysNumber_43 (by decide) ?_
          refine z_irem C dX10_saysNumber_45 (by omega) (by omega) (by omega) ?_
          refine z_iadd C dX10_saysNumber_46 ?_
          have hey29 : Fvy25 51 = F 51 + 1 := hqvy25
          refine z_cV (As := [.int (zI (48 + (xy27.tmod 10)))]) (rest := []) (ci := 12) C (c_X10_says l D A cs tt N ad _ i hN _ hcvy25 _ htvy25 (by omega) (48 + (xy27.tmod 10))) (lt_A0 hN rfl) hay1 hcvy25 rfl rfl mv_yX10_says q_1850 hd_yX10_says (by decide) (Nat.le_of_ble_eq_true rfl) (by decide) dX10_saysNumber_47 rfl (kV0 fun gvy28 hvy28 => ?_)
          obtain ⟨⟨Fvy28, hcvy28, hnvy28, hFvy28⟩, ⟨tvy28, htvy28⟩, hfvy28⟩ := hvy28
          have hovy28 : Fvy25 51 = F 51 + 1 := hqvy25
          have hqvy28 : Fvy28 51 = F 51 + 2 := by omega
          clear hnvy28 hovy28
          refine z_iload_n C 0 dX10_saysNumber_50 rfl ?_
          refine z_bipush (z := 10) C dX10_saysNumber_51 (by decide) ?_
          refine z_idiv C dX10_saysNumber_53 (by decide) (by decide) (by decide) ?_
          rw [show (10 : Int).tdiv 10 = 1 by decide]
          refine z_istore_n (lv' := [(3, .int (zI (1))), (2, .int (zI (vy4))), (0, .ref (ad i)), (1, .int (zI (z)))]) C dX10_saysNumber_54 rfl (by decide) rfl ?_
          refine z_goto (tgt := 33) C dX10_saysNumber_55 (by decide) ?_
          refine z_iload_n C 0 dX10_saysNumber_33 rfl ?_
          refine z_if_le (tgt := 58) C dX10_saysNumber_34 (by decide) (by omega) (fun h => absurd h (by omega)) (fun _ => ?_)
          refine z_aload_n C 2 dX10_saysNumber_37 rfl ?_
          refine z_bipush (z := 48) C dX10_saysNumber_38 (by decide) ?_
          refine z_iload_n C 1 dX10_saysNumber_40 rfl ?_
          refine z_iload_n C 0 dX10_saysNumber_41 rfl ?_
          refine z_idiv C dX10_saysNumber_42 (by omega) (by omega) (by omega) ?_
          obtain ⟨xy30, exy30, hxy30⟩ : ∃ x9, (vy4).tdiv 1 = x9 ∧ (0 ≤ vy4 → 0 ≤ x9 ∧ 1 * x9 ≤ vy4 ∧ vy4 < 1 * x9 + 1) ∧ (vy4 ≤ 0 → x9 ≤ 0 ∧ vy4 ≤ 1 * x9 ∧ 1 * x9 < vy4 + 1) := tdk 1 (by decide)
          rw [exy30]
          refine z_bipush (z := 10) C dX10_saysNumber_43 (by decide) ?_
          refine z_irem C dX10_saysNumber_45 (by omega) (by omega) (by omega) ?_
          refine z_iadd C dX10_saysNumber_46 ?_
          have hey32 : Fvy28 51 = F 51 + 2 := hqvy28
          refine z_cV (As := [.int (zI (48 + (xy30.tmod 10)))]) (rest := []) (ci := 12) C (c_X10_says l D A cs tt N ad _ i hN _ hcvy28 _ htvy28 (by omega) (48 + (xy30.tmod 10))) (lt_A0 hN rfl) hay1 hcvy28 rfl rfl mv_yX10_says q_1850 hd_yX10_says (by decide) (Nat.le_of_ble_eq_true rfl) (by decide) dX10_saysNumber_47 rfl (kV0 fun gvy31 hvy31 => ?_)
          obtain ⟨⟨Fvy31, hcvy31, hnvy31, hFvy31⟩, ⟨tvy31, htvy31⟩, hfvy31⟩ := hvy31
          have hovy31 : Fvy28 51 = F 51 + 2 := hqvy28
          have hqvy31 : Fvy31 51 = F 51 + 3 := by omega
          clear hnvy31 hovy31
          refine z_iload_n C 0 dX10_saysNumber_50 rfl ?_
          refine z_bipush (z := 10) C dX10_saysNumber_51 (by decide) ?_
          refine z_idiv C dX10_saysNumber_53 (by decide) (by decide) (by decide) ?_
          rw [show (1 : Int).tdiv 10 = 0 by decide]
          refine z_istore_n (lv' := [(3, .int (zI (0))), (2, .int (zI (vy4))), (0, .ref (ad i)), (1, .int (zI (z)))]) C dX10_saysNumber_54 rfl (by decide) rfl ?_
          refine z_goto (tgt := 33) C dX10_saysNumber_55 (by decide) ?_
          refine z_iload_n C 0 dX10_saysNumber_33 rfl ?_
          refine z_if_le (tgt := 58) C dX10_saysNumber_34 (by decide) (by omega) (fun _ => ?_) (fun h => absurd h (by omega))
          have hFy33 : ∀ f, f ≠ 51 → Fvy31 f = F f := fun f n51 => ((hFvy31 f n51).trans ((hFvy28 f n51).trans (hFvy25 f n51)))
          have hey34 : Fvy31 51 = F 51 + 3 := hqvy31
          exact z_vret C hr hlk dX10_saysNumber_58 (by decide) (by decide) ⟨rfl, rfl, rfl, ⟨_, hcvy31, by omega, hFy33⟩, ⟨_, htvy31⟩, fun j j1 j2 => by rw [hfvy31 _ (by omega) (by omega)]; rw [hfvy28 _ (by omega) (by omega)]; rw [hfvy25 _ (by omega) (by omega)]⟩
        · refine z_iload_n C 0 dX10_saysNumber_25 rfl ?_
          refine z_bipush (z := 10) C dX10_saysNumber_26 (by decide) ?_
          refine z_imul C dX10_saysNumber_28 ?_
          rw [show (100 : Int) * 10 = 1000 by decide]
          refine z_istore_n (lv' := [(3, .int (zI (1000))), (2, .int (zI (vy4))), (0, .ref (ad i)), (1, .int (zI (z)))]) C dX10_saysNumber_29 rfl (by decide) rfl ?_
          refine z_goto (tgt := 17) C dX10_saysNumber_30 (by decide) ?_
          refine z_iload_n C 1 dX10_saysNumber_17 rfl ?_
          refine z_iload_n C 0 dX10_saysNumber_18 rfl ?_
          refine z_idiv C dX10_saysNumber_19 (by omega) (by omega) (by omega) ?_
          obtain ⟨xy35, exy35, hxy35⟩ : ∃ x9, (vy4).tdiv 1000 = x9 ∧ (0 ≤ vy4 → 0 ≤ x9 ∧ 1000 * x9 ≤ vy4 ∧ vy4 < 1000 * x9 + 1000) ∧ (vy4 ≤ 0 → x9 ≤ 0 ∧ vy4 ≤ 1000 * x9 ∧ 1000 * x9 < vy4 + 1000) := tdk 1000 (by decide)
          rw [exy35]
          refine z_bipush (z := 9) C dX10_saysNumber_20 (by decide) ?_
          refine z_icmp_le (tgt := 33) C dX10_saysNumber_22 (by decide) (by omega) (by omega) (fun hby36 => ?_) (fun hby36 => ?_)
          · refine z_iload_n C 0 dX10_saysNumber_33 rfl ?_
            refine z_if_le (tgt := 58) C dX10_saysNumber_34 (by decide) (by omega) (fun h => absurd h (by omega)) (fun _ => ?_)
            refine z_aload_n C 2 dX10_saysNumber_37 rfl ?_
            refine z_bipush (z := 48) C dX10_saysNumber_38 (by decide) ?_
            refine z_iload_n C 1 dX10_saysNumber_40 rfl ?_
            refine z_iload_n C 0 dX10_saysNumber_41 rfl ?_
            refine z_idiv C dX10_saysNumber_42 (by omega) (by omega) (by omega) ?_
            obtain ⟨xy37, exy37, hxy37⟩ : ∃ x9, (vy4).tdiv 1000 = x9 ∧ (0 ≤ vy4 → 0 ≤ x9 ∧ 1000 * x9 ≤ vy4 ∧ vy4 < 1000 * x9 + 1000) ∧ (vy4 ≤ 0 → x9 ≤ 0 ∧ vy4 ≤ 1000 * x9 ∧ 1000 * x9 < vy4 + 1000) := tdk 1000 (by decide)
            rw [exy37]
            refine z_bipush (z := 10) C dX10_saysNumber_43 (by decide) ?_
            refine z_irem C dX10_saysNumber_45 (by omega) (by omega) (by omega) ?_
            refine z_iadd C dX10_saysNumber_46 ?_
            have hey39 : F 51 = F 51 := rfl
            refine z_cV (As := [.int (zI (48 + (xy37.tmod 10)))]) (rest := []) (ci := 12) C (c_X10_says l D A cs tt N ad _ i hN _ hg _ ha24 (by omega) (48 + (xy37.tmod 10))) (lt_A0 hN rfl) hay1 hg rfl rfl mv_yX10_says q_1850 hd_yX10_says (by decide) (Nat.le_of_ble_eq_true rfl) (by decide) dX10_saysNumber_47 rfl (kV0 fun gvy38 hvy38 => ?_)
            obtain ⟨⟨Fvy38, hcvy38, hnvy38, hFvy38⟩, ⟨tvy38, htvy38⟩, hfvy38⟩ := hvy38
            have hovy38 : F 51 = F 51 := rfl
            have hqvy38 : Fvy38 51 = F 51 + 1 := by omega
            clear hnvy38 hovy38
            refine z_iload_n C 0 dX10_saysNumber_50 rfl ?_
            refine z_bipush (z := 10) C dX10_saysNumber_51 (by decide) ?_
            refine z_idiv C dX10_saysNumber_53 (by decide) (by decide) (by decide) ?_
            rw [show (1000 : Int).tdiv 10 = 100 by decide]
            refine z_istore_n (lv' := [(3, .int (zI (100))), (2, .int (zI (vy4))), (0, .ref (ad i)), (1, .int (zI (z)))]) C dX10_saysNumber_54 rfl (by decide) rfl ?_
            refine z_goto (tgt := 33) C dX10_saysNumber_55 (by decide) ?_
            refine z_iload_n C 0 dX10_saysNumber_33 rfl ?_
            refine z_if_le (tgt := 58) C dX10_saysNumber_34 (by decide) (by omega) (fun h => absurd h (by omega)) (fun _ => ?_)
            refine z_aload_n C 2 dX10_saysNumber_37 rfl ?_
            refine z_bipush (z := 48) C dX10_saysNumber_38 (by decide) ?_
            refine z_iload_n C 1 dX10_saysNumber_40 rfl ?_
            refine z_iload_n C 0 dX10_saysNumber_41 rfl ?_
            refine z_idiv C dX10_saysNumber_42 (by omega) (by omega) (by omega) ?_
            obtain ⟨xy40, exy40, hxy40⟩ : ∃ x9, (vy4).tdiv 100 = x9 ∧ (0 ≤ vy4 → 0 ≤ x9 ∧ 100 * x9 ≤ vy4 ∧ vy4 < 100 * x9 + 100) ∧ (vy4 ≤ 0 → x9 ≤ 0 ∧ vy4 ≤ 100 * x9 ∧ 100 * x9 < vy4 + 100) := tdk 100 (by decide)
            rw [exy40]
            refine z_bipush (z := 10) C dX10_saysNumber_43 (by decide) ?_
            refine z_irem C dX10_saysNumber_45 (by omega) (by omega) (by omega) ?_
            refine z_iadd C dX10_saysNumber_46 ?_
            have hey42 : Fvy38 51 = F 51 + 1 := hqvy38
            refine z_cV (As := [.int (zI (48 + (xy40.tmod 10)))]) (rest := []) (ci := 12) C (c_X10_says l D A cs tt N ad _ i hN _ hcvy38 _ htvy38 (by omega) (48 + (xy40.tmod 10))) (lt_A0 hN rfl) hay1 hcvy38 rfl rfl mv_yX10_says q_1850 hd_yX10_says (by decide) (Nat.le_of_ble_eq_true rfl) (by decide) dX10_saysNumber_47 rfl (kV0 fun gvy41 hvy41 => ?_)
            obtain ⟨⟨Fvy41, hcvy41, hnvy41, hFvy41⟩, ⟨tvy41, htvy41⟩, hfvy41⟩ := hvy41
            have hovy41 : Fvy38 51 = F 51 + 1 := hqvy38
            have hqvy41 : Fvy41 51 = F 51 + 2 := by omega
            clear hnvy41 hovy41
            refine z_iload_n C 0 dX10_saysNumber_50 rfl ?_
            refine z_bipush (z := 10) C dX10_saysNumber_51 (by decide) ?_
            refine z_idiv C dX10_saysNumber_53 (by decide) (by decide) (by decide) ?_
            rw [show (100 : Int).tdiv 10 = 10 by decide]
            refine z_istore_n (lv' := [(3, .int (zI (10))), (2, .int (zI (vy4))), (0, .ref (ad i)), (1, .int (zI (z)))]) C dX10_saysNumber_54 rfl (by decide) rfl ?_
            refine z_goto (tgt := 33) C dX10_saysNumber_55 (by decide) ?_
            refine z_iload_n C 0 dX10_saysNumber_33 rfl ?_
            refine z_if_le (tgt := 58) C dX10_saysNumber_34 (by decide) (by omega) (fun h => absurd h (by omega)) (fun _ => ?_)
            refine z_aload_n C 2 dX10_saysNumber_37 rfl ?_
            refine z_bipush (z := 48) C dX10_saysNumber_38 (by decide) ?_
            refine z_iload_n C 1 dX10_saysNumber_40 rfl ?_
            refine z_iload_n C 0 dX10_saysNumber_41 rfl ?_
            refine z_idiv C dX10_saysNumber_42 (by omega) (by omega) (by omega) ?_
            obtain ⟨xy43, exy43, hxy43⟩ : ∃ x9, (vy4).tdiv 10 = x9 ∧ (0 ≤ vy4 → 0 ≤ x9 ∧ 10 * x9 ≤ vy4 ∧ vy4 < 10 * x9 + 10) ∧ (vy4 ≤ 0 → x9 ≤ 0 ∧ vy4 ≤ 10 * x9 ∧ 10 * x9 < vy4 + 10) := tdk 10 (by decide)
            rw [exy43]
            refine z_bipush (z := 10) C dX10_saysNumber_43 (by decide) ?_
            refine z_irem C dX10_saysNumber_45 (by omega) (by omega) (by omega) ?_
            refine z_iadd C dX10_saysNumber_46 ?_
            have hey45 : Fvy41 51 = F 51 + 2 := hqvy41
            refine z_cV (As := [.int (zI (48 + (xy43.tmod 10)))]) (rest := []) (ci := 12) C (c_X10_says l D A cs tt N ad _ i hN _ hcvy41 _ htvy41 (by omega) (48 + (xy43.tmod 10))) (lt_A0 hN rfl) hay1 hcvy41 rfl rfl mv_yX10_says q_1850 hd_yX10_says (by decide) (Nat.le_of_ble_eq_true rfl) (by decide) dX10_saysNumber_47 rfl (kV0 fun gvy44 hvy44 => ?_)
            obtain ⟨⟨Fvy44, hcvy44, hnvy44, hFvy44⟩, ⟨tvy44, htvy44⟩, hfvy44⟩ := hvy44
            have hovy44 : Fvy41 51 = F 51 + 2 := hqvy41
            have hqvy44 : Fvy44 51 = F 51 + 3 := by omega
            clear hnvy44 hovy44
            refine z_iload_n C 0 dX10_saysNumber_50 rfl ?_
            refine z_bipush (z := 10) C dX10_saysNumber_51 (by decide) ?_
            refine z_idiv C dX10_saysNumber_53 (by decide) (by decide) (by decide) ?_
            rw [show (10 : Int).tdiv 10 = 1 by decide]
            refine z_istore_n (lv' := [(3, .int (zI (1))), (2, .int (zI (vy4))), (0, .ref (ad i)), (1, .int (zI (z)))]) C dX10_saysNumber_54 rfl (by decide) rfl ?_
            refine z_goto (tgt := 33) C dX10_saysNumber_55 (by decide) ?_
            refine z_iload_n C 0 dX10_saysNumber_33 rfl ?_
            refine z_if_le (tgt := 58) C dX10_saysNumber_34 (by decide) (by omega) (fun h => absurd h (by omega)) (fun _ => ?_)
            refine z_aload_n C 2 dX10_saysNumber_37 rfl ?_
            refine z_bipush (z := 48) C dX10_saysNumber_38 (by decide) ?_
            refine z_iload_n C 1 dX10_saysNumber_40 rfl ?_
            refine z_iload_n C 0 dX10_saysNumber_41 rfl ?_
            refine z_idiv C dX10_saysNumber_42 (by omega) (by omega) (by omega) ?_
            obtain ⟨xy46, exy46, hxy46⟩ : ∃ x9, (vy4).tdiv 1 = x9 ∧ (0 ≤ vy4 → 0 ≤ x9 ∧ 1 * x9 ≤ vy4 ∧ vy4 < 1 * x9 + 1) ∧ (vy4 ≤ 0 → x9 ≤ 0 ∧ vy4 ≤ 1 * x9 ∧ 1 * x9 < vy4 + 1) := tdk 1 (by decide)
            rw [exy46]
            refine z_bipush (z := 10) C dX10_saysNumber_43 (by decide) ?_
            refine z_irem C dX10_saysNumber_45 (by omega) (by omega) (by omega) ?_
            refine z_iadd C dX10_saysNumber_46 ?_
            have hey48 : Fvy44 51 = F 51 + 3 := hqvy44
            refine z_cV (As := [.int (zI (48 + (xy46.tmod 10)))]) (rest := []) (ci := 12) C (c_X10_says l D A cs tt N ad _ i hN _ hcvy44 _ htvy44 (by omega) (48 + (xy46.tmod 10))) (lt_A0 hN rfl) hay1 hcvy44 rfl rfl mv_yX10_says q_1850 hd_yX10_says (by decide) (Nat.le_of_ble_eq_true rfl) (by decide) dX10_saysNumber_47 rfl (kV0 fun gvy47 hvy47 => ?_)
            obtain ⟨⟨Fvy47, hcvy47, hnvy47, hFvy47⟩, ⟨tvy47, htvy47⟩, hfvy47⟩ := hvy47
            have hovy47 : Fvy44 51 = F 51 + 3 := hqvy44
            have hqvy47 : Fvy47 51 = F 51 + 4 := by omega
            clear hnvy47 hovy47
            refine z_iload_n C 0 dX10_saysNumber_50 rfl ?_
            refine z_bipush (z := 10) C dX10_saysNumber_51 (by decide) ?_
            refine z_idiv C dX10_saysNumber_53 (by decide) (by decide) (by decide) ?_
            rw [show (1 : Int).tdiv 10 = 0 by decide]
            refine z_istore_n (lv' := [(3, .int (zI (0))), (2, .int (zI (vy4))), (0, .ref (ad i)), (1, .int (zI (z)))]) C dX10_saysNumber_54 rfl (by decide) rfl ?_
            refine z_goto (tgt := 33) C dX10_saysNumber_55 (by decide) ?_
            refine z_iload_n C 0 dX10_saysNumber_33 rfl ?_
            refine z_if_le (tgt := 58) C dX10_saysNumber_34 (by decide) (by omega) (fun _ => ?_) (fun h => absurd h (by omega))
            have hFy49 : ∀ f, f ≠ 51 → Fvy47 f = F f := fun f n51 => ((hFvy47 f n51).trans ((hFvy44 f n51).trans ((hFvy41 f n51).trans (hFvy38 f n51))))
            have hey50 : Fvy47 51 = F 51 + 4 := hqvy47
            exact z_vret C hr hlk dX10_saysNumber_58 (by decide) (by decide) ⟨rfl, rfl, rfl, ⟨_, hcvy47, by omega, hFy49⟩, ⟨_, htvy47⟩, fun j j1 j2 => by rw [hfvy47 _ (by omega) (by omega)]; rw [hfvy44 _ (by omega) (by omega)]; rw [hfvy41 _ (by omega) (by omega)]; rw [hfvy38 _ (by omega) (by omega)]⟩
          · refine z_iload_n C 0 dX10_saysNumber_25 rfl ?_
            refine z_bipush (z := 10) C dX10_saysNumber_26 (by decide) ?_
            refine z_imul C dX10_saysNumber_28 ?_
            rw [show (1000 : Int) * 10 = 10000 by decide]
            refine z_istore_n (lv' := [(3, .int (zI (10000))), (2, .int (zI (vy4))), (0, .ref (ad i)), (1, .int (zI (z)))]) C dX10_saysNumber_29 rfl (by decide) rfl ?_
            refine z_goto (tgt := 17) C dX10_saysNumber_30 (by decide) ?_
            refine z_iload_n C 1 dX10_saysNumber_17 rfl ?_
            refine z_iload_n C 0 dX10_saysNumber_18 rfl ?_
            refine z_idiv C dX10_saysNumber_19 (by omega) (by omega) (by omega) ?_
            obtain ⟨xy51, exy51, hxy51⟩ : ∃ x9, (vy4).tdiv 10000 = x9 ∧ (0 ≤ vy4 → 0 ≤ x9 ∧ 10000 * x9 ≤ vy4 ∧ vy4 < 10000 * x9 + 10000) ∧ (vy4 ≤ 0 → x9 ≤ 0 ∧ vy4 ≤ 10000 * x9 ∧ 10000 * x9 < vy4 + 10000) := tdk 10000 (by decide)
            rw [exy51]
            refine z_bipush (z := 9) C dX10_saysNumber_20 (by decide) ?_
            refine z_icmp_le (tgt := 33) C dX10_saysNumber_22 (by decide) (by omega) (by omega) (fun _ => ?_) (fun h => absurd h (by omega))
            refine z_iload_n C 0 dX10_saysNumber_33 rfl ?_
            refine z_if_le (tgt := 58) C dX10_saysNumber_34 (by decide) (by omega) (fun h => absurd h (by omega)) (fun _ => ?_)
            refine z_aload_n C 2 dX10_saysNumber_37 rfl ?_
            refine z_bipush (z := 48) C dX10_saysNumber_38 (by decide) ?_
            refine z_iload_n C 1 dX10_saysNumber_40 rfl ?_
            refine z_iload_n C 0 dX10_saysNumber_41 rfl ?_
            refine z_idiv C dX10_saysNumber_42 (by omega) (by omega) (by omega) ?_
            obtain ⟨xy52, exy52, hxy52⟩ : ∃ x9, (vy4).tdiv 10000 = x9 ∧ (0 ≤ vy4 → 0 ≤ x9 ∧ 10000 * x9 ≤ vy4 ∧ vy4 < 10000 * x9 + 10000) ∧ (vy4 ≤ 0 → x9 ≤ 0 ∧ vy4 ≤ 10000 * x9 ∧ 10000 * x9 < vy4 + 10000) := tdk 10000 (by decide)
            rw [exy52]
            refine z_bipush (z := 10) C dX10_saysNumber_43 (by decide) ?_
            refine z_irem C dX10_saysNumber_45 (by omega) (by omega) (by omega) ?_
            refine z_iadd C dX10_saysNumber_46 ?_
            have hey54 : F 51 = F 51 := rfl
            refine z_cV (As := [.int (zI (48 + (xy52.tmod 10)))]) (rest := []) (ci := 12) C (c_X10_says l D A cs tt N ad _ i hN _ hg _ ha24 (by omega) (48 + (xy52.tmod 10))) (lt_A0 hN rfl) hay1 hg rfl rfl mv_yX10_says q_1850 hd_yX10_says (by decide) (Nat.le_of_ble_eq_true rfl) (by decide) dX10_saysNumber_47 rfl (kV0 fun gvy53 hvy53 => ?_)
            obtain ⟨⟨Fvy53, hcvy53, hnvy53, hFvy53⟩, ⟨tvy53, htvy53⟩, hfvy53⟩ := hvy53
            have hovy53 : F 51 = F 51 := rfl
            have hqvy53 : Fvy53 51 = F 51 + 1 := by omega
            clear hnvy53 hovy53
            refine z_iload_n C 0 dX10_saysNumber_50 rfl ?_
            refine z_bipush (z := 10) C dX10_saysNumber_51 (by decide) ?_
            refine z_idiv C dX10_saysNumber_53 (by decide) (by decide) (by decide) ?_
            rw [show (10000 : Int).tdiv 10 = 1000 by decide]
            refine z_istore_n (lv' := [(3, .int (zI (1000))), (2, .int (zI (vy4))), (0, .ref (ad i)), (1, .int (zI (z)))]) C dX10_saysNumber_54 rfl (by decide) rfl ?_
            refine z_goto (tgt := 33) C dX10_saysNumber_55 (by decide) ?_
            refine z_iload_n C 0 dX10_saysNumber_33 rfl ?_
            refine z_if_le (tgt := 58) C dX10_saysNumber_34 (by decide) (by omega) (fun h => absurd h (by omega)) (fun _ => ?_)
            refine z_aload_n C 2 dX10_saysNumber_37 rfl ?_
            refine z_bipush (z := 48) C dX10_saysNumber_38 (by decide) ?_
            refine z_iload_n C 1 dX10_saysNumber_40 rfl ?_
            refine z_iload_n C 0 dX10_saysNumber_41 rfl ?_
            refine z_idiv C dX10_saysNumber_42 (by omega) (by omega) (by omega) ?_
            obtain ⟨xy55, exy55, hxy55⟩ : ∃ x9, (vy4).tdiv 1000 = x9 ∧ (0 ≤ vy4 → 0 ≤ x9 ∧ 1000 * x9 ≤ vy4 ∧ vy4 < 1000 * x9 + 1000) ∧ (vy4 ≤ 0 → x9 ≤ 0 ∧ vy4 ≤ 1000 * x9 ∧ 1000 * x9 < vy4 + 1000) := tdk 1000 (by decide)
            rw [exy55]
            refine z_bipush (z := 10) C dX10_saysNumber_43 (by decide) ?_
            refine z_irem C dX10_saysNumber_45 (by omega) (by omega) (by omega) ?_
            refine z_iadd C dX10_saysNumber_46 ?_
            have hey57 : Fvy53 51 = F 51 + 1 := hqvy53
            refine z_cV (As := [.int (zI (48 + (xy55.tmod 10)))]) (rest := []) (ci := 12) C (c_X10_says l D A cs tt N ad _ i hN _ hcvy53 _ htvy53 (by omega) (48 + (xy55.tmod 10))) (lt_A0 hN rfl) hay1 hcvy53 rfl rfl mv_yX10_says q_1850 hd_yX10_says (by decide) (Nat.le_of_ble_eq_true rfl) (by decide) dX10_saysNumber_47 rfl (kV0 fun gvy56 hvy56 => ?_)
            obtain ⟨⟨Fvy56, hcvy56, hnvy56, hFvy56⟩, ⟨tvy56, htvy56⟩, hfvy56⟩ := hvy56
            have hovy56 : Fvy53 51 = F 51 + 1 := hqvy53
            have hqvy56 : Fvy56 51 = F 51 + 2 := by omega
            clear hnvy56 hovy56
            refine z_iload_n C 0 dX10_saysNumber_50 rfl ?_
            refine z_bipush (z := 10) C dX10_saysNumber_51 (by decide) ?_
            refine z_idiv C dX10_saysNumber_53 (by decide) (by decide) (by decide) ?_
            rw [show (1000 : Int).tdiv 10 = 100 by decide]
            refine z_istore_n (lv' := [(3, .int (zI (100))), (2, .int (zI (vy4))), (0, .ref (ad i)), (1, .int (zI (z)))]) C dX10_saysNumber_54 rfl (by decide) rfl ?_
            refine z_goto (tgt := 33) C dX10_saysNumber_55 (by decide) ?_
            refine z_iload_n C 0 dX10_saysNumber_33 rfl ?_
            refine z_if_le (tgt := 58) C dX10_saysNumber_34 (by decide) (by omega) (fun h => absurd h (by omega)) (fun _ => ?_)
            refine z_aload_n C 2 dX10_saysNumber_37 rfl ?_
            refine z_bipush (z := 48) C dX10_saysNumber_38 (by decide) ?_
            refine z_iload_n C 1 dX10_saysNumber_40 rfl ?_
            refine z_iload_n C 0 dX10_saysNumber_41 rfl ?_
            refine z_idiv C dX10_saysNumber_42 (by omega) (by omega) (by omega) ?_
            obtain ⟨xy58, exy58, hxy58⟩ : ∃ x9, (vy4).tdiv 100 = x9 ∧ (0 ≤ vy4 → 0 ≤ x9 ∧ 100 * x9 ≤ vy4 ∧ vy4 < 100 * x9 + 100) ∧ (vy4 ≤ 0 → x9 ≤ 0 ∧ vy4 ≤ 100 * x9 ∧ 100 * x9 < vy4 + 100) := tdk 100 (by decide)
            rw [exy58]
            refine z_bipush (z := 10) C dX10_saysNumber_43 (by decide) ?_
            refine z_irem C dX10_saysNumber_45 (by omega) (by omega) (by omega) ?_
            refine z_iadd C dX10_saysNumber_46 ?_
            have hey60 : Fvy56 51 = F 51 + 2 := hqvy56
            refine z_cV (As := [.int (zI (48 + (xy58.tmod 10)))]) (rest := []) (ci := 12) C (c_X10_says l D A cs tt N ad _ i hN _ hcvy56 _ htvy56 (by omega) (48 + (xy58.tmod 10))) (lt_A0 hN rfl) hay1 hcvy56 rfl rfl mv_yX10_says q_1850 hd_yX10_says (by decide) (Nat.le_of_ble_eq_true rfl) (by decide) dX10_saysNumber_47 rfl (kV0 fun gvy59 hvy59 => ?_)
            obtain ⟨⟨Fvy59, hcvy59, hnvy59, hFvy59⟩, ⟨tvy59, htvy59⟩, hfvy59⟩ := hvy59
            have hovy59 : Fvy56 51 = F 51 + 2 := hqvy56
            have hqvy59 : Fvy59 51 = F 51 + 3 := by omega
            clear hnvy59 hovy59
            refine z_iload_n C 0 dX10_saysNumber_50 rfl ?_
            refine z_bipush (z := 10) C dX10_saysNumber_51 (by decide) ?_
            refine z_idiv C dX10_saysNumber_53 (by decide) (by decide) (by decide) ?_
            rw [show (100 : Int).tdiv 10 = 10 by decide]
            refine z_istore_n (lv' := [(3, .int (zI (10))), (2, .int (zI (vy4))), (0, .ref (ad i)), (1, .int (zI (z)))]) C dX10_saysNumber_54 rfl (by decide) rfl ?_
            refine z_goto (tgt := 33) C dX10_saysNumber_55 (by decide) ?_
            refine z_iload_n C 0 dX10_saysNumber_33 rfl ?_
            refine z_if_le (tgt := 58) C dX10_saysNumber_34 (by decide) (by omega) (fun h => absurd h (by omega)) (fun _ => ?_)
            refine z_aload_n C 2 dX10_saysNumber_37 rfl ?_
            refine z_bipush (z := 48) C dX10_saysNumber_38 (by decide) ?_
            refine z_iload_n C 1 dX10_saysNumber_40 rfl ?_
            refine z_iload_n C 0 dX10_saysNumber_41 rfl ?_
            refine z_idiv C dX10_saysNumber_42 (by omega) (by omega) (by omega) ?_
            obtain ⟨xy61, exy61, hxy61⟩ : ∃ x9, (vy4).tdiv 10 = x9 ∧ (0 ≤ vy4 → 0 ≤ x9 ∧ 10 * x9 ≤ vy4 ∧ vy4 < 10 * x9 + 10) ∧ (vy4 ≤ 0 → x9 ≤ 0 ∧ vy4 ≤ 10 * x9 ∧ 10 * x9 < vy4 + 10) := tdk 10 (by decide)
            rw [exy61]
            refine z_bipush (z := 10) C dX10_saysNumber_43 (by decide) ?_
            refine z_irem C dX10_saysNumber_45 (by omega) (by omega) (by omega) ?_
            refine z_iadd C dX10_saysNumber_46 ?_
            have hey63 : Fvy59 51 = F 51 + 3 := hqvy59
            refine z_cV (As := [.int (zI (48 + (xy61.tmod 10)))]) (rest := []) (ci := 12) C (c_X10_says l D A cs tt N ad _ i hN _ hcvy59 _ htvy59 (by omega) (48 + (xy61.tmod 10))) (lt_A0 hN rfl) hay1 hcvy59 rfl rfl mv_yX10_says q_1850 hd_yX10_says (by decide) (Nat.le_of_ble_eq_true rfl) (by decide) dX10_saysNumber_47 rfl (kV0 fun gvy62 hvy62 => ?_)
            obtain ⟨⟨Fvy62, hcvy62, hnvy62, hFvy62⟩, ⟨tvy62, htvy62⟩, hfvy62⟩ := hvy62
            have hovy62 : Fvy59 51 = F 51 + 3 := hqvy59
            have hqvy62 : Fvy62 51 = F 51 + 4 := by omega
            clear hnvy62 hovy62
            refine z_iload_n C 0 dX10_saysNumber_50 rfl ?_
            refine z_bipush (z := 10) C dX10_saysNumber_51 (by decide) ?_
            refine z_idiv C dX10_saysNumber_53 (by decide) (by decide) (by decide) ?_
            rw [show (10 : Int).tdiv 10 = 1 by decide]
            refine z_istore_n (lv' := [(3, .int (zI (1))), (2, .int (zI (vy4))), (0, .ref (ad i)), (1, .int (zI (z)))]) C dX10_saysNumber_54 rfl (by decide) rfl ?_
            refine z_goto (tgt := 33) C dX10_saysNumber_55 (by decide) ?_
            refine z_iload_n C 0 dX10_saysNumber_33 rfl ?_
            refine z_if_le (tgt := 58) C dX10_saysNumber_34 (by decide) (by omega) (fun h => absurd h (by omega)) (fun _ => ?_)
            refine z_aload_n C 2 dX10_saysNumber_37 rfl ?_
            refine z_bipush (z := 48) C dX10_saysNumber_38 (by decide) ?_
            refine z_iload_n C 1 dX10_saysNumber_40 rfl ?_
            refine z_iload_n C 0 dX10_saysNumber_41 rfl ?_
            refine z_idiv C dX10_saysNumber_42 (by omega) (by omega) (by omega) ?_
            obtain ⟨xy64, exy64, hxy64⟩ : ∃ x9, (vy4).tdiv 1 = x9 ∧ (0 ≤ vy4 → 0 ≤ x9 ∧ 1 * x9 ≤ vy4 ∧ vy4 < 1 * x9 + 1) ∧ (vy4 ≤ 0 → x9 ≤ 0 ∧ vy4 ≤ 1 * x9 ∧ 1 * x9 < vy4 + 1) := tdk 1 (by decide)
            rw [exy64]
            refine z_bipush (z := 10) C dX10_saysNumber_43 (by decide) ?_
            refine z_irem C dX10_saysNumber_45 (by omega) (by omega) (by omega) ?_
            refine z_iadd C dX10_saysNumber_46 ?_
            have hey66 : Fvy62 51 = F 51 + 4 := hqvy62
            refine z_cV (As := [.int (zI (48 + (xy64.tmod 10)))]) (rest := []) (ci := 12) C (c_X10_says l D A cs tt N ad _ i hN _ hcvy62 _ htvy62 (by omega) (48 + (xy64.tmod 10))) (lt_A0 hN rfl) hay1 hcvy62 rfl rfl mv_yX10_says q_1850 hd_yX10_says (by decide) (Nat.le_of_ble_eq_true rfl) (by decide) dX10_saysNumber_47 rfl (kV0 fun gvy65 hvy65 => ?_)
            obtain ⟨⟨Fvy65, hcvy65, hnvy65, hFvy65⟩, ⟨tvy65, htvy65⟩, hfvy65⟩ := hvy65
            have hovy65 : Fvy62 51 = F 51 + 4 := hqvy62
            have hqvy65 : Fvy65 51 = F 51 + 5 := by omega
            clear hnvy65 hovy65
            refine z_iload_n C 0 dX10_saysNumber_50 rfl ?_
            refine z_bipush (z := 10) C dX10_saysNumber_51 (by decide) ?_
            refine z_idiv C dX10_saysNumber_53 (by decide) (by decide) (by decide) ?_
            rw [show (1 : Int).tdiv 10 = 0 by decide]
            refine z_istore_n (lv' := [(3, .int (zI (0))), (2, .int (zI (vy4))), (0, .ref (ad i)), (1, .int (zI (z)))]) C dX10_saysNumber_54 rfl (by decide) rfl ?_
            refine z_goto (tgt := 33) C dX10_saysNumber_55 (by decide) ?_
            refine z_iload_n C 0 dX10_saysNumber_33 rfl ?_
            refine z_if_le (tgt := 58) C dX10_saysNumber_34 (by decide) (by omega) (fun _ => ?_) (fun h => absurd h (by omega))
            have hFy67 : ∀ f, f ≠ 51 → Fvy65 f = F f := fun f n51 => ((hFvy65 f n51).trans ((hFvy62 f n51).trans ((hFvy59 f n51).trans ((hFvy56 f n51).trans (hFvy53 f n51)))))
            have hey68 : Fvy65 51 = F 51 + 5 := hqvy65
            exact z_vret C hr hlk dX10_saysNumber_58 (by decide) (by decide) ⟨rfl, rfl, rfl, ⟨_, hcvy65, by omega, hFy67⟩, ⟨_, htvy65⟩, fun j j1 j2 => by rw [hfvy65 _ (by omega) (by omega)]; rw [hfvy62 _ (by omega) (by omega)]; rw [hfvy59 _ (by omega) (by omega)]; rw [hfvy56 _ (by omega) (by omega)]; rw [hfvy53 _ (by omega) (by omega)]⟩
  · refine z_aload_n C 0 dX10_saysNumber_4 rfl ?_
    refine z_bipush (z := 45) C dX10_saysNumber_5 (by decide) ?_
    have hey70 : F 51 = F 51 := rfl
    refine z_cV (As := [.int (zI (45))]) (rest := []) (ci := 12) C (c_X10_says l D A cs tt N ad _ i hN _ hg _ ha24 (by omega) (45)) (lt_A0 hN rfl) hay1 hg rfl rfl mv_yX10_says q_1850 hd_yX10_says (by decide) (Nat.le_of_ble_eq_true rfl) (by decide) dX10_saysNumber_7 rfl (kV0 fun gvy69 hvy69 => ?_)
    obtain ⟨⟨Fvy69, hcvy69, hnvy69, hFvy69⟩, ⟨tvy69, htvy69⟩, hfvy69⟩ := hvy69
    have hovy69 : F 51 = F 51 := rfl
    have hqvy69 : Fvy69 51 = F 51 + 1 := by omega
    clear hnvy69 hovy69
    refine z_iload_n C 1 dX10_saysNumber_10 rfl ?_
    refine z_cS (As := [.int (zI (z))]) (rest := []) C (c_X10_spanX l D A cs tt N ad _ (z) (by omega)) ms_yX10_span q_1839 hd_yX10_span (by decide) (Nat.le_of_ble_eq_true rfl) (by decide) dX10_saysNumber_11 rfl (kI0 fun vy71 gvy71 hvy71 => ?_)
    obtain ⟨hvy71, rfl⟩ := hvy71
    refine z_istore_n (lv' := [(2, .int (zI (vy71))), (0, .ref (ad i)), (1, .int (zI (z)))]) C dX10_saysNumber_14 rfl (by decide) rfl ?_
    refine z_iconst (z := 1) C dX10_saysNumber_15 rfl ?_
    refine z_istore_n (lv' := [(3, .int (zI (1))), (2, .int (zI (vy71))), (0, .ref (ad i)), (1, .int (zI (z)))]) C dX10_saysNumber_16 rfl (by decide) rfl ?_
    refine z_iload_n C 1 dX10_saysNumber_17 rfl ?_
    refine z_iload_n C 0 dX10_saysNumber_18 rfl ?_
    refine z_idiv C dX10_saysNumber_19 (by omega) (by omega) (by omega) ?_
    obtain ⟨xy72, exy72, hxy72⟩ : ∃ x9, (vy71).tdiv 1 = x9 ∧ (0 ≤ vy71 → 0 ≤ x9 ∧ 1 * x9 ≤ vy71 ∧ vy71 < 1 * x9 + 1) ∧ (vy71 ≤ 0 → x9 ≤ 0 ∧ vy71 ≤ 1 * x9 ∧ 1 * x9 < vy71 + 1) := tdk 1 (by decide)
    rw [exy72]
    refine z_bipush (z := 9) C dX10_saysNumber_20 (by decide) ?_
    refine z_icmp_le (tgt := 33) C dX10_saysNumber_22 (by decide) (by omega) (by omega) (fun hby73 => ?_) (fun hby73 => ?_)
    · refine z_iload_n C 0 dX10_saysNumber_33 rfl ?_
      refine z_if_le (tgt := 58) C dX10_saysNumber_34 (by decide) (by omega) (fun h => absurd h (by omega)) (fun _ => ?_)
      refine z_aload_n C 2 dX10_saysNumber_37 rfl ?_
      refine z_bipush (z := 48) C dX10_saysNumber_38 (by decide) ?_
      refine z_iload_n C 1 dX10_saysNumber_40 rfl ?_
      refine z_iload_n C 0 dX10_saysNumber_41 rfl ?_
      refine z_idiv C dX10_saysNumber_42 (by omega) (by omega) (by omega) ?_
      obtain ⟨xy74, exy74, hxy74⟩ : ∃ x9, (vy71).tdiv 1 = x9 ∧ (0 ≤ vy71 → 0 ≤ x9 ∧ 1 * x9 ≤ vy71 ∧ vy71 < 1 * x9 + 1) ∧ (vy71 ≤ 0 → x9 ≤ 0 ∧ vy71 ≤ 1 * x9 ∧ 1 * x9 < vy71 + 1) := tdk 1 (by decide)
      rw [exy74]
      refine z_bipush (z := 10) C dX10_saysNumber_43 (by decide) ?_
      refine z_irem C dX10_saysNumber_45 (by omega) (by omega) (by omega) ?_
      refine z_iadd C dX10_saysNumber_46 ?_
      have hey76 : Fvy69 51 = F 51 + 1 := hqvy69
      refine z_cV (As := [.int (zI (48 + (xy74.tmod 10)))]) (rest := []) (ci := 12) C (c_X10_says l D A cs tt N ad _ i hN _ hcvy69 _ htvy69 (by omega) (48 + (xy74.tmod 10))) (lt_A0 hN rfl) hay1 hcvy69 rfl rfl mv_yX10_says q_1850 hd_yX10_says (by decide) (Nat.le_of_ble_eq_true rfl) (by decide) dX10_saysNumber_47 rfl (kV0 fun gvy75 hvy75 => ?_)
      obtain ⟨⟨Fvy75, hcvy75, hnvy75, hFvy75⟩, ⟨tvy75, htvy75⟩, hfvy75⟩ := hvy75
      have hovy75 : Fvy69 51 = F 51 + 1 := hqvy69
      have hqvy75 : Fvy75 51 = F 51 + 2 := by omega
      clear hnvy75 hovy75
      refine z_iload_n C 0 dX10_saysNumber_50 rfl ?_
      refine z_bipush (z := 10) C dX10_saysNumber_51 (by decide) ?_
      refine z_idiv C dX10_saysNumber_53 (by decide) (by decide) (by decide) ?_
      rw [show (1 : Int).tdiv 10 = 0 by decide]
      refine z_istore_n (lv' := [(3, .int (zI (0))), (2, .int (zI (vy71))), (0, .ref (ad i)), (1, .int (zI (z)))]) C dX10_saysNumber_54 rfl (by decide) rfl ?_
      refine z_goto (tgt := 33) C dX10_saysNumber_55 (by decide) ?_
      refine z_iload_n C 0 dX10_saysNumber_33 rfl ?_
      refine z_if_le (tgt := 58) C dX10_saysNumber_34 (by decide) (by omega) (fun _ => ?_) (fun h => absurd h (by omega))
      have hFy77 : ∀ f, f ≠ 51 → Fvy75 f = F f := fun f n51 => ((hFvy75 f n51).trans (hFvy69 f n51))
      have hey78 : Fvy75 51 = F 51 + 2 := hqvy75
      exact z_vret C hr hlk dX10_saysNumber_58 (by decide) (by decide) ⟨rfl, rfl, rfl, ⟨_, hcvy75, by omega, hFy77⟩, ⟨_, htvy75⟩, fun j j1 j2 => by rw [hfvy75 _ (by omega) (by omega)]; rw [hfvy69 _ (by omega) (by omega)]⟩
    · refine z_iload_n C 0 dX10_saysNumber_25 rfl ?_
      refine z_bipush (z := 10) C dX10_saysNumber_26 (by decide) ?_
      refine z_imul C dX10_saysNumber_28 ?_
      rw [show (1 : Int) * 10 = 10 by decide]
      refine z_istore_n (lv' := [(3, .int (zI (10))), (2, .int (zI (vy71))), (0, .ref (ad i)), (1, .int (zI (z)))]) C dX10_saysNumber_29 rfl (by decide) rfl ?_
      refine z_goto (tgt := 17) C dX10_saysNumber_30 (by decide) ?_
      refine z_iload_n C 1 dX10_saysNumber_17 rfl ?_
      refine z_iload_n C 0 dX10_saysNumber_18 rfl ?_
      refine z_idiv C dX10_saysNumber_19 (by omega) (by omega) (by omega) ?_
      obtain ⟨xy79, exy79, hxy79⟩ : ∃ x9, (vy71).tdiv 10 = x9 ∧ (0 ≤ vy71 → 0 ≤ x9 ∧ 10 * x9 ≤ vy71 ∧ vy71 < 10 * x9 + 10) ∧ (vy71 ≤ 0 → x9 ≤ 0 ∧ vy71 ≤ 10 * x9 ∧ 10 * x9 < vy71 + 10) := tdk 10 (by decide)
      rw [exy79]
      refine z_bipush (z := 9) C dX10_saysNumber_20 (by decide) ?_
      refine z_icmp_le (tgt := 33) C dX10_saysNumber_22 (by decide) (by omega) (by omega) (fun hby80 => ?_) (fun hby80 => ?_)
      · refine z_iload_n C 0 dX10_saysNumber_33 rfl ?_
        refine z_if_le (tgt := 58) C dX10_saysNumber_34 (by decide) (by omega) (fun h => absurd h (by omega)) (fun _ => ?_)
        refine z_aload_n C 2 dX10_saysNumber_37 rfl ?_
        refine z_bipush (z := 48) C dX10_saysNumber_38 (by decide) ?_
        refine z_iload_n C 1 dX10_saysNumber_40 rfl ?_
        refine z_iload_n C 0 dX10_saysNumber_41 rfl ?_
        refine z_idiv C dX10_saysNumber_42 (by omega) (by omega) (by omega) ?_
        obtain ⟨xy81, exy81, hxy81⟩ : ∃ x9, (vy71).tdiv 10 = x9 ∧ (0 ≤ vy71 → 0 ≤ x9 ∧ 10 * x9 ≤ vy71 ∧ vy71 < 10 * x9 + 10) ∧ (vy71 ≤ 0 → x9 ≤ 0 ∧ vy71 ≤ 10 * x9 ∧ 10 * x9 < vy71 + 10) := tdk 10 (by decide)
        rw [exy81]
        refine z_bipush (z := 10) C dX10_saysNumber_43 (by decide) ?_
        refine z_irem C dX10_saysNumber_45 (by omega) (by omega) (by omega) ?_
        refine z_iadd C dX10_saysNumber_46 ?_
        have hey83 : Fvy69 51 = F 51 + 1 := hqvy69
        refine z_cV (As := [.int (zI (48 + (xy81.tmod 10)))]) (rest := []) (ci := 12) C (c_X10_says l D A cs tt N ad _ i hN _ hcvy69 _ htvy69 (by omega) (48 + (xy81.tmod 10))) (lt_A0 hN rfl) hay1 hcvy69 rfl rfl mv_yX10_says q_1850 hd_yX10_says (by decide) (Nat.le_of_ble_eq_true rfl) (by decide) dX10_saysNumber_47 rfl (kV0 fun gvy82 hvy82 => ?_)
        obtain ⟨⟨Fvy82, hcvy82, hnvy82, hFvy82⟩, ⟨tvy82, htvy82⟩, hfvy82⟩ := hvy82
        have hovy82 : Fvy69 51 = F 51 + 1 := hqvy69
        have hqvy82 : Fvy82 51 = F 51 + 2 := by omega
        clear hnvy82 hovy82
        refine z_iload_n C 0 dX10_saysNumber_50 rfl ?_
        refine z_bipush (z := 10) C dX10_saysNumber_51 (by decide) ?_
        refine z_idiv C dX10_saysNumber_53 (by decide) (by decide) (by decide) ?_
        rw [show (10 : Int).tdiv 10 = 1 by decide]
        refine z_istore_n (lv' := [(3, .int (zI (1))), (2, .int (zI (vy71))), (0, .ref (ad i)), (1, .int (zI (z)))]) C dX10_saysNumber_54 rfl (by decide) rfl ?_
        refine z_goto (tgt := 33) C dX10_saysNumber_55 (by decide) ?_
        refine z_iload_n C 0 dX10_saysNumber_33 rfl ?_
        refine z_if_le (tgt := 58) C dX10_saysNumber_34 (by decide) (by omega) (fun h => absurd h (by omega)) (fun _ => ?_)
        refine z_aload_n C 2 dX10_saysNumber_37 rfl ?_
        refine z_bipush (z := 48) C dX10_saysNumber_38 (by decide) ?_
        refine z_iload_n C 1 dX10_saysNumber_40 rfl ?_
        refine z_iload_n C 0 dX10_saysNumber_41 rfl ?_
        refine z_idiv C dX10_saysNumber_42 (by omega) (by omega) (by omega) ?_
        obtain ⟨xy84, exy84, hxy84⟩ : ∃ x9, (vy71).tdiv 1 = x9 ∧ (0 ≤ vy71 → 0 ≤ x9 ∧ 1 * x9 ≤ vy71 ∧ vy71 < 1 * x9 + 1) ∧ (vy71 ≤ 0 → x9 ≤ 0 ∧ vy71 ≤ 1 * x9 ∧ 1 * x9 < vy71 + 1) := tdk 1 (by decide)
        rw [exy84]
        refine z_bipush (z := 10) C dX10_saysNumber_43 (by decide) ?_
        refine z_irem C dX10_saysNumber_45 (by omega) (by omega) (by omega) ?_
        refine z_iadd C dX10_saysNumber_46 ?_
        have hey86 : Fvy82 51 = F 51 + 2 := hqvy82
        refine z_cV (As := [.int (zI (48 + (xy84.tmod 10)))]) (rest := []) (ci := 12) C (c_X10_says l D A cs tt N ad _ i hN _ hcvy82 _ htvy82 (by omega) (48 + (xy84.tmod 10))) (lt_A0 hN rfl) hay1 hcvy82 rfl rfl mv_yX10_says q_1850 hd_yX10_says (by decide) (Nat.le_of_ble_eq_true rfl) (by decide) dX10_saysNumber_47 rfl (kV0 fun gvy85 hvy85 => ?_)
        obtain ⟨⟨Fvy85, hcvy85, hnvy85, hFvy85⟩, ⟨tvy85, htvy85⟩, hfvy85⟩ := hvy85
        have hovy85 : Fvy82 51 = F 51 + 2 := hqvy82
        have hqvy85 : Fvy85 51 = F 51 + 3 := by omega
        clear hnvy85 hovy85
        refine z_iload_n C 0 dX10_saysNumber_50 rfl ?_
        refine z_bipush (z := 10) C dX10_saysNumber_51 (by decide) ?_
        refine z_idiv C dX10_saysNumber_53 (by decide) (by decide) (by decide) ?_
        rw [show (1 : Int).tdiv 10 = 0 by decide]
        refine z_istore_n (lv' := [(3, .int (zI (0))), (2, .int (zI (vy71))), (0, .ref (ad i)), (1, .int (zI (z)))]) C dX10_saysNumber_54 rfl (by decide) rfl ?_
        refine z_goto (tgt := 33) C dX10_saysNumber_55 (by decide) ?_
        refine z_iload_n C 0 dX10_saysNumber_33 rfl ?_
        refine z_if_le (tgt := 58) C dX10_saysNumber_34 (by decide) (by omega) (fun _ => ?_) (fun h => absurd h (by omega))
        have hFy87 : ∀ f, f ≠ 51 → Fvy85 f = F f := fun f n51 => ((hFvy85 f n51).trans ((hFvy82 f n51).trans (hFvy69 f n51)))
        have hey88 : Fvy85 51 = F 51 + 3 := hqvy85
        exact z_vret C hr hlk dX10_saysNumber_58 (by decide) (by decide) ⟨rfl, rfl, rfl, ⟨_, hcvy85, by omega, hFy87⟩, ⟨_, htvy85⟩, fun j j1 j2 => by rw [hfvy85 _ (by omega) (by omega)]; rw [hfvy82 _ (by omega) (by omega)]; rw [hfvy69 _ (by omega) (by omega)]⟩
      · refine z_iload_n C 0 dX10_saysNumber_25 rfl ?_
        refine z_bipush (z := 10) C dX10_saysNumber_26 (by decide) ?_
        refine z_imul C dX10_saysNumber_28 ?_
        rw [show (10 : Int) * 10 = 100 by decide]
        refine z_istore_n (lv' := [(3, .int (zI (100))), (2, .int (zI (vy71))), (0, .ref (ad i)), (1, .int (zI (z)))]) C dX10_saysNumber_29 rfl (by decide) rfl ?_
        refine z_goto (tgt := 17) C dX10_saysNumber_30 (by decide) ?_
        refine z_iload_n C 1 dX10_saysNumber_17 rfl ?_
        refine z_iload_n C 0 dX10_saysNumber_18 rfl ?_
        refine z_idiv C dX10_saysNumber_19 (by omega) (by omega) (by omega) ?_
        obtain ⟨xy89, exy89, hxy89⟩ : ∃ x9, (vy71).tdiv 100 = x9 ∧ (0 ≤ vy71 → 0 ≤ x9 ∧ 100 * x9 ≤ vy71 ∧ vy71 < 100 * x9 + 100) ∧ (vy71 ≤ 0 → x9 ≤ 0 ∧ vy71 ≤ 100 * x9 ∧ 100 * x9 < vy71 + 100) := tdk 100 (by decide)
        rw [exy89]
        refine z_bipush (z := 9) C dX10_saysNumber_20 (by decide) ?_
        refine z_icmp_le (tgt := 33) C dX10_saysNumber_22 (by decide) (by omega) (by omega) (fun hby90 => ?_) (fun hby90 => ?_)
        · refine z_iload_n C 0 dX10_saysNumber_33 rfl ?_
          refine z_if_le (tgt := 58) C dX10_saysNumber_34 (by decide) (by omega) (fun h => absurd h (by omega)) (fun _ => ?_)
          refine z_aload_n C 2 dX10_saysNumber_37 rfl ?_
          refine z_bipush (z := 48) C dX10_saysNumber_38 (by decide) ?_
          refine z_iload_n C 1 dX10_saysNumber_40 rfl ?_
          refine z_iload_n C 0 dX10_saysNumber_41 rfl ?_
          refine z_idiv C dX10_saysNumber_42 (by omega) (by omega) (by omega) ?_
          obtain ⟨xy91, exy91, hxy91⟩ : ∃ x9, (vy71).tdiv 100 = x9 ∧ (0 ≤ vy71 → 0 ≤ x9 ∧ 100 * x9 ≤ vy71 ∧ vy71 < 100 * x9 + 100) ∧ (vy71 ≤ 0 → x9 ≤ 0 ∧ vy71 ≤ 100 * x9 ∧ 100 * x9 < vy71 + 100) := tdk 100 (by decide)
          rw [exy91]
          refine z_bipush (z := 10) C dX10_saysNumber_43 (by decide) ?_
          refine z_irem C dX10_saysNumber_45 (by omega) (by omega) (by omega) ?_
          refine z_iadd C dX10_saysNumber_46 ?_
          have hey93 : Fvy69 51 = F 51 + 1 := hqvy69
          refine z_cV (As := [.int (zI (48 + (xy91.tmod 10)))]) (rest := []) (ci := 12) C (c_X10_says l D A cs tt N ad _ i hN _ hcvy69 _ htvy69 (by omega) (48 + (xy91.tmod 10))) (lt_A0 hN rfl) hay1 hcvy69 rfl rfl mv_yX10_says q_1850 hd_yX10_says (by decide) (Nat.le_of_ble_eq_true rfl) (by decide) dX10_saysNumber_47 rfl (kV0 fun gvy92 hvy92 => ?_)
          obtain ⟨⟨Fvy92, hcvy92, hnvy92, hFvy92⟩, ⟨tvy92, htvy92⟩, hfvy92⟩ := hvy92
          have hovy92 : Fvy69 51 = F 51 + 1 := hqvy69
          have hqvy92 : Fvy92 51 = F 51 + 2 := by omega
          clear hnvy92 hovy92
          refine z_iload_n C 0 dX10_saysNumber_50 rfl ?_
          refine z_bipush (z := 10) C dX10_saysNumber_51 (by decide) ?_
          refine z_idiv C dX10_saysNumber_53 (by decide) (by decide) (by decide) ?_
          rw [show (100 : Int).tdiv 10 = 10 by decide]
          refine z_istore_n (lv' := [(3, .int (zI (10))), (2, .int (zI (vy71))), (0, .ref (ad i)), (1, .int (zI (z)))]) C dX10_saysNumber_54 rfl (by decide) rfl ?_
          refine z_goto (tgt := 33) C dX10_saysNumber_55 (by decide) ?_
          refine z_iload_n C 0 dX10_saysNumber_33 rfl ?_
          refine z_if_le (tgt := 58) C dX10_saysNumber_34 (by decide) (by omega) (fun h => absurd h (by omega)) (fun _ => ?_)
          refine z_aload_n C 2 dX10_saysNumber_37 rfl ?_
          refine z_bipush (z := 48) C dX10_saysNumber_38 (by decide) ?_
          refine z_iload_n C 1 dX10_saysNumber_40 rfl ?_
          refine z_iload_n C 0 dX10_saysNumber_41 rfl ?_
          refine z_idiv C dX10_saysNumber_42 (by omega) (by omega) (by omega) ?_
          obtain ⟨xy94, exy94, hxy94⟩ : ∃ x9, (vy71).tdiv 10 = x9 ∧ (0 ≤ vy71 → 0 ≤ x9 ∧ 10 * x9 ≤ vy71 ∧ vy71 < 10 * x9 + 10) ∧ (vy71 ≤ 0 → x9 ≤ 0 ∧ vy71 ≤ 10 * x9 ∧ 10 * x9 < vy71 + 10) := tdk 10 (by decide)
          rw [exy94]
          refine z_bipush (z := 10) C dX10_saysNumber_43 (by decide) ?_
          refine z_irem C dX10_saysNumber_45 (by omega) (by omega) (by omega) ?_
          refine z_iadd C dX10_saysNumber_46 ?_
          have hey96 : Fvy92 51 = F 51 + 2 := hqvy92
          refine z_cV (As := [.int (zI (48 + (xy94.tmod 10)))]) (rest := []) (ci := 12) C (c_X10_says l D A cs tt N ad _ i hN _ hcvy92 _ htvy92 (by omega) (48 + (xy94.tmod 10))) (lt_A0 hN rfl) hay1 hcvy92 rfl rfl mv_yX10_says q_1850 hd_yX10_says (by decide) (Nat.le_of_ble_eq_true rfl) (by decide) dX10_saysNumber_47 rfl (kV0 fun gvy95 hvy95 => ?_)
          obtain ⟨⟨Fvy95, hcvy95, hnvy95, hFvy95⟩, ⟨tvy95, htvy95⟩, hfvy95⟩ := hvy95
          have hovy95 : Fvy92 51 = F 51 + 2 := hqvy92
          have hqvy95 : Fvy95 51 = F 51 + 3 := by omega
          clear hnvy95 hovy95
          refine z_iload_n C 0 dX10_saysNumber_50 rfl ?_
          refine z_bipush (z := 10) C dX10_saysNumber_51 (by decide) ?_
          refine z_idiv C dX10_saysNumber_53 (by decide) (by decide) (by decide) ?_
          rw [show (10 : Int).tdiv 10 = 1 by decide]
          refine z_istore_n (lv' := [(3, .int (zI (1))), (2, .int (zI (vy71))), (0, .ref (ad i)), (1, .int (zI (z)))]) C dX10_saysNumber_54 rfl (by decide) rfl ?_
          refine z_goto (tgt := 33) C dX10_saysNumber_55 (by decide) ?_
          refine z_iload_n C 0 dX10_saysNumber_33 rfl ?_
          refine z_if_le (tgt := 58) C dX10_saysNumber_34 (by decide) (by omega) (fun h => absurd h (by omega)) (fun _ => ?_)
          refine z_aload_n C 2 dX10_saysNumber_37 rfl ?_
          refine z_bipush (z := 48) C dX10_saysNumber_38 (by decide) ?_
          refine z_iload_n C 1 dX10_saysNumber_40 rfl ?_
          refine z_iload_n C 0 dX10_saysNumber_41 rfl ?_
          refine z_idiv C dX10_saysNumber_42 (by omega) (by omega) (by omega) ?_
          obtain ⟨xy97, exy97, hxy97⟩ : ∃ x9, (vy71).tdiv 1 = x9 ∧ (0 ≤ vy71 → 0 ≤ x9 ∧ 1 * x9 ≤ vy71 ∧ vy71 < 1 * x9 + 1) ∧ (vy71 ≤ 0 → x9 ≤ 0 ∧ vy71 ≤ 1 * x9 ∧ 1 * x9 < vy71 + 1) := tdk 1 (by decide)
          rw [exy97]
          refine z_bipush (z := 10) C dX10_saysNumber_43 (by decide) ?_
          refine z_irem C dX10_saysNumber_45 (by omega) (by omega) (by omega) ?_
          refine z_iadd C dX10_saysNumber_46 ?_
          have hey99 : Fvy95 51 = F 51 + 3 := hqvy95
          refine z_cV (As := [.int (zI (48 + (xy97.tmod 10)))]) (rest := []) (ci := 12) C (c_X10_says l D A cs tt N ad _ i hN _ hcvy95 _ htvy95 (by omega) (48 + (xy97.tmod 10))) (lt_A0 hN rfl) hay1 hcvy95 rfl rfl mv_yX10_says q_1850 hd_yX10_says (by decide) (Nat.le_of_ble_eq_true rfl) (by decide) dX10_saysNumber_47 rfl (kV0 fun gvy98 hvy98 => ?_)
          obtain ⟨⟨Fvy98, hcvy98, hnvy98, hFvy98⟩, ⟨tvy98, htvy98⟩, hfvy98⟩ := hvy98
          have hovy98 : Fvy95 51 = F 51 + 3 := hqvy95
          have hqvy98 : Fvy98 51 = F 51 + 4 := by omega
          clear hnvy98 hovy98
          refine z_iload_n C 0 dX10_saysNumber_50 rfl ?_
          refine z_bipush (z := 10) C dX10_saysNumber_51 (by decide) ?_
          refine z_idiv C dX10_saysNumber_53 (by decide) (by decide) (by decide) ?_
          rw [show (1 : Int).tdiv 10 = 0 by decide]
          refine z_istore_n (lv' := [(3, .int (zI (0))), (2, .int (zI (vy71))), (0, .ref (ad i)), (1, .int (zI (z)))]) C dX10_saysNumber_54 rfl (by decide) rfl ?_
          refine z_goto (tgt := 33) C dX10_saysNumber_55 (by decide) ?_
          refine z_iload_n C 0 dX10_saysNumber_33 rfl ?_
          refine z_if_le (tgt := 58) C dX10_saysNumber_34 (by decide) (by omega) (fun _ => ?_) (fun h => absurd h (by omega))
          have hFy100 : ∀ f, f ≠ 51 → Fvy98 f = F f := fun f n51 => ((hFvy98 f n51).trans ((hFvy95 f n51).trans ((hFvy92 f n51).trans (hFvy69 f n51))))
          have hey101 : Fvy98 51 = F 51 + 4 := hqvy98
          exact z_vret C hr hlk dX10_saysNumber_58 (by decide) (by decide) ⟨rfl, rfl, rfl, ⟨_, hcvy98, by omega, hFy100⟩, ⟨_, htvy98⟩, fun j j1 j2 => by rw [hfvy98 _ (by omega) (by omega)]; rw [hfvy95 _ (by omega) (by omega)]; rw [hfvy92 _ (by omega) (by omega)]; rw [hfvy69 _ (by omega) (by omega)]⟩
        · refine z_iload_n C 0 dX10_saysNumber_25 rfl ?_
          refine z_bipush (z := 10) C dX10_saysNumber_26 (by decide) ?_
          refine z_imul C dX10_saysNumber_28 ?_
          rw [show (100 : Int) * 10 = 1000 by decide]
          refine z_istore_n (lv' := [(3, .int (zI (1000))), (2, .int (zI (vy71))), (0, .ref (ad i)), (1, .int (zI (z)))]) C dX10_saysNumber_29 rfl (by decide) rfl ?_
          refine z_goto (tgt := 17) C dX10_saysNumber_30 (by decide) ?_
          refine z_iload_n C 1 dX10_saysNumber_17 rfl ?_
          refine z_iload_n C 0 dX10_saysNumber_18 rfl ?_
          refine z_idiv C dX10_saysNumber_19 (by omega) (by omega) (by omega) ?_
          obtain ⟨xy102, exy102, hxy102⟩ : ∃ x9, (vy71).tdiv 1000 = x9 ∧ (0 ≤ vy71 → 0 ≤ x9 ∧ 1000 * x9 ≤ vy71 ∧ vy71 < 1000 * x9 + 1000) ∧ (vy71 ≤ 0 → x9 ≤ 0 ∧ vy71 ≤ 1000 * x9 ∧ 1000 * x9 < vy71 + 1000) := tdk 1000 (by decide)
          rw [exy102]
          refine z_bipush (z := 9) C dX10_saysNumber_20 (by decide) ?_
          refine z_icmp_le (tgt := 33) C dX10_saysNumber_22 (by decide) (by omega) (by omega) (fun hby103 => ?_) (fun hby103 => ?_)
          · refine z_iload_n C 0 dX10_saysNumber_33 rfl ?_
            refine z_if_le (tgt := 58) C dX10_saysNumber_34 (by decide) (by omega) (fun h => absurd h (by omega)) (fun _ => ?_)
            refine z_aload_n C 2 dX10_saysNumber_37 rfl ?_
            refine z_bipush (z := 48) C dX10_saysNumber_38 (by decide) ?_
            refine z_iload_n C 1 dX10_saysNumber_40 rfl ?_
            refine z_iload_n C 0 dX10_saysNumber_41 rfl ?_
            refine z_idiv C dX10_saysNumber_42 (by omega) (by omega) (by omega) ?_
            obtain ⟨xy104, exy104, hxy104⟩ : ∃ x9, (vy71).tdiv 1000 = x9 ∧ (0 ≤ vy71 → 0 ≤ x9 ∧ 1000 * x9 ≤ vy71 ∧ vy71 < 1000 * x9 + 1000) ∧ (vy71 ≤ 0 → x9 ≤ 0 ∧ vy71 ≤ 1000 * x9 ∧ 1000 * x9 < vy71 + 1000) := tdk 1000 (by decide)
            rw [exy104]
            refine z_bipush (z := 10) C dX10_saysNumber_43 (by decide) ?_
            refine z_irem C dX10_saysNumber_45 (by omega) (by omega) (by omega) ?_
            refine z_iadd C dX10_saysNumber_46 ?_
            have hey106 : Fvy69 51 = F 51 + 1 := hqvy69
            refine z_cV (As := [.int (zI (48 + (xy104.tmod 10)))]) (rest := []) (ci := 12) C (c_X10_says l D A cs tt N ad _ i hN _ hcvy69 _ htvy69 (by omega) (48 + (xy104.tmod 10))) (lt_A0 hN rfl) hay1 hcvy69 rfl rfl mv_yX10_says q_1850 hd_yX10_says (by decide) (Nat.le_of_ble_eq_true rfl) (by decide) dX10_saysNumber_47 rfl (kV0 fun gvy105 hvy105 => ?_)
            obtain ⟨⟨Fvy105, hcvy105, hnvy105, hFvy105⟩, ⟨tvy105, htvy105⟩, hfvy105⟩ := hvy105
            have hovy105 : Fvy69 51 = F 51 + 1 := hqvy69
            have hqvy105 : Fvy105 51 = F 51 + 2 := by omega
            clear hnvy105 hovy105
            refine z_iload_n C 0 dX10_saysNumber_50 rfl ?_
            refine z_bipush (z := 10) C dX10_saysNumber_51 (by decide) ?_
            refine z_idiv C dX10_saysNumber_53 (by decide) (by decide) (by decide) ?_
            rw [show (1000 : Int).tdiv 10 = 100 by decide]
            refine z_istore_n (lv' := [(3, .int (zI (100))), (2, .int (zI (vy71))), (0, .ref (ad i)), (1, .int (zI (z)))]) C dX10_saysNumber_54 rfl (by decide) rfl ?_
            refine z_goto (tgt := 33) C dX10_saysNumber_55 (by decide) ?_
            refine z_iload_n C 0 dX10_saysNumber_33 rfl ?_
            refine z_if_le (tgt := 58) C dX10_saysNumber_34 (by decide) (by omega) (fun h => absurd h (by omega)) (fun _ => ?_)
            refine z_aload_n C 2 dX10_saysNumber_37 rfl ?_
            refine z_bipush (z := 48) C dX10_saysNumber_38 (by decide) ?_
            refine z_iload_n C 1 dX10_saysNumber_40 rfl ?_
            refine z_iload_n C 0 dX10_saysNumber_41 rfl ?_
            refine z_idiv C dX10_saysNumber_42 (by omega) (by omega) (by omega) ?_
            obtain ⟨xy107, exy107, hxy107⟩ : ∃ x9, (vy71).tdiv 100 = x9 ∧ (0 ≤ vy71 → 0 ≤ x9 ∧ 100 * x9 ≤ vy71 ∧ vy71 < 100 * x9 + 100) ∧ (vy71 ≤ 0 → x9 ≤ 0 ∧ vy71 ≤ 100 * x9 ∧ 100 * x9 < vy71 + 100) := tdk 100 (by decide)
            rw [exy107]
            refine z_bipush (z := 10) C dX10_saysNumber_43 (by decide) ?_
            refine z_irem C dX10_saysNumber_45 (by omega) (by omega) (by omega) ?_
            refine z_iadd C dX10_saysNumber_46 ?_
            have hey109 : Fvy105 51 = F 51 + 2 := hqvy105
            refine z_cV (As := [.int (zI (48 + (xy107.tmod 10)))]) (rest := []) (ci := 12) C (c_X10_says l D A cs tt N ad _ i hN _ hcvy105 _ htvy105 (by omega) (48 + (xy107.tmod 10))) (lt_A0 hN rfl) hay1 hcvy105 rfl rfl mv_yX10_says q_1850 hd_yX10_says (by decide) (Nat.le_of_ble_eq_true rfl) (by decide) dX10_saysNumber_47 rfl (kV0 fun gvy108 hvy108 => ?_)
            obtain ⟨⟨Fvy108, hcvy108, hnvy108, hFvy108⟩, ⟨tvy108, htvy108⟩, hfvy108⟩ := hvy108
            have hovy108 : Fvy105 51 = F 51 + 2 := hqvy105
            have hqvy108 : Fvy108 51 = F 51 + 3 := by omega
            clear hnvy108 hovy108
            refine z_iload_n C 0 dX10_saysNumber_50 rfl ?_
            refine z_bipush (z := 10) C dX10_saysNumber_51 (by decide) ?_
            refine z_idiv C dX10_saysNumber_53 (by decide) (by decide) (by decide) ?_
            rw [show (100 : Int).tdiv 10 = 10 by decide]
            refine z_istore_n (lv' := [(3, .int (zI (10))), (2, .int (zI (vy71))), (0, .ref (ad i)), (1, .int (zI (z)))]) C dX10_saysNumber_54 rfl (by decide) rfl ?_
            refine z_goto (tgt := 33) C dX10_saysNumber_55 (by decide) ?_
            refine z_iload_n C 0 dX10_saysNumber_33 rfl ?_
            refine z_if_le (tgt := 58) C dX10_saysNumber_34 (by decide) (by omega) (fun h => absurd h (by omega)) (fun _ => ?_)
            refine z_aload_n C 2 dX10_saysNumber_37 rfl ?_
            refine z_bipush (z := 48) C dX10_saysNumber_38 (by decide) ?_
            refine z_iload_n C 1 dX10_saysNumber_40 rfl ?_
            refine z_iload_n C 0 dX10_saysNumber_41 rfl ?_
            refine z_idiv C dX10_saysNumber_42 (by omega) (by omega) (by omega) ?_
            obtain ⟨xy110, exy110, hxy110⟩ : ∃ x9, (vy71).tdiv 10 = x9 ∧ (0 ≤ vy71 → 0 ≤ x9 ∧ 10 * x9 ≤ vy71 ∧ vy71 < 10 * x9 + 10) ∧ (vy71 ≤ 0 → x9 ≤ 0 ∧ vy71 ≤ 10 * x9 ∧ 10 * x9 < vy71 + 10) := tdk 10 (by decide)
            rw [exy110]
            refine z_bipush (z := 10) C dX10_saysNumber_43 (by decide) ?_
            refine z_irem C dX10_saysNumber_45 (by omega) (by omega) (by omega) ?_
            refine z_iadd C dX10_saysNumber_46 ?_
            have hey112 : Fvy108 51 = F 51 + 3 := hqvy108
            refine z_cV (As := [.int (zI (48 + (xy110.tmod 10)))]) (rest := []) (ci := 12) C (c_X10_says l D A cs tt N ad _ i hN _ hcvy108 _ htvy108 (by omega) (48 + (xy110.tmod 10))) (lt_A0 hN rfl) hay1 hcvy108 rfl rfl mv_yX10_says q_1850 hd_yX10_says (by decide) (Nat.le_of_ble_eq_true rfl) (by decide) dX10_saysNumber_47 rfl (kV0 fun gvy111 hvy111 => ?_)
            obtain ⟨⟨Fvy111, hcvy111, hnvy111, hFvy111⟩, ⟨tvy111, htvy111⟩, hfvy111⟩ := hvy111
            have hovy111 : Fvy108 51 = F 51 + 3 := hqvy108
            have hqvy111 : Fvy111 51 = F 51 + 4 := by omega
            clear hnvy111 hovy111
            refine z_iload_n C 0 dX10_saysNumber_50 rfl ?_
            refine z_bipush (z := 10) C dX10_saysNumber_51 (by decide) ?_
            refine z_idiv C dX10_saysNumber_53 (by decide) (by decide) (by decide) ?_
            rw [show (10 : Int).tdiv 10 = 1 by decide]
            refine z_istore_n (lv' := [(3, .int (zI (1))), (2, .int (zI (vy71))), (0, .ref (ad i)), (1, .int (zI (z)))]) C dX10_saysNumber_54 rfl (by decide) rfl ?_
            refine z_goto (tgt := 33) C dX10_saysNumber_55 (by decide) ?_
            refine z_iload_n C 0 dX10_saysNumber_33 rfl ?_
            refine z_if_le (tgt := 58) C dX10_saysNumber_34 (by decide) (by omega) (fun h => absurd h (by omega)) (fun _ => ?_)
            refine z_aload_n C 2 dX10_saysNumber_37 rfl ?_
            refine z_bipush (z := 48) C dX10_saysNumber_38 (by decide) ?_
            refine z_iload_n C 1 dX10_saysNumber_40 rfl ?_
            refine z_iload_n C 0 dX10_saysNumber_41 rfl ?_
            refine z_idiv C dX10_saysNumber_42 (by omega) (by omega) (by omega) ?_
            obtain ⟨xy113, exy113, hxy113⟩ : ∃ x9, (vy71).tdiv 1 = x9 ∧ (0 ≤ vy71 → 0 ≤ x9 ∧ 1 * x9 ≤ vy71 ∧ vy71 < 1 * x9 + 1) ∧ (vy71 ≤ 0 → x9 ≤ 0 ∧ vy71 ≤ 1 * x9 ∧ 1 * x9 < vy71 + 1) := tdk 1 (by decide)
            rw [exy113]
            refine z_bipush (z := 10) C dX10_saysNumber_43 (by decide) ?_
            refine z_irem C dX10_saysNumber_45 (by omega) (by omega) (by omega) ?_
            refine z_iadd C dX10_saysNumber_46 ?_
            have hey115 : Fvy111 51 = F 51 + 4 := hqvy111
            refine z_cV (As := [.int (zI (48 + (xy113.tmod 10)))]) (rest := []) (ci := 12) C (c_X10_says l D A cs tt N ad _ i hN _ hcvy111 _ htvy111 (by omega) (48 + (xy113.tmod 10))) (lt_A0 hN rfl) hay1 hcvy111 rfl rfl mv_yX10_says q_1850 hd_yX10_says (by decide) (Nat.le_of_ble_eq_true rfl) (by decide) dX10_saysNumber_47 rfl (kV0 fun gvy114 hvy114 => ?_)
            obtain ⟨⟨Fvy114, hcvy114, hnvy114, hFvy114⟩, ⟨tvy114, htvy114⟩, hfvy114⟩ := hvy114
            have hovy114 : Fvy111 51 = F 51 + 4 := hqvy111
            have hqvy114 : Fvy114 51 = F 51 + 5 := by omega
            clear hnvy114 hovy114
            refine z_iload_n C 0 dX10_saysNumber_50 rfl ?_
            refine z_bipush (z := 10) C dX10_saysNumber_51 (by decide) ?_
            refine z_idiv C dX10_saysNumber_53 (by decide) (by decide) (by decide) ?_
            rw [show (1 : Int).tdiv 10 = 0 by decide]
            refine z_istore_n (lv' := [(3, .int (zI (0))), (2, .int (zI (vy71))), (0, .ref (ad i)), (1, .int (zI (z)))]) C dX10_saysNumber_54 rfl (by decide) rfl ?_
            refine z_goto (tgt := 33) C dX10_saysNumber_55 (by decide) ?_
            refine z_iload_n C 0 dX10_saysNumber_33 rfl ?_
            refine z_if_le (tgt := 58) C dX10_saysNumber_34 (by decide) (by omega) (fun _ => ?_) (fun h => absurd h (by omega))
            have hFy116 : ∀ f, f ≠ 51 → Fvy114 f = F f := fun f n51 => ((hFvy114 f n51).trans ((hFvy111 f n51).trans ((hFvy108 f n51).trans ((hFvy105 f n51).trans (hFvy69 f n51)))))
            have hey117 : Fvy114 51 = F 51 + 5 := hqvy114
            exact z_vret C hr hlk dX10_saysNumber_58 (by decide) (by decide) ⟨rfl, rfl, rfl, ⟨_, hcvy114, by omega, hFy116⟩, ⟨_, htvy114⟩, fun j j1 j2 => by rw [hfvy114 _ (by omega) (by omega)]; rw [hfvy111 _ (by omega) (by omega)]; rw [hfvy108 _ (by omega) (by omega)]; rw [hfvy105 _ (by omega) (by omega)]; rw [hfvy69 _ (by omega) (by omega)]⟩
          · refine z_iload_n C 0 dX10_saysNumber_25 rfl ?_
            refine z_bipush (z := 10) C dX10_saysNumber_26 (by decide) ?_
            refine z_imul C dX10_saysNumber_28 ?_
            rw [show (1000 : Int) * 10 = 10000 by decide]
            refine z_istore_n (lv' := [(3, .int (zI (10000))), (2, .int (zI (vy71))), (0, .ref (ad i)), (1, .int (zI (z)))]) C dX10_saysNumber_29 rfl (by decide) rfl ?_
            refine z_goto (tgt := 17) C dX10_saysNumber_30 (by decide) ?_
            refine z_iload_n C 1 dX10_saysNumber_17 rfl ?_
            refine z_iload_n C 0 dX10_saysNumber_18 rfl ?_
            refine z_idiv C dX10_saysNumber_19 (by omega) (by omega) (by omega) ?_
            obtain ⟨xy118, exy118, hxy118⟩ : ∃ x9, (vy71).tdiv 10000 = x9 ∧ (0 ≤ vy71 → 0 ≤ x9 ∧ 10000 * x9 ≤ vy71 ∧ vy71 < 10000 * x9 + 10000) ∧ (vy71 ≤ 0 → x9 ≤ 0 ∧ vy71 ≤ 10000 * x9 ∧ 10000 * x9 < vy71 + 10000) := tdk 10000 (by decide)
            rw [exy118]
            refine z_bipush (z := 9) C dX10_saysNumber_20 (by decide) ?_
            refine z_icmp_le (tgt := 33) C dX10_saysNumber_22 (by decide) (by omega) (by omega) (fun _ => ?_) (fun h => absurd h (by omega))
            refine z_iload_n C 0 dX10_saysNumber_33 rfl ?_
            refine z_if_le (tgt := 58) C dX10_saysNumber_34 (by decide) (by omega) (fun h => absurd h (by omega)) (fun _ => ?_)
            refine z_aload_n C 2 dX10_saysNumber_37 rfl ?_
            refine z_bipush (z := 48) C dX10_saysNumber_38 (by decide) ?_
            refine z_iload_n C 1 dX10_saysNumber_40 rfl ?_
            refine z_iload_n C 0 dX10_saysNumber_41 rfl ?_
            refine z_idiv C dX10_saysNumber_42 (by omega) (by omega) (by omega) ?_
            obtain ⟨xy119, exy119, hxy119⟩ : ∃ x9, (vy71).tdiv 10000 = x9 ∧ (0 ≤ vy71 → 0 ≤ x9 ∧ 10000 * x9 ≤ vy71 ∧ vy71 < 10000 * x9 + 10000) ∧ (vy71 ≤ 0 → x9 ≤ 0 ∧ vy71 ≤ 10000 * x9 ∧ 10000 * x9 < vy71 + 10000) := tdk 10000 (by decide)
            rw [exy119]
            refine z_bipush (z := 10) C dX10_saysNumber_43 (by decide) ?_
            refine z_irem C dX10_saysNumber_45 (by omega) (by omega) (by omega) ?_
            refine z_iadd C dX10_saysNumber_46 ?_
            have hey121 : Fvy69 51 = F 51 + 1 := hqvy69
            refine z_cV (As := [.int (zI (48 + (xy119.tmod 10)))]) (rest := []) (ci := 12) C (c_X10_says l D A cs tt N ad _ i hN _ hcvy69 _ htvy69 (by omega) (48 + (xy119.tmod 10))) (lt_A0 hN rfl) hay1 hcvy69 rfl rfl mv_yX10_says q_1850 hd_yX10_says (by decide) (Nat.le_of_ble_eq_true rfl) (by decide) dX10_saysNumber_47 rfl (kV0 fun gvy120 hvy120 => ?_)
            obtain ⟨⟨Fvy120, hcvy120, hnvy120, hFvy120⟩, ⟨tvy120, htvy120⟩, hfvy120⟩ := hvy120
            have hovy120 : Fvy69 51 = F 51 + 1 := hqvy69
            have hqvy120 : Fvy120 51 = F 51 + 2 := by omega
            clear hnvy120 hovy120
            refine z_iload_n C 0 dX10_saysNumber_50 rfl ?_
            refine z_bipush (z := 10) C dX10_saysNumber_51 (by decide) ?_
            refine z_idiv C dX10_saysNumber_53 (by decide) (by decide) (by decide) ?_
            rw [show (10000 : Int).tdiv 10 = 1000 by decide]
            refine z_istore_n (lv' := [(3, .int (zI (1000))), (2, .int (zI (vy71))), (0, .ref (ad i)), (1, .int (zI (z)))]) C dX10_saysNumber_54 rfl (by decide) rfl ?_
            refine z_goto (tgt := 33) C dX10_saysNumber_55 (by decide) ?_
            refine z_iload_n C 0 dX10_saysNumber_33 rfl ?_
            refine z_if_le (tgt := 58) C dX10_saysNumber_34 (by decide) (by omega) (fun h => absurd h (by omega)) (fun _ => ?_)
            refine z_aload_n C 2 dX10_saysNumber_37 rfl ?_
            refine z_bipush (z := 48) C dX10_saysNumber_38 (by decide) ?_
            refine z_iload_n C 1 dX10_saysNumber_40 rfl ?_
            refine z_iload_n C 0 dX10_saysNumber_41 rfl ?_
            refine z_idiv C dX10_saysNumber_42 (by omega) (by omega) (by omega) ?_
            obtain ⟨xy122, exy122, hxy122⟩ : ∃ x9, (vy71).tdiv 1000 = x9 ∧ (0 ≤ vy71 → 0 ≤ x9 ∧ 1000 * x9 ≤ vy71 ∧ vy71 < 1000 * x9 + 1000) ∧ (vy71 ≤ 0 → x9 ≤ 0 ∧ vy71 ≤ 1000 * x9 ∧ 1000 * x9 < vy71 + 1000) := tdk 1000 (by decide)
            rw [exy122]
            refine z_bipush (z := 10) C dX10_saysNumber_43 (by decide) ?_
            refine z_irem C dX10_saysNumber_45 (by omega) (by omega) (by omega) ?_
            refine z_iadd C dX10_saysNumber_46 ?_
            have hey124 : Fvy120 51 = F 51 + 2 := hqvy120
            refine z_cV (As := [.int (zI (48 + (xy122.tmod 10)))]) (rest := []) (ci := 12) C (c_X10_says l D A cs tt N ad _ i hN _ hcvy120 _ htvy120 (by omega) (48 + (xy122.tmod 10))) (lt_A0 hN rfl) hay1 hcvy120 rfl rfl mv_yX10_says q_1850 hd_yX10_says (by decide) (Nat.le_of_ble_eq_true rfl) (by decide) dX10_saysNumber_47 rfl (kV0 fun gvy123 hvy123 => ?_)
            obtain ⟨⟨Fvy123, hcvy123, hnvy123, hFvy123⟩, ⟨tvy123, htvy123⟩, hfvy123⟩ := hvy123
            have hovy123 : Fvy120 51 = F 51 + 2 := hqvy120
            have hqvy123 : Fvy123 51 = F 51 + 3 := by omega
            clear hnvy123 hovy123
            refine z_iload_n C 0 dX10_saysNumber_50 rfl ?_
            refine z_bipush (z := 10) C dX10_saysNumber_51 (by decide) ?_
            refine z_idiv C dX10_saysNumber_53 (by decide) (by decide) (by decide) ?_
            rw [show (1000 : Int).tdiv 10 = 100 by decide]
            refine z_istore_n (lv' := [(3, .int (zI (100))), (2, .int (zI (vy71))), (0, .ref (ad i)), (1, .int (zI (z)))]) C dX10_saysNumber_54 rfl (by decide) rfl ?_
            refine z_goto (tgt := 33) C dX10_saysNumber_55 (by decide) ?_
            refine z_iload_n C 0 dX10_saysNumber_33 rfl ?_
            refine z_if_le (tgt := 58) C dX10_saysNumber_34 (by decide) (by omega) (fun h => absurd h (by omega)) (fun _ => ?_)
            refine z_aload_n C 2 dX10_saysNumber_37 rfl ?_
            refine z_bipush (z := 48) C dX10_saysNumber_38 (by decide) ?_
            refine z_iload_n C 1 dX10_saysNumber_40 rfl ?_
            refine z_iload_n C 0 dX10_saysNumber_41 rfl ?_
            refine z_idiv C dX10_saysNumber_42 (by omega) (by omega) (by omega) ?_
            obtain ⟨xy125, exy125, hxy125⟩ : ∃ x9, (vy71).tdiv 100 = x9 ∧ (0 ≤ vy71 → 0 ≤ x9 ∧ 100 * x9 ≤ vy71 ∧ vy71 < 100 * x9 + 100) ∧ (vy71 ≤ 0 → x9 ≤ 0 ∧ vy71 ≤ 100 * x9 ∧ 100 * x9 < vy71 + 100) := tdk 100 (by decide)
            rw [exy125]
            refine z_bipush (z := 10) C dX10_saysNumber_43 (by decide) ?_
            refine z_irem C dX10_saysNumber_45 (by omega) (by omega) (by omega) ?_
            refine z_iadd C dX10_saysNumber_46 ?_
            have hey127 : Fvy123 51 = F 51 + 3 := hqvy123
            refine z_cV (As := [.int (zI (48 + (xy125.tmod 10)))]) (rest := []) (ci := 12) C (c_X10_says l D A cs tt N ad _ i hN _ hcvy123 _ htvy123 (by omega) (48 + (xy125.tmod 10))) (lt_A0 hN rfl) hay1 hcvy123 rfl rfl mv_yX10_says q_1850 hd_yX10_says (by decide) (Nat.le_of_ble_eq_true rfl) (by decide) dX10_saysNumber_47 rfl (kV0 fun gvy126 hvy126 => ?_)
            obtain ⟨⟨Fvy126, hcvy126, hnvy126, hFvy126⟩, ⟨tvy126, htvy126⟩, hfvy126⟩ := hvy126
            have hovy126 : Fvy123 51 = F 51 + 3 := hqvy123
            have hqvy126 : Fvy126 51 = F 51 + 4 := by omega
            clear hnvy126 hovy126
            refine z_iload_n C 0 dX10_saysNumber_50 rfl ?_
            refine z_bipush (z := 10) C dX10_saysNumber_51 (by decide) ?_
            refine z_idiv C dX10_saysNumber_53 (by decide) (by decide) (by decide) ?_
            rw [show (100 : Int).tdiv 10 = 10 by decide]
            refine z_istore_n (lv' := [(3, .int (zI (10))), (2, .int (zI (vy71))), (0, .ref (ad i)), (1, .int (zI (z)))]) C dX10_saysNumber_54 rfl (by decide) rfl ?_
            refine z_goto (tgt := 33) C dX10_saysNumber_55 (by decide) ?_
            refine z_iload_n C 0 dX10_saysNumber_33 rfl ?_
            refine z_if_le (tgt := 58) C dX10_saysNumber_34 (by decide) (by omega) (fun h => absurd h (by omega)) (fun _ => ?_)
            refine z_aload_n C 2 dX10_saysNumber_37 rfl ?_
            refine z_bipush (z := 48) C dX10_saysNumber_38 (by decide) ?_
            refine z_iload_n C 1 dX10_saysNumber_40 rfl ?_
            refine z_iload_n C 0 dX10_saysNumber_41 rfl ?_
            refine z_idiv C dX10_saysNumber_42 (by omega) (by omega) (by omega) ?_
            obtain ⟨xy128, exy128, hxy128⟩ : ∃ x9, (vy71).tdiv 10 = x9 ∧ (0 ≤ vy71 → 0 ≤ x9 ∧ 10 * x9 ≤ vy71 ∧ vy71 < 10 * x9 + 10) ∧ (vy71 ≤ 0 → x9 ≤ 0 ∧ vy71 ≤ 10 * x9 ∧ 10 * x9 < vy71 + 10) := tdk 10 (by decide)
            rw [exy128]
            refine z_bipush (z := 10) C dX10_saysNumber_43 (by decide) ?_
            refine z_irem C dX10_saysNumber_45 (by omega) (by omega) (by omega) ?_
            refine z_iadd C dX10_saysNumber_46 ?_
            have hey130 : Fvy126 51 = F 51 + 4 := hqvy126
            refine z_cV (As := [.int (zI (48 + (xy128.tmod 10)))]) (rest := []) (ci := 12) C (c_X10_says l D A cs tt N ad _ i hN _ hcvy126 _ htvy126 (by omega) (48 + (xy128.tmod 10))) (lt_A0 hN rfl) hay1 hcvy126 rfl rfl mv_yX10_says q_1850 hd_yX10_says (by decide) (Nat.le_of_ble_eq_true rfl) (by decide) dX10_saysNumber_47 rfl (kV0 fun gvy129 hvy129 => ?_)
            obtain ⟨⟨Fvy129, hcvy129, hnvy129, hFvy129⟩, ⟨tvy129, htvy129⟩, hfvy129⟩ := hvy129
            have hovy129 : Fvy126 51 = F 51 + 4 := hqvy126
            have hqvy129 : Fvy129 51 = F 51 + 5 := by omega
            clear hnvy129 hovy129
            refine z_iload_n C 0 dX10_saysNumber_50 rfl ?_
            refine z_bipush (z := 10) C dX10_saysNumber_51 (by decide) ?_
            refine z_idiv C dX10_saysNumber_53 (by decide) (by decide) (by decide) ?_
            rw [show (10 : Int).tdiv 10 = 1 by decide]
            refine z_istore_n (lv' := [(3, .int (zI (1))), (2, .int (zI (vy71))), (0, .ref (ad i)), (1, .int (zI (z)))]) C dX10_saysNumber_54 rfl (by decide) rfl ?_
            refine z_goto (tgt := 33) C dX10_saysNumber_55 (by decide) ?_
            refine z_iload_n C 0 dX10_saysNumber_33 rfl ?_
            refine z_if_le (tgt := 58) C dX10_saysNumber_34 (by decide) (by omega) (fun h => absurd h (by omega)) (fun _ => ?_)
            refine z_aload_n C 2 dX10_saysNumber_37 rfl ?_
            refine z_bipush (z := 48) C dX10_saysNumber_38 (by decide) ?_
            refine z_iload_n C 1 dX10_saysNumber_40 rfl ?_
            refine z_iload_n C 0 dX10_saysNumber_41 rfl ?_
            refine z_idiv C dX10_saysNumber_42 (by omega) (by omega) (by omega) ?_
            obtain ⟨xy131, exy131, hxy131⟩ : ∃ x9, (vy71).tdiv 1 = x9 ∧ (0 ≤ vy71 → 0 ≤ x9 ∧ 1 * x9 ≤ vy71 ∧ vy71 < 1 * x9 + 1) ∧ (vy71 ≤ 0 → x9 ≤ 0 ∧ vy71 ≤ 1 * x9 ∧ 1 * x9 < vy71 + 1) := tdk 1 (by decide)
            rw [exy131]
            refine z_bipush (z := 10) C dX10_saysNumber_43 (by decide) ?_
            refine z_irem C dX10_saysNumber_45 (by omega) (by omega) (by omega) ?_
            refine z_iadd C dX10_saysNumber_46 ?_
            have hey133 : Fvy129 51 = F 51 + 5 := hqvy129
            refine z_cV (As := [.int (zI (48 + (xy131.tmod 10)))]) (rest := []) (ci := 12) C (c_X10_says l D A cs tt N ad _ i hN _ hcvy129 _ htvy129 (by omega) (48 + (xy131.tmod 10))) (lt_A0 hN rfl) hay1 hcvy129 rfl rfl mv_yX10_says q_1850 hd_yX10_says (by decide) (Nat.le_of_ble_eq_true rfl) (by decide) dX10_saysNumber_47 rfl (kV0 fun gvy132 hvy132 => ?_)
            obtain ⟨⟨Fvy132, hcvy132, hnvy132, hFvy132⟩, ⟨tvy132, htvy132⟩, hfvy132⟩ := hvy132
            have hovy132 : Fvy129 51 = F 51 + 5 := hqvy129
            have hqvy132 : Fvy132 51 = F 51 + 6 := by omega
            clear hnvy132 hovy132
            refine z_iload_n C 0 dX10_saysNumber_50 rfl ?_
            refine z_bipush (z := 10) C dX10_saysNumber_51 (by decide) ?_
            refine z_idiv C dX10_saysNumber_53 (by decide) (by decide) (by decide) ?_
            rw [show (1 : Int).tdiv 10 = 0 by decide]
            refine z_istore_n (lv' := [(3, .int (zI (0))), (2, .int (zI (vy71))), (0, .ref (ad i)), (1, .int (zI (z)))]) C dX10_saysNumber_54 rfl (by decide) rfl ?_
            refine z_goto (tgt := 33) C dX10_saysNumber_55 (by decide) ?_
            refine z_iload_n C 0 dX10_saysNumber_33 rfl ?_
            refine z_if_le (tgt := 58) C dX10_saysNumber_34 (by decide) (by omega) (fun _ => ?_) (fun h => absurd h (by omega))
            have hFy134 : ∀ f, f ≠ 51 → Fvy132 f = F f := fun f n51 => ((hFvy132 f n51).trans ((hFvy129 f n51).trans ((hFvy126 f n51).trans ((hFvy123 f n51).trans ((hFvy120 f n51).trans (hFvy69 f n51))))))
            have hey135 : Fvy132 51 = F 51 + 6 := hqvy132
            exact z_vret C hr hlk dX10_saysNumber_58 (by decide) (by decide) ⟨rfl, rfl, rfl, ⟨_, hcvy132, by omega, hFy134⟩, ⟨_, htvy132⟩, fun j j1 j2 => by rw [hfvy132 _ (by omega) (by omega)]; rw [hfvy129 _ (by omega) (by omega)]; rw [hfvy126 _ (by omega) (by omega)]; rw [hfvy123 _ (by omega) (by omega)]; rw [hfvy120 _ (by omega) (by omega)]; rw [hfvy69 _ (by omega) (by omega)]⟩

set_option maxRecDepth 100000 in
set_option maxHeartbeats 4000000 in
theorem c_X10_saysWord (l : Launch) (D : va_G) (A : Nat → Prop) (cs : Nat → ClassId) (tt : Nat) (N : Nat) (ad : Nat → Nat) (g : Nat → va_E) (i : Nat) (hN : i + 30 ≤ N) (F : Nat → Int) (hg : g i = mC ad i F) (li : Nat → Int) (ha24 : g (i + 24) = iA cs 64 li) (h51 : 0 ≤ F 51 ∧ F 51 + 4 ≤ 64) (z z1 : Int) : zM l yX10_saysWord cX10_saysWord 3 none ({ frames := 2, cells := 0, slots := 0, locals := 120 } : Room) D A cs tt N ad g [.ref (ad i), .int (zI (z)), .int (zI (z1))] (rV0 N ad fun g' => (∃ F' : Nat → Int, g' i = mC ad i F' ∧ F' 51 = F 51 + 4 ∧ (∀ f, f ≠ 51 → F' f = F f)) ∧ (∃ t' : Nat → Int, g' (i + 24) = iA cs 64 t') ∧ ∀ j, j ≠ i → j ≠ i + 24 → g' j = g j) := by
  have hay1 : zAt ad (i) (ad i) := rfl
  have hay2 : zAt ad (i + 24) (ad (i + 24)) := rfl
  refine z_of (by decide) (Nat.le_of_ble_eq_true rfl) ?_
  intro pZ eZ sZ mZ below meth cZ C hr hlk hnm
  refine z_lv (lv' := [(0, .ref (ad i)), (1, .int (zI (z))), (2, .int (zI (z1)))]) [0, 1, 2] rfl ?_
  refine z_aload_n C 0 dX10_saysWord_0 rfl ?_
  refine z_bipush (z := 32) C dX10_saysWord_1 (by decide) ?_
  have hey4 : F 51 = F 51 := rfl
  refine z_cV (As := [.int (zI (32))]) (rest := []) (ci := 12) C (c_X10_says l D A cs tt N ad _ i hN _ hg _ ha24 (by omega) (32)) (lt_A0 hN rfl) hay1 hg rfl rfl mv_yX10_says q_1850 hd_yX10_says (by decide) (Nat.le_of_ble_eq_true rfl) (by decide) dX10_saysWord_3 rfl (kV0 fun gvy3 hvy3 => ?_)
  obtain ⟨⟨Fvy3, hcvy3, hnvy3, hFvy3⟩, ⟨tvy3, htvy3⟩, hfvy3⟩ := hvy3
  have hovy3 : F 51 = F 51 := rfl
  have hqvy3 : Fvy3 51 = F 51 + 1 := by omega
  clear hnvy3 hovy3
  refine z_aload_n C 0 dX10_saysWord_6 rfl ?_
  refine z_iload_n C 1 dX10_saysWord_7 rfl ?_
  have hey6 : Fvy3 51 = F 51 + 1 := hqvy3
  refine z_cV (As := [.int (zI (z))]) (rest := []) (ci := 12) C (c_X10_says l D A cs tt N ad _ i hN _ hcvy3 _ htvy3 (by omega) (z)) (lt_A0 hN rfl) hay1 hcvy3 rfl rfl mv_yX10_says q_1850 hd_yX10_says (by decide) (Nat.le_of_ble_eq_true rfl) (by decide) dX10_saysWord_8 rfl (kV0 fun gvy5 hvy5 => ?_)
  obtain ⟨⟨Fvy5, hcvy5, hnvy5, hFvy5⟩, ⟨tvy5, htvy5⟩, hfvy5⟩ := hvy5
  have hovy5 : Fvy3 51 = F 51 + 1 := hqvy3
  have hqvy5 : Fvy5 51 = F 51 + 2 := by omega
  clear hnvy5 hovy5
  refine z_aload_n C 0 dX10_saysWord_11 rfl ?_
  refine z_iload_n C 2 dX10_saysWord_12 rfl ?_
  have hey8 : Fvy5 51 = F 51 + 2 := hqvy5
  refine z_cV (As := [.int (zI (z1))]) (rest := []) (ci := 12) C (c_X10_says l D A cs tt N ad _ i hN _ hcvy5 _ htvy5 (by omega) (z1)) (lt_A0 hN rfl) hay1 hcvy5 rfl rfl mv_yX10_says q_1850 hd_yX10_says (by decide) (Nat.le_of_ble_eq_true rfl) (by decide) dX10_saysWord_13 rfl (kV0 fun gvy7 hvy7 => ?_)
  obtain ⟨⟨Fvy7, hcvy7, hnvy7, hFvy7⟩, ⟨tvy7, htvy7⟩, hfvy7⟩ := hvy7
  have hovy7 : Fvy5 51 = F 51 + 2 := hqvy5
  have hqvy7 : Fvy7 51 = F 51 + 3 := by omega
  clear hnvy7 hovy7
  refine z_aload_n C 0 dX10_saysWord_16 rfl ?_
  refine z_bipush (z := 32) C dX10_saysWord_17 (by decide) ?_
  have hey10 : Fvy7 51 = F 51 + 3 := hqvy7
  refine z_cV (As := [.int (zI (32))]) (rest := []) (ci := 12) C (c_X10_says l D A cs tt N ad _ i hN _ hcvy7 _ htvy7 (by omega) (32)) (lt_A0 hN rfl) hay1 hcvy7 rfl rfl mv_yX10_says q_1850 hd_yX10_says (by decide) (Nat.le_of_ble_eq_true rfl) (by decide) dX10_saysWord_19 rfl (kV0 fun gvy9 hvy9 => ?_)
  obtain ⟨⟨Fvy9, hcvy9, hnvy9, hFvy9⟩, ⟨tvy9, htvy9⟩, hfvy9⟩ := hvy9
  have hovy9 : Fvy7 51 = F 51 + 3 := hqvy7
  have hqvy9 : Fvy9 51 = F 51 + 4 := by omega
  clear hnvy9 hovy9
  have hFy11 : ∀ f, f ≠ 51 → Fvy9 f = F f := fun f n51 => ((hFvy9 f n51).trans ((hFvy7 f n51).trans ((hFvy5 f n51).trans (hFvy3 f n51))))
  have hey12 : Fvy9 51 = F 51 + 4 := hqvy9
  exact z_vret C hr hlk dX10_saysWord_22 (by decide) (by decide) ⟨rfl, rfl, rfl, ⟨_, hcvy9, by omega, hFy11⟩, ⟨_, htvy9⟩, fun j j1 j2 => by rw [hfvy9 _ (by omega) (by omega)]; rw [hfvy7 _ (by omega) (by omega)]; rw [hfvy5 _ (by omega) (by omega)]; rw [hfvy3 _ (by omega) (by omega)]⟩
end
section
-- 98b.words.lean.txt
-- words of reftold
theorem q_1846 : (Jvm.Cond.methodLink "SnowRecorderModel" (379 : Nat) ({ cls := "SnowRecorderModel", name := "saysNumber", desc := "(I)V" } : Jvm.MethodName)) ∈ AW := AW_m8 166 (by decide +kernel) (by decide +kernel)
theorem q_1848 : (Jvm.Cond.instanceMethod ({ cls := "SnowRecorderModel", name := "saysNumber", desc := "(I)V" } : Jvm.MethodName)) ∈ AW := AW_m8 168 (by decide +kernel) (by decide +kernel)
theorem q_1849 : (Jvm.Cond.code ({ cls := "SnowRecorderModel", name := "saysNumber", desc := "(I)V" } : Jvm.MethodName) prog_12_method_74_code (4 : Nat) (Option.none : Option Jvm.ClassFile.FieldType)) ∈ AW := AW_m8 169 (by decide +kernel) (by decide +kernel)
theorem q_1854 : (Jvm.Cond.methodLink "SnowRecorderModel" (382 : Nat) ({ cls := "SnowRecorderModel", name := "saysKind", desc := "(I)V" } : Jvm.MethodName)) ∈ AW := AW_m8 174 (by decide +kernel) (by decide +kernel)
theorem q_1856 : (Jvm.Cond.instanceMethod ({ cls := "SnowRecorderModel", name := "saysKind", desc := "(I)V" } : Jvm.MethodName)) ∈ AW := AW_m8 176 (by decide +kernel) (by decide +kernel)
theorem q_1857 : (Jvm.Cond.code ({ cls := "SnowRecorderModel", name := "saysKind", desc := "(I)V" } : Jvm.MethodName) prog_12_method_75_code (5 : Nat) (Option.none : Option Jvm.ClassFile.FieldType)) ∈ AW := AW_m8 177 (by decide +kernel) (by decide +kernel)
theorem q_1858 : (Jvm.Cond.methodLink "SnowRecorderModel" (385 : Nat) ({ cls := "SnowRecorderModel", name := "saysWord", desc := "(II)V" } : Jvm.MethodName)) ∈ AW := AW_m8 178 (by decide +kernel) (by decide +kernel)
theorem q_1860 : (Jvm.Cond.instanceMethod ({ cls := "SnowRecorderModel", name := "saysWord", desc := "(II)V" } : Jvm.MethodName)) ∈ AW := AW_m8 180 (by decide +kernel) (by decide +kernel)
theorem q_1861 : (Jvm.Cond.code ({ cls := "SnowRecorderModel", name := "saysWord", desc := "(II)V" } : Jvm.MethodName) prog_12_method_76_code (3 : Nat) (Option.none : Option Jvm.ClassFile.FieldType)) ∈ AW := AW_m8 181 (by decide +kernel) (by decide +kernel)
theorem s_79 : Cond.selects "SnowRecorderModel" ({ cls := "SnowRecorderModel", name := "saysNumber", desc := "(I)V" } : Jvm.MethodName) ({ cls := "SnowRecorderModel", name := "saysNumber", desc := "(I)V" } : Jvm.MethodName) ∈ AW := AW_m 79 (by decide +kernel) (by decide +kernel)
theorem s_81 : Cond.selects "SnowRecorderModel" ({ cls := "SnowRecorderModel", name := "saysKind", desc := "(I)V" } : Jvm.MethodName) ({ cls := "SnowRecorderModel", name := "saysKind", desc := "(I)V" } : Jvm.MethodName) ∈ AW := AW_m 81 (by decide +kernel) (by decide +kernel)
theorem s_82 : Cond.selects "SnowRecorderModel" ({ cls := "SnowRecorderModel", name := "saysWord", desc := "(II)V" } : Jvm.MethodName) ({ cls := "SnowRecorderModel", name := "saysWord", desc := "(II)V" } : Jvm.MethodName) ∈ AW := AW_m 82 (by decide +kernel) (by decide +kernel)
theorem hd_yX10_saysNumber : yX10_saysNumber.cls ≠ "java/lang/invoke/MethodHandle" ∧ yX10_saysNumber.cls ≠ "java/lang/invoke/VarHandle" ∧ (parseMethodDescriptor yX10_saysNumber.desc).map (fun d => d.parameters.length) = some 1 := by decide +kernel
theorem hd_yX10_saysKind : yX10_saysKind.cls ≠ "java/lang/invoke/MethodHandle" ∧ yX10_saysKind.cls ≠ "java/lang/invoke/VarHandle" ∧ (parseMethodDescriptor yX10_saysKind.desc).map (fun d => d.parameters.length) = some 1 := by decide +kernel
theorem hd_yX10_saysWord : yX10_saysWord.cls ≠ "java/lang/invoke/MethodHandle" ∧ yX10_saysWord.cls ≠ "java/lang/invoke/VarHandle" ∧ (parseMethodDescriptor yX10_saysWord.desc).map (fun d => d.parameters.length) = some 2 := by decide +kernel
theorem mv_yX10_saysNumber : zWv yX10_saysNumber cX10_saysNumber 4 none := ⟨q_1848, s_79, q_15, q_1849⟩
theorem mv_yX10_saysKind : zWv yX10_saysKind cX10_saysKind 5 none := ⟨q_1856, s_81, q_15, q_1857⟩
theorem mv_yX10_saysWord : zWv yX10_saysWord cX10_saysWord 3 none := ⟨q_1860, s_82, q_15, q_1861⟩
end
section
-- 98c.dec.lean.txt
-- decode rows of reftold
theorem dX10_saysKind_50 : decode cX10_saysKind 50 = .ok (.getstatic 244, 3) := by decide +kernel
theorem dX10_saysKind_53 : decode cX10_saysKind 53 = .ok (.iload_n 3, 1) := by decide +kernel
theorem dX10_saysKind_54 : decode cX10_saysKind 54 = .ok (.baload, 1) := by decide +kernel
theorem dX10_saysKind_55 : decode cX10_saysKind 55 = .ok (.bipush 32, 2) := by decide +kernel
theorem dX10_saysKind_57 : decode cX10_saysKind 57 = .ok (.if_icmp .eq 18, 3) := by decide +kernel
theorem dX10_saysKind_75 : decode cX10_saysKind 75 = .ok (.return_, 1) := by decide +kernel
theorem dX10_saysKind_60 : decode cX10_saysKind 60 = .ok (.aload_n 0, 1) := by decide +kernel
theorem dX10_saysKind_61 : decode cX10_saysKind 61 = .ok (.getstatic 244, 3) := by decide +kernel
theorem dX10_saysKind_64 : decode cX10_saysKind 64 = .ok (.iload_n 3, 1) := by decide +kernel
theorem dX10_saysKind_65 : decode cX10_saysKind 65 = .ok (.baload, 1) := by decide +kernel
theorem dX10_saysKind_66 : decode cX10_saysKind 66 = .ok (.invokevirtual 376, 3) := by decide +kernel
theorem dX10_saysKind_69 : decode cX10_saysKind 69 = .ok (.iinc 3 1, 3) := by decide +kernel
theorem dX10_saysKind_72 : decode cX10_saysKind 72 = .ok (.goto (-22), 3) := by decide +kernel
theorem dX10_saysKind_19 : decode cX10_saysKind 19 = .ok (.iload 4, 2) := by decide +kernel
theorem dX10_saysKind_21 : decode cX10_saysKind 21 = .ok (.iload_n 2, 1) := by decide +kernel
theorem dX10_saysKind_22 : decode cX10_saysKind 22 = .ok (.if_icmp .ge 28, 3) := by decide +kernel
theorem dX10_saysKind_25 : decode cX10_saysKind 25 = .ok (.getstatic 244, 3) := by decide +kernel
theorem dX10_saysKind_28 : decode cX10_saysKind 28 = .ok (.iload_n 3, 1) := by decide +kernel
theorem dX10_saysKind_29 : decode cX10_saysKind 29 = .ok (.baload, 1) := by decide +kernel
theorem dX10_saysKind_30 : decode cX10_saysKind 30 = .ok (.bipush 32, 2) := by decide +kernel
theorem dX10_saysKind_32 : decode cX10_saysKind 32 = .ok (.if_icmp .eq 9, 3) := by decide +kernel
theorem dX10_saysKind_41 : decode cX10_saysKind 41 = .ok (.iinc 3 1, 3) := by decide +kernel
theorem dX10_saysKind_44 : decode cX10_saysKind 44 = .ok (.iinc 4 1, 3) := by decide +kernel
theorem dX10_saysKind_47 : decode cX10_saysKind 47 = .ok (.goto (-28), 3) := by decide +kernel
theorem dX10_saysKind_35 : decode cX10_saysKind 35 = .ok (.iinc 3 1, 3) := by decide +kernel
theorem dX10_saysKind_38 : decode cX10_saysKind 38 = .ok (.goto (-13), 3) := by decide +kernel
theorem dX10_saysKind_0 : decode cX10_saysKind 0 = .ok (.iload_n 1, 1) := by decide +kernel
theorem dX10_saysKind_1 : decode cX10_saysKind 1 = .ok (.iconst 4, 1) := by decide +kernel
theorem dX10_saysKind_2 : decode cX10_saysKind 2 = .ok (.if_icmp .ne 7, 3) := by decide +kernel
theorem dX10_saysKind_9 : decode cX10_saysKind 9 = .ok (.bipush 9, 2) := by decide +kernel
theorem dX10_saysKind_11 : decode cX10_saysKind 11 = .ok (.iload_n 1, 1) := by decide +kernel
theorem dX10_saysKind_12 : decode cX10_saysKind 12 = .ok (.iadd, 1) := by decide +kernel
theorem dX10_saysKind_13 : decode cX10_saysKind 13 = .ok (.istore_n 2, 1) := by decide +kernel
theorem dX10_saysKind_14 : decode cX10_saysKind 14 = .ok (.iconst 0, 1) := by decide +kernel
theorem dX10_saysKind_15 : decode cX10_saysKind 15 = .ok (.istore_n 3, 1) := by decide +kernel
theorem dX10_saysKind_16 : decode cX10_saysKind 16 = .ok (.iconst 0, 1) := by decide +kernel
theorem dX10_saysKind_17 : decode cX10_saysKind 17 = .ok (.istore 4, 2) := by decide +kernel
theorem dX10_saysKind_5 : decode cX10_saysKind 5 = .ok (.iconst 5, 1) := by decide +kernel
theorem dX10_saysKind_6 : decode cX10_saysKind 6 = .ok (.goto 7, 3) := by decide +kernel
theorem dX10_told_0 : decode cX10_told 0 = .ok (.aload_n 0, 1) := by decide +kernel
theorem dX10_told_1 : decode cX10_told 1 = .ok (.iconst 0, 1) := by decide +kernel
theorem dX10_told_2 : decode cX10_told 2 = .ok (.putfield 110, 3) := by decide +kernel
theorem dX10_told_5 : decode cX10_told 5 = .ok (.aload_n 0, 1) := by decide +kernel
theorem dX10_told_6 : decode cX10_told 6 = .ok (.iload_n 1, 1) := by decide +kernel
theorem dX10_told_7 : decode cX10_told 7 = .ok (.iload_n 2, 1) := by decide +kernel
theorem dX10_told_8 : decode cX10_told 8 = .ok (.invokevirtual 370, 3) := by decide +kernel
theorem dX10_told_11 : decode cX10_told 11 = .ok (.ifCond .ne 5, 3) := by decide +kernel
theorem dX10_told_16 : decode cX10_told 16 = .ok (.aload_n 0, 1) := by decide +kernel
theorem dX10_told_17 : decode cX10_told 17 = .ok (.iconst 0, 1) := by decide +kernel
theorem dX10_told_18 : decode cX10_told 18 = .ok (.putfield 373, 3) := by decide +kernel
theorem dX10_told_21 : decode cX10_told 21 = .ok (.aload_n 0, 1) := by decide +kernel
theorem dX10_told_22 : decode cX10_told 22 = .ok (.aload_n 0, 1) := by decide +kernel
theorem dX10_told_23 : decode cX10_told 23 = .ok (.iconst 0, 1) := by decide +kernel
theorem dX10_told_24 : decode cX10_told 24 = .ok (.iload_n 1, 1) := by decide +kernel
theorem dX10_told_25 : decode cX10_told 25 = .ok (.iload_n 2, 1) := by decide +kernel
theorem dX10_told_26 : decode cX10_told 26 = .ok (.bipush 6, 2) := by decide +kernel
theorem dX10_told_28 : decode cX10_told 28 = .ok (.invokevirtual 117, 3) := by decide +kernel
theorem dX10_told_31 : decode cX10_told 31 = .ok (.invokevirtual 379, 3) := by decide +kernel
theorem dX10_told_34 : decode cX10_told 34 = .ok (.aload_n 0, 1) := by decide +kernel
theorem dX10_told_35 : decode cX10_told 35 = .ok (.bipush 32, 2) := by decide +kernel
theorem dX10_told_37 : decode cX10_told 37 = .ok (.invokevirtual 376, 3) := by decide +kernel
theorem dX10_told_40 : decode cX10_told 40 = .ok (.aload_n 0, 1) := by decide +kernel
theorem dX10_told_41 : decode cX10_told 41 = .ok (.aload_n 0, 1) := by decide +kernel
theorem dX10_told_42 : decode cX10_told 42 = .ok (.iconst 0, 1) := by decide +kernel
theorem dX10_told_43 : decode cX10_told 43 = .ok (.iload_n 1, 1) := by decide +kernel
theorem dX10_told_44 : decode cX10_told 44 = .ok (.iload_n 2, 1) := by decide +kernel
theorem dX10_told_45 : decode cX10_told 45 = .ok (.iconst 0, 1) := by decide +kernel
theorem dX10_told_46 : decode cX10_told 46 = .ok (.invokevirtual 117, 3) := by decide +kernel
theorem dX10_told_49 : decode cX10_told 49 = .ok (.invokevirtual 382, 3) := by decide +kernel
theorem dX10_told_52 : decode cX10_told 52 = .ok (.aload_n 0, 1) := by decide +kernel
theorem dX10_told_53 : decode cX10_told 53 = .ok (.bipush 111, 2) := by decide +kernel
theorem dX10_told_55 : decode cX10_told 55 = .ok (.bipush 102, 2) := by decide +kernel
theorem dX10_told_57 : decode cX10_told 57 = .ok (.invokevirtual 385, 3) := by decide +kernel
theorem dX10_told_60 : decode cX10_told 60 = .ok (.aload_n 0, 1) := by decide +kernel
theorem dX10_told_61 : decode cX10_told 61 = .ok (.aload_n 0, 1) := by decide +kernel
theorem dX10_told_62 : decode cX10_told 62 = .ok (.iconst 0, 1) := by decide +kernel
theorem dX10_told_63 : decode cX10_told 63 = .ok (.iload_n 1, 1) := by decide +kernel
theorem dX10_told_64 : decode cX10_told 64 = .ok (.iload_n 2, 1) := by decide +kernel
theorem dX10_told_65 : decode cX10_told 65 = .ok (.iconst 1, 1) := by decide +kernel
theorem dX10_told_66 : decode cX10_told 66 = .ok (.invokevirtual 117, 3) := by decide +kernel
theorem dX10_told_69 : decode cX10_told 69 = .ok (.invokevirtual 379, 3) := by decide +kernel
theorem dX10_told_72 : decode cX10_told 72 = .ok (.aload_n 0, 1) := by decide +kernel
theorem dX10_told_73 : decode cX10_told 73 = .ok (.iconst 0, 1) := by decide +kernel
theorem dX10_told_74 : decode cX10_told 74 = .ok (.iload_n 1, 1) := by decide +kernel
theorem dX10_told_75 : decode cX10_told 75 = .ok (.iload_n 2, 1) := by decide +kernel
theorem dX10_told_76 : decode cX10_told 76 = .ok (.iconst 2, 1) := by decide +kernel
theorem dX10_told_77 : decode cX10_told 77 = .ok (.invokevirtual 117, 3) := by decide +kernel
theorem dX10_told_80 : decode cX10_told 80 = .ok (.ifCond .le 45, 3) := by decide +kernel
theorem dX10_told_125 : decode cX10_told 125 = .ok (.aload_n 0, 1) := by decide +kernel
theorem dX10_told_126 : decode cX10_told 126 = .ok (.bipush 105, 2) := by decide +kernel
theorem dX10_told_128 : decode cX10_told 128 = .ok (.bipush 110, 2) := by decide +kernel
theorem dX10_told_130 : decode cX10_told 130 = .ok (.invokevirtual 385, 3) := by decide +kernel
theorem dX10_told_133 : decode cX10_told 133 = .ok (.aload_n 0, 1) := by decide +kernel
theorem dX10_told_134 : decode cX10_told 134 = .ok (.aload_n 0, 1) := by decide +kernel
theorem dX10_told_135 : decode cX10_told 135 = .ok (.iconst 0, 1) := by decide +kernel
theorem dX10_told_136 : decode cX10_told 136 = .ok (.iload_n 1, 1) := by decide +kernel
theorem dX10_told_137 : decode cX10_told 137 = .ok (.iload_n 2, 1) := by decide +kernel
theorem dX10_told_138 : decode cX10_told 138 = .ok (.iconst 3, 1) := by decide +kernel
theorem dX10_told_139 : decode cX10_told 139 = .ok (.invokevirtual 117, 3) := by decide +kernel
theorem dX10_told_142 : decode cX10_told 142 = .ok (.invokevirtual 379, 3) := by decide +kernel
theorem dX10_told_145 : decode cX10_told 145 = .ok (.aload_n 0, 1) := by decide +kernel
theorem dX10_told_146 : decode cX10_told 146 = .ok (.bipush 97, 2) := by decide +kernel
theorem dX10_told_148 : decode cX10_told 148 = .ok (.bipush 116, 2) := by decide +kernel
theorem dX10_told_150 : decode cX10_told 150 = .ok (.invokevirtual 385, 3) := by decide +kernel
theorem dX10_told_153 : decode cX10_told 153 = .ok (.aload_n 0, 1) := by decide +kernel
theorem dX10_told_154 : decode cX10_told 154 = .ok (.aload_n 0, 1) := by decide +kernel
theorem dX10_told_155 : decode cX10_told 155 = .ok (.iconst 0, 1) := by decide +kernel
theorem dX10_told_156 : decode cX10_told 156 = .ok (.iload_n 1, 1) := by decide +kernel
theorem dX10_told_157 : decode cX10_told 157 = .ok (.iload_n 2, 1) := by decide +kernel
theorem dX10_told_158 : decode cX10_told 158 = .ok (.iconst 4, 1) := by decide +kernel
theorem dX10_told_159 : decode cX10_told 159 = .ok (.invokevirtual 117, 3) := by decide +kernel
theorem dX10_told_162 : decode cX10_told 162 = .ok (.invokevirtual 379, 3) := by decide +kernel
theorem dX10_told_165 : decode cX10_told 165 = .ok (.aload_n 0, 1) := by decide +kernel
theorem dX10_told_166 : decode cX10_told 166 = .ok (.bipush 59, 2) := by decide +kernel
theorem dX10_told_168 : decode cX10_told 168 = .ok (.invokevirtual 376, 3) := by decide +kernel
theorem dX10_told_171 : decode cX10_told 171 = .ok (.iload_n 3, 1) := by decide +kernel
theorem dX10_told_172 : decode cX10_told 172 = .ok (.iconst (-1), 1) := by decide +kernel
theorem dX10_told_173 : decode cX10_told 173 = .ok (.if_icmp .ne 8, 3) := by decide +kernel
theorem dX10_told_181 : decode cX10_told 181 = .ok (.aload_n 0, 1) := by decide +kernel
theorem dX10_told_182 : decode cX10_told 182 = .ok (.iload_n 3, 1) := by decide +kernel
theorem dX10_told_183 : decode cX10_told 183 = .ok (.iconst 0, 1) := by decide +kernel
theorem dX10_told_184 : decode cX10_told 184 = .ok (.aload_n 0, 1) := by decide +kernel
theorem dX10_told_185 : decode cX10_told 185 = .ok (.getfield 373, 3) := by decide +kernel
theorem dX10_told_188 : decode cX10_told 188 = .ok (.iconst 1, 1) := by decide +kernel
theorem dX10_told_189 : decode cX10_told 189 = .ok (.isub, 1) := by decide +kernel
theorem dX10_told_190 : decode cX10_told 190 = .ok (.invokestatic 281, 3) := by decide +kernel
theorem dX10_told_193 : decode cX10_told 193 = .ok (.iconst 1, 1) := by decide +kernel
theorem dX10_told_194 : decode cX10_told 194 = .ok (.invokevirtual 324, 3) := by decide +kernel
theorem dX10_told_197 : decode cX10_told 197 = .ok (.ifCond .eq 12, 3) := by decide +kernel
theorem dX10_told_200 : decode cX10_told 200 = .ok (.aload_n 0, 1) := by decide +kernel
theorem dX10_told_201 : decode cX10_told 201 = .ok (.getfield 89, 3) := by decide +kernel
theorem dX10_told_204 : decode cX10_told 204 = .ok (.iload_n 3, 1) := by decide +kernel
theorem dX10_told_205 : decode cX10_told 205 = .ok (.iaload, 1) := by decide +kernel
theorem dX10_told_206 : decode cX10_told 206 = .ok (.goto 4, 3) := by decide +kernel
theorem dX10_told_210 : decode cX10_told 210 = .ok (.ireturn, 1) := by decide +kernel
theorem dX10_told_209 : decode cX10_told 209 = .ok (.iconst 0, 1) := by decide +kernel
theorem dX10_told_176 : decode cX10_told 176 = .ok (.aload_n 0, 1) := by decide +kernel
theorem dX10_told_177 : decode cX10_told 177 = .ok (.getfield 373, 3) := by decide +kernel
theorem dX10_told_180 : decode cX10_told 180 = .ok (.ireturn, 1) := by decide +kernel
theorem dX10_told_83 : decode cX10_told 83 = .ok (.aload_n 0, 1) := by decide +kernel
theorem dX10_told_84 : decode cX10_told 84 = .ok (.bipush 32, 2) := by decide +kernel
theorem dX10_told_86 : decode cX10_told 86 = .ok (.invokevirtual 376, 3) := by decide +kernel
theorem dX10_told_89 : decode cX10_told 89 = .ok (.aload_n 0, 1) := by decide +kernel
theorem dX10_told_90 : decode cX10_told 90 = .ok (.bipush 119, 2) := by decide +kernel
theorem dX10_told_92 : decode cX10_told 92 = .ok (.invokevirtual 376, 3) := by decide +kernel
theorem dX10_told_95 : decode cX10_told 95 = .ok (.aload_n 0, 1) := by decide +kernel
theorem dX10_told_96 : decode cX10_told 96 = .ok (.bipush 101, 2) := by decide +kernel
theorem dX10_told_98 : decode cX10_told 98 = .ok (.invokevirtual 376, 3) := by decide +kernel
theorem dX10_told_101 : decode cX10_told 101 = .ok (.aload_n 0, 1) := by decide +kernel
theorem dX10_told_102 : decode cX10_told 102 = .ok (.bipush 116, 2) := by decide +kernel
theorem dX10_told_104 : decode cX10_told 104 = .ok (.invokevirtual 376, 3) := by decide +kernel
theorem dX10_told_107 : decode cX10_told 107 = .ok (.aload_n 0, 1) := by decide +kernel
theorem dX10_told_108 : decode cX10_told 108 = .ok (.bipush 32, 2) := by decide +kernel
theorem dX10_told_110 : decode cX10_told 110 = .ok (.invokevirtual 376, 3) := by decide +kernel
theorem dX10_told_113 : decode cX10_told 113 = .ok (.aload_n 0, 1) := by decide +kernel
theorem dX10_told_114 : decode cX10_told 114 = .ok (.aload_n 0, 1) := by decide +kernel
theorem dX10_told_115 : decode cX10_told 115 = .ok (.iconst 0, 1) := by decide +kernel
theorem dX10_told_116 : decode cX10_told 116 = .ok (.iload_n 1, 1) := by decide +kernel
theorem dX10_told_117 : decode cX10_told 117 = .ok (.iload_n 2, 1) := by decide +kernel
theorem dX10_told_118 : decode cX10_told 118 = .ok (.iconst 2, 1) := by decide +kernel
theorem dX10_told_119 : decode cX10_told 119 = .ok (.invokevirtual 117, 3) := by decide +kernel
theorem dX10_told_122 : decode cX10_told 122 = .ok (.invokevirtual 379, 3) := by decide +kernel
theorem dX10_told_14 : decode cX10_told 14 = .ok (.iconst 0, 1) := by decide +kernel
theorem dX10_told_15 : decode cX10_told 15 = .ok (.ireturn, 1) := by decide +kernel
end
section
-- 99a.words.lean.txt
-- words of reftry
theorem q_1992 : (Jvm.Cond.methodLink "SnowRecorderModel" (412 : Nat) ({ cls := "SnowRecorderModel", name := "isNamed", desc := "(II)Z" } : Jvm.MethodName)) ∈ AW := AW_m9 72 (by decide +kernel) (by decide +kernel)
theorem q_1994 : (Jvm.Cond.instanceMethod ({ cls := "SnowRecorderModel", name := "isNamed", desc := "(II)Z" } : Jvm.MethodName)) ∈ AW := AW_m9 74 (by decide +kernel) (by decide +kernel)
theorem q_1995 : (Jvm.Cond.code ({ cls := "SnowRecorderModel", name := "isNamed", desc := "(II)Z" } : Jvm.MethodName) prog_12_method_92_code (5 : Nat) (Option.some Jvm.ClassFile.FieldType.boolean)) ∈ AW := AW_m9 75 (by decide +kernel) (by decide +kernel)
theorem q_2019 : (Jvm.Cond.methodLink "SnowRecorderModel" (418 : Nat) ({ cls := "SnowRecorderModel", name := "ratioBehind", desc := "(II)I" } : Jvm.MethodName)) ∈ AW := AW_m9 99 (by decide +kernel) (by decide +kernel)
theorem q_2021 : (Jvm.Cond.instanceMethod ({ cls := "SnowRecorderModel", name := "ratioBehind", desc := "(II)I" } : Jvm.MethodName)) ∈ AW := AW_m9 101 (by decide +kernel) (by decide +kernel)
theorem q_2022 : (Jvm.Cond.code ({ cls := "SnowRecorderModel", name := "ratioBehind", desc := "(II)I" } : Jvm.MethodName) prog_12_method_99_code (3 : Nat) (Option.some Jvm.ClassFile.FieldType.int)) ∈ AW := AW_m9 102 (by decide +kernel) (by decide +kernel)
theorem s_105 : Cond.selects "SnowRecorderModel" ({ cls := "SnowRecorderModel", name := "isNamed", desc := "(II)Z" } : Jvm.MethodName) ({ cls := "SnowRecorderModel", name := "isNamed", desc := "(II)Z" } : Jvm.MethodName) ∈ AW := AW_m 105 (by decide +kernel) (by decide +kernel)
theorem s_106 : Cond.selects "SnowRecorderModel" ({ cls := "SnowRecorderModel", name := "ratioBehind", desc := "(II)I" } : Jvm.MethodName) ({ cls := "SnowRecorderModel", name := "ratioBehind", desc := "(II)I" } : Jvm.MethodName) ∈ AW := AW_m 106 (by decide +kernel) (by decide +kernel)
theorem hd_yX10_isNamed : yX10_isNamed.cls ≠ "java/lang/invoke/MethodHandle" ∧ yX10_isNamed.cls ≠ "java/lang/invoke/VarHandle" ∧ (parseMethodDescriptor yX10_isNamed.desc).map (fun d => d.parameters.length) = some 2 := by decide +kernel
theorem hd_yX10_ratioBehind : yX10_ratioBehind.cls ≠ "java/lang/invoke/MethodHandle" ∧ yX10_ratioBehind.cls ≠ "java/lang/invoke/VarHandle" ∧ (parseMethodDescriptor yX10_ratioBehind.desc).map (fun d => d.parameters.length) = some 2 := by decide +kernel
theorem mv_yX10_isNamed : zWv yX10_isNamed cX10_isNamed 5 (some .boolean) := ⟨q_1994, s_105, q_15, q_1995⟩
theorem mv_yX10_ratioBehind : zWv yX10_ratioBehind cX10_ratioBehind 3 (some .int) := ⟨q_2021, s_106, q_15, q_2022⟩
end
