theorem knE : ∀ j : Fin 78, ((sq0.2.2.2.getD j.val 0) = 32) ↔ (j.val = 5 ∨ j.val = 11 ∨ j.val = 16 ∨ j.val = 21 ∨ j.val = 26 ∨ j.val = 31 ∨ j.val = 38 ∨ j.val = 44 ∨ j.val = 50 ∨ j.val = 57 ∨ j.val = 64 ∨ j.val = 71 ∨ j.val = 77) := by decide
theorem kn32 {j : Nat} {y : Int} (hj : j < 78) (e : sq0.2.2.2.getD j 0 = zI y) (hy : -2147483648 ≤ y ∧ y ≤ 2147483647) : (y = 32 ↔ (j = 5 ∨ j = 11 ∨ j = 16 ∨ j = 21 ∨ j = 26 ∨ j = 31 ∨ j = 38 ∨ j = 44 ∨ j = 50 ∨ j = 57 ∨ j = 64 ∨ j = 71 ∨ j = 77)) := by
  have h := knE ⟨j, hj⟩
  rw [← h]
  constructor
  · intro h1; rw [h1] at e; exact e
  · intro h1
    have h2 : zI y = zI 32 := e.symm.trans h1
    exact (zI_eq hy (by omega)).mp h2

set_option maxRecDepth 100000 in
set_option maxHeartbeats 4000000 in
theorem c_X10_spanX (l : Launch) (D : va_G) (A : Nat → Prop) (cs : Nat → ClassId) (tt : Nat) (N : Nat) (ad : Nat → Nat) (g : Nat → va_E) (z : Int) (hz : -2147483647 ≤ z ∧ z ≤ 2147483647) : zM l yX10_span cX10_span 1 (some .int) ({ frames := 1, cells := 0, slots := 0, locals := 60 } : Room) D A cs tt N ad g [.int (zI (z))] (rI0 N ad fun r g' => ((0 ≤ z ∧ r = z) ∨ (z < 0 ∧ r = -z)) ∧ g = g') := by
  refine z_of (by decide) (Nat.le_of_ble_eq_true rfl) ?_
  intro pZ eZ sZ mZ below meth cZ C hr hlk hnm
  refine z_lv (lv' := [(0, .int (zI (z)))]) [0] rfl ?_
  refine z_iload_n C 0 dX10_span_0 rfl ?_
  refine z_if_ge (tgt := 9) C dX10_span_1 (by decide) (by omega) (fun hby1 => ?_) (fun hby1 => ?_)
  · refine z_iload_n C 0 dX10_span_9 rfl ?_
    exact z_iret C hr hlk dX10_span_10 (by decide) (by decide) ⟨z, rfl, rfl, rfl, by omega, rfl⟩
  · refine z_iload_n C 0 dX10_span_4 rfl ?_
    refine z_ineg C dX10_span_5 ?_
    refine z_goto (tgt := 10) C dX10_span_6 (by decide) ?_
    exact z_iret C hr hlk dX10_span_10 (by decide) (by decide) ⟨-(z), rfl, rfl, rfl, by omega, rfl⟩

set_option maxRecDepth 100000 in
set_option maxHeartbeats 4000000 in
theorem c_X10_says (l : Launch) (D : va_G) (A : Nat → Prop) (cs : Nat → ClassId) (tt : Nat) (N : Nat) (ad : Nat → Nat) (g : Nat → va_E) (i : Nat) (hN : i + 30 ≤ N) (F : Nat → Int) (hg : g i = mC ad i F) (li : Nat → Int) (ha24 : g (i + 24) = iA cs 64 li) (h51 : 0 ≤ F 51 ∧ F 51 ≤ 63) (z : Int) : zM l yX10_says cX10_says 2 none ({ frames := 1, cells := 0, slots := 0, locals := 60 } : Room) D A cs tt N ad g [.ref (ad i), .int (zI (z))] (rV0 N ad fun g' => (∃ F' : Nat → Int, g' i = mC ad i F' ∧ F' 51 = F 51 + 1 ∧ (∀ f, f ≠ 51 → F' f = F f)) ∧ (∃ t' : Nat → Int, g' (i + 24) = iA cs 64 t') ∧ ∀ j, j ≠ i → j ≠ i + 24 → g' j = g j) := by
  have hay1 : zAt ad (i) (ad i) := rfl
  have hay2 : zAt ad (i + 24) (ad (i + 24)) := rfl
  refine z_of (by decide) (Nat.le_of_ble_eq_true rfl) ?_
  intro pZ eZ sZ mZ below meth cZ C hr hlk hnm
  refine z_lv (lv' := [(0, .ref (ad i)), (1, .int (zI (z)))]) [0, 1] rfl ?_
  refine z_aload_n C 0 dX10_says_0 rfl ?_
  refine z_get (v := .ref (ad (i + 24))) C (by omega) hay1 hg rfl inA_X10 50 (by decide) q_1509 rfl rfl dX10_says_1 ?_
  refine z_aload_n C 0 dX10_says_4 rfl ?_
  refine z_get (v := .int (zI (F 51))) C (by omega) hay1 hg rfl inA_X10 51 (by decide) q_1510 rfl (fv (F := F) (f := 51) rfl) dX10_says_5 ?_
  refine z_iload_n C 1 dX10_says_8 rfl ?_
  refine z_iast C (by omega) hay2 ha24 ((F 51).toNat) (by omega) (by omega) (by decide) dX10_says_9 (fun gy3 egy4 => ?_)
  have hgy5 := up_s egy4
  refine z_aload_n C 0 dX10_says_10 rfl ?_
  refine z_dup C dX10_says_11 rfl ?_
  have hgy6 := up_n egy4 hg (ne_o (i := i) (c := 0) (d := 24) rfl)
  refine z_get (v := .int (zI (F 51))) C (by omega) hay1 hgy6 rfl inA_X10 51 (by decide) q_1510 rfl (fv (F := F) (f := 51) rfl) dX10_says_12 ?_
  refine z_iconst (z := 1) C dX10_says_15 rfl ?_
  refine z_iadd C dX10_says_16 ?_
  refine z_put (fs' := mF ad (i) (uZ F 51 ((F 51) + 1))) C (by omega) hay1 hgy6 tyX10 tyX10_ok nmX10 rfl inA_X10 51 (by decide) q_1510 rfl rfl rfl rfl (Nat.le_of_ble_eq_true rfl) rfl dX10_says_17 (fun gy7 egy8 => ?_)
  have hgy9 := up_s egy8
  have hFy10 : ∀ f, f ≠ 51 → (uZ F 51 ((F 51) + 1)) f = F f := fun f n51 => ((uZ_n _ _ n51).trans rfl)
  have hey11 : (uZ F 51 ((F 51) + 1)) 51 = (F 51) + 1 := (uZ_s _ _ _)
  have hgy12 := up_n egy8 hgy5 (ne_o (i := i) (c := 24) (d := 0) rfl)
  exact z_vret C hr hlk dX10_says_20 (by decide) (by decide) ⟨rfl, rfl, rfl, ⟨_, hgy9, by omega, hFy10⟩, ⟨_, hgy12⟩, fun j j1 j2 => by rw [egy8, va_up_ne _ _ (by omega)]; rw [egy4, va_up_ne _ _ (by omega)]⟩

set_option maxRecDepth 100000 in
set_option maxHeartbeats 4000000 in
theorem c_X10_saysNumber9 (l : Launch) (D : va_G) (A : Nat → Prop) (cs : Nat → ClassId) (tt : Nat) (N : Nat) (ad : Nat → Nat) (g : Nat → va_E) (i : Nat) (hN : i + 30 ≤ N) (F : Nat → Int) (hg : g i = mC ad i F) (li : Nat → Int) (ha24 : g (i + 24) = iA cs 64 li) (h51 : 0 ≤ F 51 ∧ F 51 + 9 ≤ 64) (z : Int) (hz : 0 ≤ z ∧ z ≤ 999999999) : zM l yX10_saysNumber cX10_saysNumber 4 none ({ frames := 2, cells := 0, slots := 0, locals := 120 } : Room) D A cs tt N ad g [.ref (ad i), .int (zI (z))] (rV0 N ad fun g' => (∃ F' : Nat → Int, g' i = mC ad i F' ∧ (F 51 ≤ F' 51 ∧ F' 51 ≤ F 51 + 9) ∧ (∀ f, f ≠ 51 → F' f = F f)) ∧ (∃ t' : Nat → Int, g' (i + 24) = iA cs 64 t') ∧ ∀ j, j ≠ i → j ≠ i + 24 → g' j = g j) := by
  have hay1 : zAt ad (i) (ad i) := rfl
  have hay2 : zAt ad (i + 24) (ad (i + 24)) := rfl
  refine z_of (by decide) (Nat.le_of_ble_eq_true rfl) ?_
  intro pZ eZ sZ mZ below meth cZ C hr hlk hnm
  refine z_lv (lv' := [(0, .ref (ad i)), (1, .int (zI (z)))]) [0, 1] rfl ?_
  refine z_iload_n C 1 dX10_saysNumber_0 rfl ?_
  refine z_if_ge (tgt := 10) C dX10_saysNumber_1 (by decide) (by omega) (fun _ => ?_) (fun h => absurd h (by omega))
  refine z_iload_n C 1 dX10_saysNumber_10 rfl ?_
  refine z_cS (As := [.int (zI (z))]) (rest := []) C (c_X10_spanX l D A cs tt N ad _ (z) (by omega)) ms_yX10_span q_1839 hd_yX10_span (by decide) (Nat.le_of_ble_eq_true rfl) (by decide) dX10_saysNumber_11 rfl (kI0 fun vy3 gvy3 hvy3 => ?_)
  obtain ⟨hvy3, rfl⟩ := hvy3
  refine z_istore_n (lv' := [(2, .int (zI (vy3))), (0, .ref (ad i)), (1, .int (zI (z)))]) C dX10_saysNumber_14 rfl (by decide) rfl ?_
  refine z_iconst (z := 1) C dX10_saysNumber_15 rfl ?_
  refine z_istore_n (lv' := [(3, .int (zI (1))), (2, .int (zI (vy3))), (0, .ref (ad i)), (1, .int (zI (z)))]) C dX10_saysNumber_16 rfl (by decide) rfl ?_
  refine z_iload_n C 1 dX10_saysNumber_17 rfl ?_
  refine z_iload_n C 0 dX10_saysNumber_18 rfl ?_
  refine z_idiv C dX10_saysNumber_19 (by omega) (by omega) (by omega) ?_
  obtain ⟨xy4, exy4, hxy4⟩ : ∃ x9, (vy3).tdiv 1 = x9 ∧ (0 ≤ vy3 → 0 ≤ x9 ∧ 1 * x9 ≤ vy3 ∧ vy3 < 1 * x9 + 1) ∧ (vy3 ≤ 0 → x9 ≤ 0 ∧ vy3 ≤ 1 * x9 ∧ 1 * x9 < vy3 + 1) := tdk 1 (by decide)
  rw [exy4]
  refine z_bipush (z := 9) C dX10_saysNumber_20 (by decide) ?_
  refine z_icmp_le (tgt := 33) C dX10_saysNumber_22 (by decide) (by omega) (by omega) (fun hby5 => ?_) (fun hby5 => ?_)
  · refine z_iload_n C 0 dX10_saysNumber_33 rfl ?_
    refine z_if_le (tgt := 58) C dX10_saysNumber_34 (by decide) (by omega) (fun h => absurd h (by omega)) (fun _ => ?_)
    refine z_aload_n C 2 dX10_saysNumber_37 rfl ?_
    refine z_bipush (z := 48) C dX10_saysNumber_38 (by decide) ?_
    refine z_iload_n C 1 dX10_saysNumber_40 rfl ?_
    refine z_iload_n C 0 dX10_saysNumber_41 rfl ?_
    refine z_idiv C dX10_saysNumber_42 (by omega) (by omega) (by omega) ?_
    obtain ⟨xy6, exy6, hxy6⟩ : ∃ x9, (vy3).tdiv 1 = x9 ∧ (0 ≤ vy3 → 0 ≤ x9 ∧ 1 * x9 ≤ vy3 ∧ vy3 < 1 * x9 + 1) ∧ (vy3 ≤ 0 → x9 ≤ 0 ∧ vy3 ≤ 1 * x9 ∧ 1 * x9 < vy3 + 1) := tdk 1 (by decide)
    rw [exy6]
    refine z_bipush (z := 10) C dX10_saysNumber_43 (by decide) ?_
    refine z_irem C dX10_saysNumber_45 (by omega) (by omega) (by omega) ?_
    refine z_iadd C dX10_saysNumber_46 ?_
    have hey8 : F 51 = F 51 := rfl
    refine z_cV (As := [.int (zI (48 + (xy6.tmod 10)))]) (rest := []) (ci := 12) C (c_X10_says l D A cs tt N ad _ i hN _ hg _ ha24 (by omega) (48 + (xy6.tmod 10))) (by omega) hay1 hg rfl rfl mv_yX10_says q_1850 hd_yX10_says (by decide) (Nat.le_of_ble_eq_true rfl) (by decide) dX10_saysNumber_47 rfl (kV0 fun gvy7 hvy7 => ?_)
    obtain ⟨⟨Fvy7, hcvy7, hnvy7, hFvy7⟩, ⟨tvy7, htvy7⟩, hfvy7⟩ := hvy7
    have hovy7 : F 51 = F 51 := rfl
    have hqvy7 : Fvy7 51 = F 51 + 1 := by omega
    clear hnvy7 hovy7
    refine z_iload_n C 0 dX10_saysNumber_50 rfl ?_
    refine z_bipush (z := 10) C dX10_saysNumber_51 (by decide) ?_
    refine z_idiv C dX10_saysNumber_53 (by decide) (by decide) (by decide) ?_
    rw [show (1 : Int).tdiv 10 = 0 by decide]
    refine z_istore_n (lv' := [(3, .int (zI (0))), (2, .int (zI (vy3))), (0, .ref (ad i)), (1, .int (zI (z)))]) C dX10_saysNumber_54 rfl (by decide) rfl ?_
    refine z_goto (tgt := 33) C dX10_saysNumber_55 (by decide) ?_
    refine z_iload_n C 0 dX10_saysNumber_33 rfl ?_
    refine z_if_le (tgt := 58) C dX10_saysNumber_34 (by decide) (by omega) (fun _ => ?_) (fun h => absurd h (by omega))
    have hFy9 : ∀ f, f ≠ 51 → Fvy7 f = F f := fun f n51 => (hFvy7 f n51)
    have hey10 : Fvy7 51 = F 51 + 1 := hqvy7
    exact z_vret C hr hlk dX10_saysNumber_58 (by decide) (by decide) ⟨rfl, rfl, rfl, ⟨_, hcvy7, by omega, hFy9⟩, ⟨_, htvy7⟩, fun j j1 j2 => by rw [hfvy7 _ (by omega) (by omega)]⟩
  · refine z_iload_n C 0 dX10_saysNumber_25 rfl ?_
    refine z_bipush (z := 10) C dX10_saysNumber_26 (by decide) ?_
    refine z_imul C dX10_saysNumber_28 ?_
    rw [show (1 : Int) * 10 = 10 by decide]
    refine z_istore_n (lv' := [(3, .int (zI (10))), (2, .int (zI (vy3))), (0, .ref (ad i)), (1, .int (zI (z)))]) C dX10_saysNumber_29 rfl (by decide) rfl ?_
    refine z_goto (tgt := 17) C dX10_saysNumber_30 (by decide) ?_
    refine z_iload_n C 1 dX10_saysNumber_17 rfl ?_
    refine z_iload_n C 0 dX10_saysNumber_18 rfl ?_
    refine z_idiv C dX10_saysNumber_19 (by omega) (by omega) (by omega) ?_
    obtain ⟨xy11, exy11, hxy11⟩ : ∃ x9, (vy3).tdiv 10 = x9 ∧ (0 ≤ vy3 → 0 ≤ x9 ∧ 10 * x9 ≤ vy3 ∧ vy3 < 10 * x9 + 10) ∧ (vy3 ≤ 0 → x9 ≤ 0 ∧ vy3 ≤ 10 * x9 ∧ 10 * x9 < vy3 + 10) := tdk 10 (by decide)
    rw [exy11]
    refine z_bipush (z := 9) C dX10_saysNumber_20 (by decide) ?_
    refine z_icmp_le (tgt := 33) C dX10_saysNumber_22 (by decide) (by omega) (by omega) (fun hby12 => ?_) (fun hby12 => ?_)
    · refine z_iload_n C 0 dX10_saysNumber_33 rfl ?_
      refine z_if_le (tgt := 58) C dX10_saysNumber_34 (by decide) (by omega) (fun h => absurd h (by omega)) (fun _ => ?_)
      refine z_aload_n C 2 dX10_saysNumber_37 rfl ?_
      refine z_bipush (z := 48) C dX10_saysNumber_38 (by decide) ?_
      refine z_iload_n C 1 dX10_saysNumber_40 rfl ?_
      refine z_iload_n C 0 dX10_saysNumber_41 rfl ?_
      refine z_idiv C dX10_saysNumber_42 (by omega) (by omega) (by omega) ?_
      obtain ⟨xy13, exy13, hxy13⟩ : ∃ x9, (vy3).tdiv 10 = x9 ∧ (0 ≤ vy3 → 0 ≤ x9 ∧ 10 * x9 ≤ vy3 ∧ vy3 < 10 * x9 + 10) ∧ (vy3 ≤ 0 → x9 ≤ 0 ∧ vy3 ≤ 10 * x9 ∧ 10 * x9 < vy3 + 10) := tdk 10 (by decide)
      rw [exy13]
      refine z_bipush (z := 10) C dX10_saysNumber_43 (by decide) ?_
      refine z_irem C dX10_saysNumber_45 (by omega) (by omega) (by omega) ?_
      refine z_iadd C dX10_saysNumber_46 ?_
      have hey15 : F 51 = F 51 := rfl
      refine z_cV (As := [.int (zI (48 + (xy13.tmod 10)))]) (rest := []) (ci := 12) C (c_X10_says l D A cs tt N ad _ i hN _ hg _ ha24 (by omega) (48 + (xy13.tmod 10))) (by omega) hay1 hg rfl rfl mv_yX10_says q_1850 hd_yX10_says (by decide) (Nat.le_of_ble_eq_true rfl) (by decide) dX10_saysNumber_47 rfl (kV0 fun gvy14 hvy14 => ?_)
      obtain ⟨⟨Fvy14, hcvy14, hnvy14, hFvy14⟩, ⟨tvy14, htvy14⟩, hfvy14⟩ := hvy14
      have hovy14 : F 51 = F 51 := rfl
      have hqvy14 : Fvy14 51 = F 51 + 1 := by omega
      clear hnvy14 hovy14
      refine z_iload_n C 0 dX10_saysNumber_50 rfl ?_
      refine z_bipush (z := 10) C dX10_saysNumber_51 (by decide) ?_
      refine z_idiv C dX10_saysNumber_53 (by decide) (by decide) (by decide) ?_
      rw [show (10 : Int).tdiv 10 = 1 by decide]
      refine z_istore_n (lv' := [(3, .int (zI (1))), (2, .int (zI (vy3))), (0, .ref (ad i)), (1, .int (zI (z)))]) C dX10_saysNumber_54 rfl (by decide) rfl ?_
      refine z_goto (tgt := 33) C dX10_saysNumber_55 (by decide) ?_
      refine z_iload_n C 0 dX10_saysNumber_33 rfl ?_
      refine z_if_le (tgt := 58) C dX10_saysNumber_34 (by decide) (by omega) (fun h => absurd h (by omega)) (fun _ => ?_)
      refine z_aload_n C 2 dX10_saysNumber_37 rfl ?_
      refine z_bipush (z := 48) C dX10_saysNumber_38 (by decide) ?_
      refine z_iload_n C 1 dX10_saysNumber_40 rfl ?_
      refine z_iload_n C 0 dX10_saysNumber_41 rfl ?_
      refine z_idiv C dX10_saysNumber_42 (by omega) (by omega) (by omega) ?_
      obtain ⟨xy16, exy16, hxy16⟩ : ∃ x9, (vy3).tdiv 1 = x9 ∧ (0 ≤ vy3 → 0 ≤ x9 ∧ 1 * x9 ≤ vy3 ∧ vy3 < 1 * x9 + 1) ∧ (vy3 ≤ 0 → x9 ≤ 0 ∧ vy3 ≤ 1 * x9 ∧ 1 * x9 < vy3 + 1) := tdk 1 (by decide)
      rw [exy16]
      refine z_bipush (z := 10) C dX10_saysNumber_43 (by decide) ?_
      refine z_irem C dX10_saysNumber_45 (by omega) (by omega) (by omega) ?_
      refine z_iadd C dX10_saysNumber_46 ?_
      have hey18 : Fvy14 51 = F 51 + 1 := hqvy14
      refine z_cV (As := [.int (zI (48 + (xy16.tmod 10)))]) (rest := []) (ci := 12) C (c_X10_says l D A cs tt N ad _ i hN _ hcvy14 _ htvy14 (by omega) (48 + (xy16.tmod 10))) (by omega) hay1 hcvy14 rfl rfl mv_yX10_says q_1850 hd_yX10_says (by decide) (Nat.le_of_ble_eq_true rfl) (by decide) dX10_saysNumber_47 rfl (kV0 fun gvy17 hvy17 => ?_)
      obtain ⟨⟨Fvy17, hcvy17, hnvy17, hFvy17⟩, ⟨tvy17, htvy17⟩, hfvy17⟩ := hvy17
      have hovy17 : Fvy14 51 = F 51 + 1 := hqvy14
      have hqvy17 : Fvy17 51 = F 51 + 2 := by omega
      clear hnvy17 hovy17
      refine z_iload_n C 0 dX10_saysNumber_50 rfl ?_
      refine z_bipush (z := 10) C dX10_saysNumber_51 (by decide) ?_
      refine z_idiv C dX10_saysNumber_53 (by decide) (by decide) (by decide) ?_
      rw [show (1 : Int).tdiv 10 = 0 by decide]
      refine z_istore_n (lv' := [(3, .int (zI (0))), (2, .int (zI (vy3))), (0, .ref (ad i)), (1, .int (zI (z)))]) C dX10_saysNumber_54 rfl (by decide) rfl ?_
      refine z_goto (tgt := 33) C dX10_saysNumber_55 (by decide) ?_
      refine z_iload_n C 0 dX10_saysNumber_33 rfl ?_
      refine z_if_le (tgt := 58) C dX10_saysNumber_34 (by decide) (by omega) (fun _ => ?_) (fun h => absurd h (by omega))
      have hFy19 : ∀ f, f ≠ 51 → Fvy17 f = F f := fun f n51 => ((hFvy17 f n51).trans (hFvy14 f n51))
      have hey20 : Fvy17 51 = F 51 + 2 := hqvy17
      exact z_vret C hr hlk dX10_saysNumber_58 (by decide) (by decide) ⟨rfl, rfl, rfl, ⟨_, hcvy17, by omega, hFy19⟩, ⟨_, htvy17⟩, fun j j1 j2 => by rw [hfvy17 _ (by omega) (by omega)]; rw [hfvy14 _ (by omega) (by omega)]⟩
    · refine z_iload_n C 0 dX10_saysNumber_25 rfl ?_
      refine z_bipush (z := 10) C dX10_saysNumber_26 (by decide) ?_
      refine z_imul C dX10_saysNumber_28 ?_
      rw [show (10 : Int) * 10 = 100 by decide]
      refine z_istore_n (lv' := [(3, .int (zI (100))), (2, .int (zI (vy3))), (0, .ref (ad i)), (1, .int (zI (z)))]) C dX10_saysNumber_29 rfl (by decide) rfl ?_
      refine z_goto (tgt := 17) C dX10_saysNumber_30 (by decide) ?_
      refine z_iload_n C 1 dX10_saysNumber_17 rfl ?_
      refine z_iload_n C 0 dX10_saysNumber_18 rfl ?_
      refine z_idiv C dX10_saysNumber_19 (by omega) (by omega) (by omega) ?_
      obtain ⟨xy21, exy21, hxy21⟩ : ∃ x9, (vy3).tdiv 100 = x9 ∧ (0 ≤ vy3 → 0 ≤ x9 ∧ 100 * x9 ≤ vy3 ∧ vy3 < 100 * x9 + 100) ∧ (vy3 ≤ 0 → x9 ≤ 0 ∧ vy3 ≤ 100 * x9 ∧ 100 * x9 < vy3 + 100) := tdk 100 (by decide)
      rw [exy21]
      refine z_bipush (z := 9) C dX10_saysNumber_20 (by decide) ?_
      refine z_icmp_le (tgt := 33) C dX10_saysNumber_22 (by decide) (by omega) (by omega) (fun hby22 => ?_) (fun hby22 => ?_)
      · refine z_iload_n C 0 dX10_saysNumber_33 rfl ?_
        refine z_if_le (tgt := 58) C dX10_saysNumber_34 (by decide) (by omega) (fun h => absurd h (by omega)) (fun _ => ?_)
        refine z_aload_n C 2 dX10_saysNumber_37 rfl ?_
        refine z_bipush (z := 48) C dX10_saysNumber_38 (by decide) ?_
        refine z_iload_n C 1 dX10_saysNumber_40 rfl ?_
        refine z_iload_n C 0 dX10_saysNumber_41 rfl ?_
        refine z_idiv C dX10_saysNumber_42 (by omega) (by omega) (by omega) ?_
        obtain ⟨xy23, exy23, hxy23⟩ : ∃ x9, (vy3).tdiv 100 = x9 ∧ (0 ≤ vy3 → 0 ≤ x9 ∧ 100 * x9 ≤ vy3 ∧ vy3 < 100 * x9 + 100) ∧ (vy3 ≤ 0 → x9 ≤ 0 ∧ vy3 ≤ 100 * x9 ∧ 100 * x9 < vy3 + 100) := tdk 100 (by decide)
        rw [exy23]
        refine z_bipush (z := 10) C dX10_saysNumber_43 (by decide) ?_
        refine z_irem C dX10_saysNumber_45 (by omega) (by omega) (by omega) ?_
        refine z_iadd C dX10_saysNumber_46 ?_
        have hey25 : F 51 = F 51 := rfl
        refine z_cV (As := [.int (zI (48 + (xy23.tmod 10)))]) (rest := []) (ci := 12) C (c_X10_says l D A cs tt N ad _ i hN _ hg _ ha24 (by omega) (48 + (xy23.tmod 10))) (by omega) hay1 hg rfl rfl mv_yX10_says q_1850 hd_yX10_says (by decide) (Nat.le_of_ble_eq_true rfl) (by decide) dX10_saysNumber_47 rfl (kV0 fun gvy24 hvy24 => ?_)
        obtain ⟨⟨Fvy24, hcvy24, hnvy24, hFvy24⟩, ⟨tvy24, htvy24⟩, hfvy24⟩ := hvy24
        have hovy24 : F 51 = F 51 := rfl
        have hqvy24 : Fvy24 51 = F 51 + 1 := by omega
        clear hnvy24 hovy24
        refine z_iload_n C 0 dX10_saysNumber_50 rfl ?_
        refine z_bipush (z := 10) C dX10_saysNumber_51 (by decide) ?_
        refine z_idiv C dX10_saysNumber_53 (by decide) (by decide) (by decide) ?_
        rw [show (100 : Int).tdiv 10 = 10 by decide]
        refine z_istore_n (lv' := [(3, .int (zI (10))), (2, .int (zI (vy3))), (0, .ref (ad i)), (1, .int (zI (z)))]) C dX10_saysNumber_54 rfl (by decide) rfl ?_
        refine z_goto (tgt := 33) C dX10_saysNumber_55 (by decide) ?_
        refine z_iload_n C 0 dX10_saysNumber_33 rfl ?_
        refine z_if_le (tgt := 58) C dX10_saysNumber_34 (by decide) (by omega) (fun h => absurd h (by omega)) (fun _ => ?_)
        refine z_aload_n C 2 dX10_saysNumber_37 rfl ?_
        refine z_bipush (z := 48) C dX10_saysNumber_38 (by decide) ?_
        refine z_iload_n C 1 dX10_saysNumber_40 rfl ?_
        refine z_iload_n C 0 dX10_saysNumber_41 rfl ?_
        refine z_idiv C dX10_saysNumber_42 (by omega) (by omega) (by omega) ?_
        obtain ⟨xy26, exy26, hxy26⟩ : ∃ x9, (vy3).tdiv 10 = x9 ∧ (0 ≤ vy3 → 0 ≤ x9 ∧ 10 * x9 ≤ vy3 ∧ vy3 < 10 * x9 + 10) ∧ (vy3 ≤ 0 → x9 ≤ 0 ∧ vy3 ≤ 10 * x9 ∧ 10 * x9 < vy3 + 10) := tdk 10 (by decide)
        rw [exy26]
        refine z_bipush (z := 10) C dX10_saysNumber_43 (by decide) ?_
        refine z_irem C dX10_saysNumber_45 (by omega) (by omega) (by omega) ?_
        refine z_iadd C dX10_saysNumber_46 ?_
        have hey28 : Fvy24 51 = F 51 + 1 := hqvy24
        refine z_cV (As := [.int (zI (48 + (xy26.tmod 10)))]) (rest := []) (ci := 12) C (c_X10_says l D A cs tt N ad _ i hN _ hcvy24 _ htvy24 (by omega) (48 + (xy26.tmod 10))) (by omega) hay1 hcvy24 rfl rfl mv_yX10_says q_1850 hd_yX10_says (by decide) (Nat.le_of_ble_eq_true rfl) (by decide) dX10_saysNumber_47 rfl (kV0 fun gvy27 hvy27 => ?_)
        obtain ⟨⟨Fvy27, hcvy27, hnvy27, hFvy27⟩, ⟨tvy27, htvy27⟩, hfvy27⟩ := hvy27
        have hovy27 : Fvy24 51 = F 51 + 1 := hqvy24
        have hqvy27 : Fvy27 51 = F 51 + 2 := by omega
        clear hnvy27 hovy27
        refine z_iload_n C 0 dX10_saysNumber_50 rfl ?_
        refine z_bipush (z := 10) C dX10_saysNumber_51 (by decide) ?_
        refine z_idiv C dX10_saysNumber_53 (by decide) (by decide) (by decide) ?_
        rw [show (10 : Int).tdiv 10 = 1 by decide]
        refine z_istore_n (lv' := [(3, .int (zI (1))), (2, .int (zI (vy3))), (0, .ref (ad i)), (1, .int (zI (z)))]) C dX10_saysNumber_54 rfl (by decide) rfl ?_
        refine z_goto (tgt := 33) C dX10_saysNumber_55 (by decide) ?_
        refine z_iload_n C 0 dX10_saysNumber_33 rfl ?_
        refine z_if_le (tgt := 58) C dX10_saysNumber_34 (by decide) (by omega) (fun h => absurd h (by omega)) (fun _ => ?_)
        refine z_aload_n C 2 dX10_saysNumber_37 rfl ?_
        refine z_bipush (z := 48) C dX10_saysNumber_38 (by decide) ?_
        refine z_iload_n C 1 dX10_saysNumber_40 rfl ?_
        refine z_iload_n C 0 dX10_saysNumber_41 rfl ?_
        refine z_idiv C dX10_saysNumber_42 (by omega) (by omega) (by omega) ?_
        obtain ⟨xy29, exy29, hxy29⟩ : ∃ x9, (vy3).tdiv 1 = x9 ∧ (0 ≤ vy3 → 0 ≤ x9 ∧ 1 * x9 ≤ vy3 ∧ vy3 < 1 * x9 + 1) ∧ (vy3 ≤ 0 → x9 ≤ 0 ∧ vy3 ≤ 1 * x9 ∧ 1 * x9 < vy3 + 1) := tdk 1 (by decide)
        rw [exy29]
        refine z_bipush (z := 10) C dX10_saysNumber_43 (by decide) ?_
        refine z_irem C dX10_saysNumber_45 (by omega) (by omega) (by omega) ?_
        refine z_iadd C dX10_saysNumber_46 ?_
        have hey31 : Fvy27 51 = F 51 + 2 := hqvy27
        refine z_cV (As := [.int (zI (48 + (xy29.tmod 10)))]) (rest := []) (ci := 12) C (c_X10_says l D A cs tt N ad _ i hN _ hcvy27 _ htvy27 (by omega) (48 + (xy29.tmod 10))) (by omega) hay1 hcvy27 rfl rfl mv_yX10_says q_1850 hd_yX10_says (by decide) (Nat.le_of_ble_eq_true rfl) (by decide) dX10_saysNumber_47 rfl (kV0 fun gvy30 hvy30 => ?_)
        obtain ⟨⟨Fvy30, hcvy30, hnvy30, hFvy30⟩, ⟨tvy30, htvy30⟩, hfvy30⟩ := hvy30
        have hovy30 : Fvy27 51 = F 51 + 2 := hqvy27
        have hqvy30 : Fvy30 51 = F 51 + 3 := by omega
        clear hnvy30 hovy30
        refine z_iload_n C 0 dX10_saysNumber_50 rfl ?_
        refine z_bipush (z := 10) C dX10_saysNumber_51 (by decide) ?_
        refine z_idiv C dX10_saysNumber_53 (by decide) (by decide) (by decide) ?_
        rw [show (1 : Int).tdiv 10 = 0 by decide]
        refine z_istore_n (lv' := [(3, .int (zI (0))), (2, .int (zI (vy3))), (0, .ref (ad i)), (1, .int (zI (z)))]) C dX10_saysNumber_54 rfl (by decide) rfl ?_
        refine z_goto (tgt := 33) C dX10_saysNumber_55 (by decide) ?_
        refine z_iload_n C 0 dX10_saysNumber_33 rfl ?_
        refine z_if_le (tgt := 58) C dX10_saysNumber_34 (by decide) (by omega) (fun _ => ?_) (fun h => absurd h (by omega))
        have hFy32 : ∀ f, f ≠ 51 → Fvy30 f = F f := fun f n51 => ((hFvy30 f n51).trans ((hFvy27 f n51).trans (hFvy24 f n51)))
        have hey33 : Fvy30 51 = F 51 + 3 := hqvy30
        exact z_vret C hr hlk dX10_saysNumber_58 (by decide) (by decide) ⟨rfl, rfl, rfl, ⟨_, hcvy30, by omega, hFy32⟩, ⟨_, htvy30⟩, fun j j1 j2 => by rw [hfvy30 _ (by omega) (by omega)]; rw [hfvy27 _ (by omega) (by omega)]; rw [hfvy24 _ (by omega) (by omega)]⟩
      · refine z_iload_n C 0 dX10_saysNumber_25 rfl ?_
        refine z_bipush (z := 10) C dX10_saysNumber_26 (by decide) ?_
        refine z_imul C dX10_saysNumber_28 ?_
        rw [show (100 : Int) * 10 = 1000 by decide]
        refine z_istore_n (lv' := [(3, .int (zI (1000))), (2, .int (zI (vy3))), (0, .ref (ad i)), (1, .int (zI (z)))]) C dX10_saysNumber_29 rfl (by decide) rfl ?_
        refine z_goto (tgt := 17) C dX10_saysNumber_30 (by decide) ?_
        refine z_iload_n C 1 dX10_saysNumber_17 rfl ?_
        refine z_iload_n C 0 dX10_saysNumber_18 rfl ?_
        refine z_idiv C dX10_saysNumber_19 (by omega) (by omega) (by omega) ?_
        obtain ⟨xy34, exy34, hxy34⟩ : ∃ x9, (vy3).tdiv 1000 = x9 ∧ (0 ≤ vy3 → 0 ≤ x9 ∧ 1000 * x9 ≤ vy3 ∧ vy3 < 1000 * x9 + 1000) ∧ (vy3 ≤ 0 → x9 ≤ 0 ∧ vy3 ≤ 1000 * x9 ∧ 1000 * x9 < vy3 + 1000) := tdk 1000 (by decide)
        rw [exy34]
        refine z_bipush (z := 9) C dX10_saysNumber_20 (by decide) ?_
        refine z_icmp_le (tgt := 33) C dX10_saysNumber_22 (by decide) (by omega) (by omega) (fun hby35 => ?_) (fun hby35 => ?_)
        · refine z_iload_n C 0 dX10_saysNumber_33 rfl ?_
          refine z_if_le (tgt := 58) C dX10_saysNumber_34 (by decide) (by omega) (fun h => absurd h (by omega)) (fun _ => ?_)
          refine z_aload_n C 2 dX10_saysNumber_37 rfl ?_
          refine z_bipush (z := 48) C dX10_saysNumber_38 (by decide) ?_
          refine z_iload_n C 1 dX10_saysNumber_40 rfl ?_
          refine z_iload_n C 0 dX10_saysNumber_41 rfl ?_
          refine z_idiv C dX10_saysNumber_42 (by omega) (by omega) (by omega) ?_
          obtain ⟨xy36, exy36, hxy36⟩ : ∃ x9, (vy3).tdiv 1000 = x9 ∧ (0 ≤ vy3 → 0 ≤ x9 ∧ 1000 * x9 ≤ vy3 ∧ vy3 < 1000 * x9 + 1000) ∧ (vy3 ≤ 0 → x9 ≤ 0 ∧ vy3 ≤ 1000 * x9 ∧ 1000 * x9 < vy3 + 1000) := tdk 1000 (by decide)
          rw [exy36]
          refine z_bipush (z := 10) C dX10_saysNumber_43 (by decide) ?_
          refine z_irem C dX10_saysNumber_45 (by omega) (by omega) (by omega) ?_
          refine z_iadd C dX10_saysNumber_46 ?_
          have hey38 : F 51 = F 51 := rfl
          refine z_cV (As := [.int (zI (48 + (xy36.tmod 10)))]) (rest := []) (ci := 12) C (c_X10_says l D A cs tt N ad _ i hN _ hg _ ha24 (by omega) (48 + (xy36.tmod 10))) (by omega) hay1 hg rfl rfl mv_yX10_says q_1850 hd_yX10_says (by decide) (Nat.le_of_ble_eq_true rfl) (by decide) dX10_saysNumber_47 rfl (kV0 fun gvy37 hvy37 => ?_)
          obtain ⟨⟨Fvy37, hcvy37, hnvy37, hFvy37⟩, ⟨tvy37, htvy37⟩, hfvy37⟩ := hvy37
          have hovy37 : F 51 = F 51 := rfl
          have hqvy37 : Fvy37 51 = F 51 + 1 := by omega
          clear hnvy37 hovy37
          refine z_iload_n C 0 dX10_saysNumber_50 rfl ?_
          refine z_bipush (z := 10) C dX10_saysNumber_51 (by decide) ?_
          refine z_idiv C dX10_saysNumber_53 (by decide) (by decide) (by decide) ?_
          rw [show (1000 : Int).tdiv 10 = 100 by decide]
          refine z_istore_n (lv' := [(3, .int (zI (100))), (2, .int (zI (vy3))), (0, .ref (ad i)), (1, .int (zI (z)))]) C dX10_saysNumber_54 rfl (by decide) rfl ?_
          refine z_goto (tgt := 33) C dX10_saysNumber_55 (by decide) ?_
          refine z_iload_n C 0 dX10_saysNumber_33 rfl ?_
          refine z_if_le (tgt := 58) C dX10_saysNumber_34 (by decide) (by omega) (fun h => absurd h (by omega)) (fun _ => ?_)
          refine z_aload_n C 2 dX10_saysNumber_37 rfl ?_
          refine z_bipush (z := 48) C dX10_saysNumber_38 (by decide) ?_
          refine z_iload_n C 1 dX10_saysNumber_40 rfl ?_
          refine z_iload_n C 0 dX10_saysNumber_41 rfl ?_
          refine z_idiv C dX10_saysNumber_42 (by omega) (by omega) (by omega) ?_
          obtain ⟨xy39, exy39, hxy39⟩ : ∃ x9, (vy3).tdiv 100 = x9 ∧ (0 ≤ vy3 → 0 ≤ x9 ∧ 100 * x9 ≤ vy3 ∧ vy3 < 100 * x9 + 100) ∧ (vy3 ≤ 0 → x9 ≤ 0 ∧ vy3 ≤ 100 * x9 ∧ 100 * x9 < vy3 + 100) := tdk 100 (by decide)
          rw [exy39]
          refine z_bipush (z := 10) C dX10_saysNumber_43 (by decide) ?_
          refine z_irem C dX10_saysNumber_45 (by omega) (by omega) (by omega) ?_
          refine z_iadd C dX10_saysNumber_46 ?_
          have hey41 : Fvy37 51 = F 51 + 1 := hqvy37
          refine z_cV (As := [.int (zI (48 + (xy39.tmod 10)))]) (rest := []) (ci := 12) C (c_X10_says l D A cs tt N ad _ i hN _ hcvy37 _ htvy37 (by omega) (48 + (xy39.tmod 10))) (by omega) hay1 hcvy37 rfl rfl mv_yX10_says q_1850 hd_yX10_says (by decide) (Nat.le_of_ble_eq_true rfl) (by decide) dX10_saysNumber_47 rfl (kV0 fun gvy40 hvy40 => ?_)
          obtain ⟨⟨Fvy40, hcvy40, hnvy40, hFvy40⟩, ⟨tvy40, htvy40⟩, hfvy40⟩ := hvy40
          have hovy40 : Fvy37 51 = F 51 + 1 := hqvy37
          have hqvy40 : Fvy40 51 = F 51 + 2 := by omega
          clear hnvy40 hovy40
          refine z_iload_n C 0 dX10_saysNumber_50 rfl ?_
          refine z_bipush (z := 10) C dX10_saysNumber_51 (by decide) ?_
          refine z_idiv C dX10_saysNumber_53 (by decide) (by decide) (by decide) ?_
          rw [show (100 : Int).tdiv 10 = 10 by decide]
          refine z_istore_n (lv' := [(3, .int (zI (10))), (2, .int (zI (vy3))), (0, .ref (ad i)), (1, .int (zI (z)))]) C dX10_saysNumber_54 rfl (by decide) rfl ?_
          refine z_goto (tgt := 33) C dX10_saysNumber_55 (by decide) ?_
          refine z_iload_n C 0 dX10_saysNumber_33 rfl ?_
          refine z_if_le (tgt := 58) C dX10_saysNumber_34 (by decide) (by omega) (fun h => absurd h (by omega)) (fun _ => ?_)
          refine z_aload_n C 2 dX10_saysNumber_37 rfl ?_
          refine z_bipush (z := 48) C dX10_saysNumber_38 (by decide) ?_
          refine z_iload_n C 1 dX10_saysNumber_40 rfl ?_
          refine z_iload_n C 0 dX10_saysNumber_41 rfl ?_
          refine z_idiv C dX10_saysNumber_42 (by omega) (by omega) (by omega) ?_
          obtain ⟨xy42, exy42, hxy42⟩ : ∃ x9, (vy3).tdiv 10 = x9 ∧ (0 ≤ vy3 → 0 ≤ x9 ∧ 10 * x9 ≤ vy3 ∧ vy3 < 10 * x9 + 10) ∧ (vy3 ≤ 0 → x9 ≤ 0 ∧ vy3 ≤ 10 * x9 ∧ 10 * x9 < vy3 + 10) := tdk 10 (by decide)
          rw [exy42]
          refine z_bipush (z := 10) C dX10_saysNumber_43 (by decide) ?_
          refine z_irem C dX10_saysNumber_45 (by omega) (by omega) (by omega) ?_
          refine z_iadd C dX10_saysNumber_46 ?_
          have hey44 : Fvy40 51 = F 51 + 2 := hqvy40
          refine z_cV (As := [.int (zI (48 + (xy42.tmod 10)))]) (rest := []) (ci := 12) C (c_X10_says l D A cs tt N ad _ i hN _ hcvy40 _ htvy40 (by omega) (48 + (xy42.tmod 10))) (by omega) hay1 hcvy40 rfl rfl mv_yX10_says q_1850 hd_yX10_says (by decide) (Nat.le_of_ble_eq_true rfl) (by decide) dX10_saysNumber_47 rfl (kV0 fun gvy43 hvy43 => ?_)
          obtain ⟨⟨Fvy43, hcvy43, hnvy43, hFvy43⟩, ⟨tvy43, htvy43⟩, hfvy43⟩ := hvy43
          have hovy43 : Fvy40 51 = F 51 + 2 := hqvy40
          have hqvy43 : Fvy43 51 = F 51 + 3 := by omega
          clear hnvy43 hovy43
          refine z_iload_n C 0 dX10_saysNumber_50 rfl ?_
          refine z_bipush (z := 10) C dX10_saysNumber_51 (by decide) ?_
          refine z_idiv C dX10_saysNumber_53 (by decide) (by decide) (by decide) ?_
          rw [show (10 : Int).tdiv 10 = 1 by decide]
          refine z_istore_n (lv' := [(3, .int (zI (1))), (2, .int (zI (vy3))), (0, .ref (ad i)), (1, .int (zI (z)))]) C dX10_saysNumber_54 rfl (by decide) rfl ?_
          refine z_goto (tgt := 33) C dX10_saysNumber_55 (by decide) ?_
          refine z_iload_n C 0 dX10_saysNumber_33 rfl ?_
          refine z_if_le (tgt := 58) C dX10_saysNumber_34 (by decide) (by omega) (fun h => absurd h (by omega)) (fun _ => ?_)
          refine z_aload_n C 2 dX10_saysNumber_37 rfl ?_
          refine z_bipush (z := 48) C dX10_saysNumber_38 (by decide) ?_
          refine z_iload_n C 1 dX10_saysNumber_40 rfl ?_
          refine z_iload_n C 0 dX10_saysNumber_41 rfl ?_
          refine z_idiv C dX10_saysNumber_42 (by omega) (by omega) (by omega) ?_
          obtain ⟨xy45, exy45, hxy45⟩ : ∃ x9, (vy3).tdiv 1 = x9 ∧ (0 ≤ vy3 → 0 ≤ x9 ∧ 1 * x9 ≤ vy3 ∧ vy3 < 1 * x9 + 1) ∧ (vy3 ≤ 0 → x9 ≤ 0 ∧ vy3 ≤ 1 * x9 ∧ 1 * x9 < vy3 + 1) := tdk 1 (by decide)
          rw [exy45]
          refine z_bipush (z := 10) C dX10_saysNumber_43 (by decide) ?_
          refine z_irem C dX10_saysNumber_45 (by omega) (by omega) (by omega) ?_
          refine z_iadd C dX10_saysNumber_46 ?_
          have hey47 : Fvy43 51 = F 51 + 3 := hqvy43
          refine z_cV (As := [.int (zI (48 + (xy45.tmod 10)))]) (rest := []) (ci := 12) C (c_X10_says l D A cs tt N ad _ i hN _ hcvy43 _ htvy43 (by omega) (48 + (xy45.tmod 10))) (by omega) hay1 hcvy43 rfl rfl mv_yX10_says q_1850 hd_yX10_says (by decide) (Nat.le_of_ble_eq_true rfl) (by decide) dX10_saysNumber_47 rfl (kV0 fun gvy46 hvy46 => ?_)
          obtain ⟨⟨Fvy46, hcvy46, hnvy46, hFvy46⟩, ⟨tvy46, htvy46⟩, hfvy46⟩ := hvy46
          have hovy46 : Fvy43 51 = F 51 + 3 := hqvy43
          have hqvy46 : Fvy46 51 = F 51 + 4 := by omega
          clear hnvy46 hovy46
          refine z_iload_n C 0 dX10_saysNumber_50 rfl ?_
          refine z_bipush (z := 10) C dX10_saysNumber_51 (by decide) ?_
          refine z_idiv C dX10_saysNumber_53 (by decide) (by decide) (by decide) ?_
          rw [show (1 : Int).tdiv 10 = 0 by decide]
          refine z_istore_n (lv' := [(3, .int (zI (0))), (2, .int (zI (vy3))), (0, .ref (ad i)), (1, .int (zI (z)))]) C dX10_saysNumber_54 rfl (by decide) rfl ?_
          refine z_goto (tgt := 33) C dX10_saysNumber_55 (by decide) ?_
          refine z_iload_n C 0 dX10_saysNumber_33 rfl ?_
          refine z_if_le (tgt := 58) C dX10_saysNumber_34 (by decide) (by omega) (fun _ => ?_) (fun h => absurd h (by omega))
          have hFy48 : ∀ f, f ≠ 51 → Fvy46 f = F f := fun f n51 => ((hFvy46 f n51).trans ((hFvy43 f n51).trans ((hFvy40 f n51).trans (hFvy37 f n51))))
          have hey49 : Fvy46 51 = F 51 + 4 := hqvy46
          exact z_vret C hr hlk dX10_saysNumber_58 (by decide) (by decide) ⟨rfl, rfl, rfl, ⟨_, hcvy46, by omega, hFy48⟩, ⟨_, htvy46⟩, fun j j1 j2 => by rw [hfvy46 _ (by omega) (by omega)]; rw [hfvy43 _ (by omega) (by omega)]; rw [hfvy40 _ (by omega) (by omega)]; rw [hfvy37 _ (by omega) (by omega)]⟩
        · refine z_iload_n C 0 dX10_saysNumber_25 rfl ?_
          refine z_bipush (z := 10) C dX10_saysNumber_26 (by decide) ?_
          refine z_imul C dX10_saysNumber_28 ?_
          rw [show (1000 : Int) * 10 = 10000 by decide]
          refine z_istore_n (lv' := [(3, .int (zI (10000))), (2, .int (zI (vy3))), (0, .ref (ad i)), (1, .int (zI (z)))]) C dX10_saysNumber_29 rfl (by decide) rfl ?_
          refine z_goto (tgt := 17) C dX10_saysNumber_30 (by decide) ?_
          refine z_iload_n C 1 dX10_saysNumber_17 rfl ?_
          refine z_iload_n C 0 dX10_saysNumber_18 rfl ?_
          refine z_idiv C dX10_saysNumber_19 (by omega) (by omega) (by omega) ?_
          obtain ⟨xy50, exy50, hxy50⟩ : ∃ x9, (vy3).tdiv 10000 = x9 ∧ (0 ≤ vy3 → 0 ≤ x9 ∧ 10000 * x9 ≤ vy3 ∧ vy3 < 10000 * x9 + 10000) ∧ (vy3 ≤ 0 → x9 ≤ 0 ∧ vy3 ≤ 10000 * x9 ∧ 10000 * x9 < vy3 + 10000) := tdk 10000 (by decide)
          rw [exy50]
          refine z_bipush (z := 9) C dX10_saysNumber_20 (by decide) ?_
          refine z_icmp_le (tgt := 33) C dX10_saysNumber_22 (by decide) (by omega) (by omega) (fun hby51 => ?_) (fun hby51 => ?_)
          · refine z_iload_n C 0 dX10_saysNumber_33 rfl ?_
            refine z_if_le (tgt := 58) C dX10_saysNumber_34 (by decide) (by omega) (fun h => absurd h (by omega)) (fun _ => ?_)
            refine z_aload_n C 2 dX10_saysNumber_37 rfl ?_
            refine z_bipush (z := 48) C dX10_saysNumber_38 (by decide) ?_
            refine z_iload_n C 1 dX10_saysNumber_40 rfl ?_
            refine z_iload_n C 0 dX10_saysNumber_41 rfl ?_
            refine z_idiv C dX10_saysNumber_42 (by omega) (by omega) (by omega) ?_
            obtain ⟨xy52, exy52, hxy52⟩ : ∃ x9, (vy3).tdiv 10000 = x9 ∧ (0 ≤ vy3 → 0 ≤ x9 ∧ 10000 * x9 ≤ vy3 ∧ vy3 < 10000 * x9 + 10000) ∧ (vy3 ≤ 0 → x9 ≤ 0 ∧ vy3 ≤ 10000 * x9 ∧ 10000 * x9 < vy3 + 10000) := tdk 10000 (by decide)
            rw [exy52]
            refine z_bipush (z := 10) C dX10_saysNumber_43 (by decide) ?_
            refine z_irem C dX10_saysNumber_45 (by omega) (by omega) (by omega) ?_
            refine z_iadd C dX10_saysNumber_46 ?_
            have hey54 : F 51 = F 51 := rfl
            refine z_cV (As := [.int (zI (48 + (xy52.tmod 10)))]) (rest := []) (ci := 12) C (c_X10_says l D A cs tt N ad _ i hN _ hg _ ha24 (by omega) (48 + (xy52.tmod 10))) (by omega) hay1 hg rfl rfl mv_yX10_says q_1850 hd_yX10_says (by decide) (Nat.le_of_ble_eq_true rfl) (by decide) dX10_saysNumber_47 rfl (kV0 fun gvy53 hvy53 => ?_)
            obtain ⟨⟨Fvy53, hcvy53, hnvy53, hFvy53⟩, ⟨tvy53, htvy53⟩, hfvy53⟩ := hvy53
            have hovy53 : F 51 = F 51 := rfl
            have hqvy53 : Fvy53 51 = F 51 + 1 := by omega
            clear hnvy53 hovy53
            refine z_iload_n C 0 dX10_saysNumber_50 rfl ?_
            refine z_bipush (z := 10) C dX10_saysNumber_51 (by decide) ?_
            refine z_idiv C dX10_saysNumber_53 (by decide) (by decide) (by decide) ?_
            rw [show (10000 : Int).tdiv 10 = 1000 by decide]
            refine z_istore_n (lv' := [(3, .int (zI (1000))), (2, .int (zI (vy3))), (0, .ref (ad i)), (1, .int (zI (z)))]) C dX10_saysNumber_54 rfl (by decide) rfl ?_
            refine z_goto (tgt := 33) C dX10_saysNumber_55 (by decide) ?_
            refine z_iload_n C 0 dX10_saysNumber_33 rfl ?_
            refine z_if_le (tgt := 58) C dX10_saysNumber_34 (by decide) (by omega) (fun h => absurd h (by omega)) (fun _ => ?_)
            refine z_aload_n C 2 dX10_saysNumber_37 rfl ?_
            refine z_bipush (z := 48) C dX10_saysNumber_38 (by decide) ?_
            refine z_iload_n C 1 dX10_saysNumber_40 rfl ?_
            refine z_iload_n C 0 dX10_saysNumber_41 rfl ?_
            refine z_idiv C dX10_saysNumber_42 (by omega) (by omega) (by omega) ?_
            obtain ⟨xy55, exy55, hxy55⟩ : ∃ x9, (vy3).tdiv 1000 = x9 ∧ (0 ≤ vy3 → 0 ≤ x9 ∧ 1000 * x9 ≤ vy3 ∧ vy3 < 1000 * x9 + 1000) ∧ (vy3 ≤ 0 → x9 ≤ 0 ∧ vy3 ≤ 1000 * x9 ∧ 1000 * x9 < vy3 + 1000) := tdk 1000 (by decide)
            rw [exy55]
            refine z_bipush (z := 10) C dX10_saysNumber_43 (by decide) ?_
            refine z_irem C dX10_saysNumber_45 (by omega) (by omega) (by omega) ?_
            refine z_iadd C dX10_saysNumber_46 ?_
            have hey57 : Fvy53 51 = F 51 + 1 := hqvy53
            refine z_cV (As := [.int (zI (48 + (xy55.tmod 10)))]) (rest := []) (ci := 12) C (c_X10_says l D A cs tt N ad _ i hN _ hcvy53 _ htvy53 (by omega) (48 + (xy55.tmod 10))) (by omega) hay1 hcvy53 rfl rfl mv_yX10_says q_1850 hd_yX10_says (by decide) (Nat.le_of_ble_eq_true rfl) (by decide) dX10_saysNumber_47 rfl (kV0 fun gvy56 hvy56 => ?_)
            obtain ⟨⟨Fvy56, hcvy56, hnvy56, hFvy56⟩, ⟨tvy56, htvy56⟩, hfvy56⟩ := hvy56
            have hovy56 : Fvy53 51 = F 51 + 1 := hqvy53
            have hqvy56 : Fvy56 51 = F 51 + 2 := by omega
            clear hnvy56 hovy56
            refine z_iload_n C 0 dX10_saysNumber_50 rfl ?_
            refine z_bipush (z := 10) C dX10_saysNumber_51 (by decide) ?_
            refine z_idiv C dX10_saysNumber_53 (by decide) (by decide) (by decide) ?_
            rw [show (1000 : Int).tdiv 10 = 100 by decide]
            refine z_istore_n (lv' := [(3, .int (zI (100))), (2, .int (zI (vy3))), (0, .ref (ad i)), (1, .int (zI (z)))]) C dX10_saysNumber_54 rfl (by decide) rfl ?_
            refine z_goto (tgt := 33) C dX10_saysNumber_55 (by decide) ?_
            refine z_iload_n C 0 dX10_saysNumber_33 rfl ?_
            refine z_if_le (tgt := 58) C dX10_saysNumber_34 (by decide) (by omega) (fun h => absurd h (by omega)) (fun _ => ?_)
            refine z_aload_n C 2 dX10_saysNumber_37 rfl ?_
            refine z_bipush (z := 48) C dX10_saysNumber_38 (by decide) ?_
            refine z_iload_n C 1 dX10_saysNumber_40 rfl ?_
            refine z_iload_n C 0 dX10_saysNumber_41 rfl ?_
            refine z_idiv C dX10_saysNumber_42 (by omega) (by omega) (by omega) ?_
            obtain ⟨xy58, exy58, hxy58⟩ : ∃ x9, (vy3).tdiv 100 = x9 ∧ (0 ≤ vy3 → 0 ≤ x9 ∧ 100 * x9 ≤ vy3 ∧ vy3 < 100 * x9 + 100) ∧ (vy3 ≤ 0 → x9 ≤ 0 ∧ vy3 ≤ 100 * x9 ∧ 100 * x9 < vy3 + 100) := tdk 100 (by decide)
            rw [exy58]
            refine z_bipush (z := 10) C dX10_saysNumber_43 (by decide) ?_
            refine z_irem C dX10_saysNumber_45 (by omega) (by omega) (by omega) ?_
            refine z_iadd C dX10_saysNumber_46 ?_
            have hey60 : Fvy56 51 = F 51 + 2 := hqvy56
            refine z_cV (As := [.int (zI (48 + (xy58.tmod 10)))]) (rest := []) (ci := 12) C (c_X10_says l D A cs tt N ad _ i hN _ hcvy56 _ htvy56 (by omega) (48 + (xy58.tmod 10))) (by omega) hay1 hcvy56 rfl rfl mv_yX10_says q_1850 hd_yX10_says (by decide) (Nat.le_of_ble_eq_true rfl) (by decide) dX10_saysNumber_47 rfl (kV0 fun gvy59 hvy59 => ?_)
            obtain ⟨⟨Fvy59, hcvy59, hnvy59, hFvy59⟩, ⟨tvy59, htvy59⟩, hfvy59⟩ := hvy59
            have hovy59 : Fvy56 51 = F 51 + 2 := hqvy56
            have hqvy59 : Fvy59 51 = F 51 + 3 := by omega
            clear hnvy59 hovy59
            refine z_iload_n C 0 dX10_saysNumber_50 rfl ?_
            refine z_bipush (z := 10) C dX10_saysNumber_51 (by decide) ?_
            refine z_idiv C dX10_saysNumber_53 (by decide) (by decide) (by decide) ?_
            rw [show (100 : Int).tdiv 10 = 10 by decide]
            refine z_istore_n (lv' := [(3, .int (zI (10))), (2, .int (zI (vy3))), (0, .ref (ad i)), (1, .int (zI (z)))]) C dX10_saysNumber_54 rfl (by decide) rfl ?_
            refine z_goto (tgt := 33) C dX10_saysNumber_55 (by decide) ?_
            refine z_iload_n C 0 dX10_saysNumber_33 rfl ?_
            refine z_if_le (tgt := 58) C dX10_saysNumber_34 (by decide) (by omega) (fun h => absurd h (by omega)) (fun _ => ?_)
            refine z_aload_n C 2 dX10_saysNumber_37 rfl ?_
            refine z_bipush (z := 48) C dX10_saysNumber_38 (by decide) ?_
            refine z_iload_n C 1 dX10_saysNumber_40 rfl ?_
            refine z_iload_n C 0 dX10_saysNumber_41 rfl ?_
            refine z_idiv C dX10_saysNumber_42 (by omega) (by omega) (by omega) ?_
            obtain ⟨xy61, exy61, hxy61⟩ : ∃ x9, (vy3).tdiv 10 = x9 ∧ (0 ≤ vy3 → 0 ≤ x9 ∧ 10 * x9 ≤ vy3 ∧ vy3 < 10 * x9 + 10) ∧ (vy3 ≤ 0 → x9 ≤ 0 ∧ vy3 ≤ 10 * x9 ∧ 10 * x9 < vy3 + 10) := tdk 10 (by decide)
            rw [exy61]
            refine z_bipush (z := 10) C dX10_saysNumber_43 (by decide) ?_
            refine z_irem C dX10_saysNumber_45 (by omega) (by omega) (by omega) ?_
            refine z_iadd C dX10_saysNumber_46 ?_
            have hey63 : Fvy59 51 = F 51 + 3 := hqvy59
            refine z_cV (As := [.int (zI (48 + (xy61.tmod 10)))]) (rest := []) (ci := 12) C (c_X10_says l D A cs tt N ad _ i hN _ hcvy59 _ htvy59 (by omega) (48 + (xy61.tmod 10))) (by omega) hay1 hcvy59 rfl rfl mv_yX10_says q_1850 hd_yX10_says (by decide) (Nat.le_of_ble_eq_true rfl) (by decide) dX10_saysNumber_47 rfl (kV0 fun gvy62 hvy62 => ?_)
            obtain ⟨⟨Fvy62, hcvy62, hnvy62, hFvy62⟩, ⟨tvy62, htvy62⟩, hfvy62⟩ := hvy62
            have hovy62 : Fvy59 51 = F 51 + 3 := hqvy59
            have hqvy62 : Fvy62 51 = F 51 + 4 := by omega
            clear hnvy62 hovy62
            refine z_iload_n C 0 dX10_saysNumber_50 rfl ?_
            refine z_bipush (z := 10) C dX10_saysNumber_51 (by decide) ?_
            refine z_idiv C dX10_saysNumber_53 (by decide) (by decide) (by decide) ?_
            rw [show (10 : Int).tdiv 10 = 1 by decide]
            refine z_istore_n (lv' := [(3, .int (zI (1))), (2, .int (zI (vy3))), (0, .ref (ad i)), (1, .int (zI (z)))]) C dX10_saysNumber_54 rfl (by decide) rfl ?_
            refine z_goto (tgt := 33) C dX10_saysNumber_55 (by decide) ?_
            refine z_iload_n C 0 dX10_saysNumber_33 rfl ?_
            refine z_if_le (tgt := 58) C dX10_saysNumber_34 (by decide) (by omega) (fun h => absurd h (by omega)) (fun _ => ?_)
            refine z_aload_n C 2 dX10_saysNumber_37 rfl ?_
            refine z_bipush (z := 48) C dX10_saysNumber_38 (by decide) ?_
            refine z_iload_n C 1 dX10_saysNumber_40 rfl ?_
            refine z_iload_n C 0 dX10_saysNumber_41 rfl ?_
            refine z_idiv C dX10_saysNumber_42 (by omega) (by omega) (by omega) ?_
            obtain ⟨xy64, exy64, hxy64⟩ : ∃ x9, (vy3).tdiv 1 = x9 ∧ (0 ≤ vy3 → 0 ≤ x9 ∧ 1 * x9 ≤ vy3 ∧ vy3 < 1 * x9 + 1) ∧ (vy3 ≤ 0 → x9 ≤ 0 ∧ vy3 ≤ 1 * x9 ∧ 1 * x9 < vy3 + 1) := tdk 1 (by decide)
            rw [exy64]
            refine z_bipush (z := 10) C dX10_saysNumber_43 (by decide) ?_
            refine z_irem C dX10_saysNumber_45 (by omega) (by omega) (by omega) ?_
            refine z_iadd C dX10_saysNumber_46 ?_
            have hey66 : Fvy62 51 = F 51 + 4 := hqvy62
            refine z_cV (As := [.int (zI (48 + (xy64.tmod 10)))]) (rest := []) (ci := 12) C (c_X10_says l D A cs tt N ad _ i hN _ hcvy62 _ htvy62 (by omega) (48 + (xy64.tmod 10))) (by omega) hay1 hcvy62 rfl rfl mv_yX10_says q_1850 hd_yX10_says (by decide) (Nat.le_of_ble_eq_true rfl) (by decide) dX10_saysNumber_47 rfl (kV0 fun gvy65 hvy65 => ?_)
            obtain ⟨⟨Fvy65, hcvy65, hnvy65, hFvy65⟩, ⟨tvy65, htvy65⟩, hfvy65⟩ := hvy65
            have hovy65 : Fvy62 51 = F 51 + 4 := hqvy62
            have hqvy65 : Fvy65 51 = F 51 + 5 := by omega
            clear hnvy65 hovy65
            refine z_iload_n C 0 dX10_saysNumber_50 rfl ?_
            refine z_bipush (z := 10) C dX10_saysNumber_51 (by decide) ?_
            refine z_idiv C dX10_saysNumber_53 (by decide) (by decide) (by decide) ?_
            rw [show (1 : Int).tdiv 10 = 0 by decide]
            refine z_istore_n (lv' := [(3, .int (zI (0))), (2, .int (zI (vy3))), (0, .ref (ad i)), (1, .int (zI (z)))]) C dX10_saysNumber_54 rfl (by decide) rfl ?_
            refine z_goto (tgt := 33) C dX10_saysNumber_55 (by decide) ?_
            refine z_iload_n C 0 dX10_saysNumber_33 rfl ?_
            refine z_if_le (tgt := 58) C dX10_saysNumber_34 (by decide) (by omega) (fun _ => ?_) (fun h => absurd h (by omega))
            have hFy67 : ∀ f, f ≠ 51 → Fvy65 f = F f := fun f n51 => ((hFvy65 f n51).trans ((hFvy62 f n51).trans ((hFvy59 f n51).trans ((hFvy56 f n51).trans (hFvy53 f n51)))))
            have hey68 : Fvy65 51 = F 51 + 5 := hqvy65
            exact z_vret C hr hlk dX10_saysNumber_58 (by decide) (by decide) ⟨rfl, rfl, rfl, ⟨_, hcvy65, by omega, hFy67⟩, ⟨_, htvy65⟩, fun j j1 j2 => by rw [hfvy65 _ (by omega) (by omega)]; rw [hfvy62 _ (by omega) (by omega)]; rw [hfvy59 _ (by omega) (by omega)]; rw [hfvy56 _ (by omega) (by omega)]; rw [hfvy53 _ (by omega) (by omega)]⟩
          · refine z_iload_n C 0 dX10_saysNumber_25 rfl ?_
            refine z_bipush (z := 10) C dX10_saysNumber_26 (by decide) ?_
            refine z_imul C dX10_saysNumber_28 ?_
            rw [show (10000 : Int) * 10 = 100000 by decide]
            refine z_istore_n (lv' := [(3, .int (zI (100000))), (2, .int (zI (vy3))), (0, .ref (ad i)), (1, .int (zI (z)))]) C dX10_saysNumber_29 rfl (by decide) rfl ?_
            refine z_goto (tgt := 17) C dX10_saysNumber_30 (by decide) ?_
            refine z_iload_n C 1 dX10_saysNumber_17 rfl ?_
            refine z_iload_n C 0 dX10_saysNumber_18 rfl ?_
            refine z_idiv C dX10_saysNumber_19 (by omega) (by omega) (by omega) ?_
            obtain ⟨xy69, exy69, hxy69⟩ : ∃ x9, (vy3).tdiv 100000 = x9 ∧ (0 ≤ vy3 → 0 ≤ x9 ∧ 100000 * x9 ≤ vy3 ∧ vy3 < 100000 * x9 + 100000) ∧ (vy3 ≤ 0 → x9 ≤ 0 ∧ vy3 ≤ 100000 * x9 ∧ 100000 * x9 < vy3 + 100000) := tdk 100000 (by decide)
            rw [exy69]
            refine z_bipush (z := 9) C dX10_saysNumber_20 (by decide) ?_
            refine z_icmp_le (tgt := 33) C dX10_saysNumber_22 (by decide) (by omega) (by omega) (fun hby70 => ?_) (fun hby70 => ?_)
            · refine z_iload_n C 0 dX10_saysNumber_33 rfl ?_
              refine z_if_le (tgt := 58) C dX10_saysNumber_34 (by decide) (by omega) (fun h => absurd h (by omega)) (fun _ => ?_)
              refine z_aload_n C 2 dX10_saysNumber_37 rfl ?_
              refine z_bipush (z := 48) C dX10_saysNumber_38 (by decide) ?_
              refine z_iload_n C 1 dX10_saysNumber_40 rfl ?_
              refine z_iload_n C 0 dX10_saysNumber_41 rfl ?_
              refine z_idiv C dX10_saysNumber_42 (by omega) (by omega) (by omega) ?_
              obtain ⟨xy71, exy71, hxy71⟩ : ∃ x9, (vy3).tdiv 100000 = x9 ∧ (0 ≤ vy3 → 0 ≤ x9 ∧ 100000 * x9 ≤ vy3 ∧ vy3 < 100000 * x9 + 100000) ∧ (vy3 ≤ 0 → x9 ≤ 0 ∧ vy3 ≤ 100000 * x9 ∧ 100000 * x9 < vy3 + 100000) := tdk 100000 (by decide)
              rw [exy71]
              refine z_bipush (z := 10) C dX10_saysNumber_43 (by decide) ?_
              refine z_irem C dX10_saysNumber_45 (by omega) (by omega) (by omega) ?_
              refine z_iadd C dX10_saysNumber_46 ?_
              have hey73 : F 51 = F 51 := rfl
              refine z_cV (As := [.int (zI (48 + (xy71.tmod 10)))]) (rest := []) (ci := 12) C (c_X10_says l D A cs tt N ad _ i hN _ hg _ ha24 (by omega) (48 + (xy71.tmod 10))) (by omega) hay1 hg rfl rfl mv_yX10_says q_1850 hd_yX10_says (by decide) (Nat.le_of_ble_eq_true rfl) (by decide) dX10_saysNumber_47 rfl (kV0 fun gvy72 hvy72 => ?_)
              obtain ⟨⟨Fvy72, hcvy72, hnvy72, hFvy72⟩, ⟨tvy72, htvy72⟩, hfvy72⟩ := hvy72
              have hovy72 : F 51 = F 51 := rfl
              have hqvy72 : Fvy72 51 = F 51 + 1 := by omega
              clear hnvy72 hovy72
              refine z_iload_n C 0 dX10_saysNumber_50 rfl ?_
              refine z_bipush (z := 10) C dX10_saysNumber_51 (by decide) ?_
              refine z_idiv C dX10_saysNumber_53 (by decide) (by decide) (by decide) ?_
              rw [show (100000 : Int).tdiv 10 = 10000 by decide]
              refine z_istore_n (lv' := [(3, .int (zI (10000))), (2, .int (zI (vy3))), (0, .ref (ad i)), (1, .int (zI (z)))]) C dX10_saysNumber_54 rfl (by decide) rfl ?_
              refine z_goto (tgt := 33) C dX10_saysNumber_55 (by decide) ?_
              refine z_iload_n C 0 dX10_saysNumber_33 rfl ?_
              refine z_if_le (tgt := 58) C dX10_saysNumber_34 (by decide) (by omega) (fun h => absurd h (by omega)) (fun _ => ?_)
              refine z_aload_n C 2 dX10_saysNumber_37 rfl ?_
              refine z_bipush (z := 48) C dX10_saysNumber_38 (by decide) ?_
              refine z_iload_n C 1 dX10_saysNumber_40 rfl ?_
              refine z_iload_n C 0 dX10_saysNumber_41 rfl ?_
              refine z_idiv C dX10_saysNumber_42 (by omega) (by omega) (by omega) ?_
              obtain ⟨xy74, exy74, hxy74⟩ : ∃ x9, (vy3).tdiv 10000 = x9 ∧ (0 ≤ vy3 → 0 ≤ x9 ∧ 10000 * x9 ≤ vy3 ∧ vy3 < 10000 * x9 + 10000) ∧ (vy3 ≤ 0 → x9 ≤ 0 ∧ vy3 ≤ 10000 * x9 ∧ 10000 * x9 < vy3 + 10000) := tdk 10000 (by decide)
              rw [exy74]
              refine z_bipush (z := 10) C dX10_saysNumber_43 (by decide) ?_
              refine z_irem C dX10_saysNumber_45 (by omega) (by omega) (by omega) ?_
              refine z_iadd C dX10_saysNumber_46 ?_
              have hey76 : Fvy72 51 = F 51 + 1 := hqvy72
              refine z_cV (As := [.int (zI (48 + (xy74.tmod 10)))]) (rest := []) (ci := 12) C (c_X10_says l D A cs tt N ad _ i hN _ hcvy72 _ htvy72 (by omega) (48 + (xy74.tmod 10))) (by omega) hay1 hcvy72 rfl rfl mv_yX10_says q_1850 hd_yX10_says (by decide) (Nat.le_of_ble_eq_true rfl) (by decide) dX10_saysNumber_47 rfl (kV0 fun gvy75 hvy75 => ?_)
              obtain ⟨⟨Fvy75, hcvy75, hnvy75, hFvy75⟩, ⟨tvy75, htvy75⟩, hfvy75⟩ := hvy75
              have hovy75 : Fvy72 51 = F 51 + 1 := hqvy72
              have hqvy75 : Fvy75 51 = F 51 + 2 := by omega
              clear hnvy75 hovy75
              refine z_iload_n C 0 dX10_saysNumber_50 rfl ?_
              refine z_bipush (z := 10) C dX10_saysNumber_51 (by decide) ?_
              refine z_idiv C dX10_saysNumber_53 (by decide) (by decide) (by decide) ?_
              rw [show (10000 : Int).tdiv 10 = 1000 by decide]
              refine z_istore_n (lv' := [(3, .int (zI (1000))), (2, .int (zI (vy3))), (0, .ref (ad i)), (1, .int (zI (z)))]) C dX10_saysNumber_54 rfl (by decide) rfl ?_
              refine z_goto (tgt := 33) C dX10_saysNumber_55 (by decide) ?_
              refine z_iload_n C 0 dX10_saysNumber_33 rfl ?_
              refine z_if_le (tgt := 58) C dX10_saysNumber_34 (by decide) (by omega) (fun h => absurd h (by omega)) (fun _ => ?_)
              refine z_aload_n C 2 dX10_saysNumber_37 rfl ?_
              refine z_bipush (z := 48) C dX10_saysNumber_38 (by decide) ?_
              refine z_iload_n C 1 dX10_saysNumber_40 rfl ?_
              refine z_iload_n C 0 dX10_saysNumber_41 rfl ?_
              refine z_idiv C dX10_saysNumber_42 (by omega) (by omega) (by omega) ?_
              obtain ⟨xy77, exy77, hxy77⟩ : ∃ x9, (vy3).tdiv 1000 = x9 ∧ (0 ≤ vy3 → 0 ≤ x9 ∧ 1000 * x9 ≤ vy3 ∧ vy3 < 1000 * x9 + 1000) ∧ (vy3 ≤ 0 → x9 ≤ 0 ∧ vy3 ≤ 1000 * x9 ∧ 1000 * x9 < vy3 + 1000) := tdk 1000 (by decide)
              rw [exy77]
              refine z_bipush (z := 10) C dX10_saysNumber_43 (by decide) ?_
              refine z_irem C dX10_saysNumber_45 (by omega) (by omega) (by omega) ?_
              refine z_iadd C dX10_saysNumber_46 ?_
              have hey79 : Fvy75 51 = F 51 + 2 := hqvy75
              refine z_cV (As := [.int (zI (48 + (xy77.tmod 10)))]) (rest := []) (ci := 12) C (c_X10_says l D A cs tt N ad _ i hN _ hcvy75 _ htvy75 (by omega) (48 + (xy77.tmod 10))) (by omega) hay1 hcvy75 rfl rfl mv_yX10_says q_1850 hd_yX10_says (by decide) (Nat.le_of_ble_eq_true rfl) (by decide) dX10_saysNumber_47 rfl (kV0 fun gvy78 hvy78 => ?_)
              obtain ⟨⟨Fvy78, hcvy78, hnvy78, hFvy78⟩, ⟨tvy78, htvy78⟩, hfvy78⟩ := hvy78
              have hovy78 : Fvy75 51 = F 51 + 2 := hqvy75
              have hqvy78 : Fvy78 51 = F 51 + 3 := by omega
              clear hnvy78 hovy78
              refine z_iload_n C 0 dX10_saysNumber_50 rfl ?_
              refine z_bipush (z := 10) C dX10_saysNumber_51 (by decide) ?_
              refine z_idiv C dX10_saysNumber_53 (by decide) (by decide) (by decide) ?_
              rw [show (1000 : Int).tdiv 10 = 100 by decide]
              refine z_istore_n (lv' := [(3, .int (zI (100))), (2, .int (zI (vy3))), (0, .ref (ad i)), (1, .int (zI (z)))]) C dX10_saysNumber_54 rfl (by decide) rfl ?_
              refine z_goto (tgt := 33) C dX10_saysNumber_55 (by decide) ?_
              refine z_iload_n C 0 dX10_saysNumber_33 rfl ?_
              refine z_if_le (tgt := 58) C dX10_saysNumber_34 (by decide) (by omega) (fun h => absurd h (by omega)) (fun _ => ?_)
              refine z_aload_n C 2 dX10_saysNumber_37 rfl ?_
              refine z_bipush (z := 48) C dX10_saysNumber_38 (by decide) ?_
              refine z_iload_n C 1 dX10_saysNumber_40 rfl ?_
              refine z_iload_n C 0 dX10_saysNumber_41 rfl ?_
              refine z_idiv C dX10_saysNumber_42 (by omega) (by omega) (by omega) ?_
              obtain ⟨xy80, exy80, hxy80⟩ : ∃ x9, (vy3).tdiv 100 = x9 ∧ (0 ≤ vy3 → 0 ≤ x9 ∧ 100 * x9 ≤ vy3 ∧ vy3 < 100 * x9 + 100) ∧ (vy3 ≤ 0 → x9 ≤ 0 ∧ vy3 ≤ 100 * x9 ∧ 100 * x9 < vy3 + 100) := tdk 100 (by decide)
              rw [exy80]
              refine z_bipush (z := 10) C dX10_saysNumber_43 (by decide) ?_
              refine z_irem C dX10_saysNumber_45 (by omega) (by omega) (by omega) ?_
              refine z_iadd C dX10_saysNumber_46 ?_
              have hey82 : Fvy78 51 = F 51 + 3 := hqvy78
              refine z_cV (As := [.int (zI (48 + (xy80.tmod 10)))]) (rest := []) (ci := 12) C (c_X10_says l D A cs tt N ad _ i hN _ hcvy78 _ htvy78 (by omega) (48 + (xy80.tmod 10))) (by omega) hay1 hcvy78 rfl rfl mv_yX10_says q_1850 hd_yX10_says (by decide) (Nat.le_of_ble_eq_true rfl) (by decide) dX10_saysNumber_47 rfl (kV0 fun gvy81 hvy81 => ?_)
              obtain ⟨⟨Fvy81, hcvy81, hnvy81, hFvy81⟩, ⟨tvy81, htvy81⟩, hfvy81⟩ := hvy81
              have hovy81 : Fvy78 51 = F 51 + 3 := hqvy78
              have hqvy81 : Fvy81 51 = F 51 + 4 := by omega
              clear hnvy81 hovy81
              refine z_iload_n C 0 dX10_saysNumber_50 rfl ?_
              refine z_bipush (z := 10) C dX10_saysNumber_51 (by decide) ?_
              refine z_idiv C dX10_saysNumber_53 (by decide) (by decide) (by decide) ?_
              rw [show (100 : Int).tdiv 10 = 10 by decide]
              refine z_istore_n (lv' := [(3, .int (zI (10))), (2, .int (zI (vy3))), (0, .ref (ad i)), (1, .int (zI (z)))]) C dX10_saysNumber_54 rfl (by decide) rfl ?_
              refine z_goto (tgt := 33) C dX10_saysNumber_55 (by decide) ?_
              refine z_iload_n C 0 dX10_saysNumber_33 rfl ?_
              refine z_if_le (tgt := 58) C dX10_saysNumber_34 (by decide) (by omega) (fun h => absurd h (by omega)) (fun _ => ?_)
              refine z_aload_n C 2 dX10_saysNumber_37 rfl ?_
              refine z_bipush (z := 48) C dX10_saysNumber_38 (by decide) ?_
              refine z_iload_n C 1 dX10_saysNumber_40 rfl ?_
              refine z_iload_n C 0 dX10_saysNumber_41 rfl ?_
              refine z_idiv C dX10_saysNumber_42 (by omega) (by omega) (by omega) ?_
              obtain ⟨xy83, exy83, hxy83⟩ : ∃ x9, (vy3).tdiv 10 = x9 ∧ (0 ≤ vy3 → 0 ≤ x9 ∧ 10 * x9 ≤ vy3 ∧ vy3 < 10 * x9 + 10) ∧ (vy3 ≤ 0 → x9 ≤ 0 ∧ vy3 ≤ 10 * x9 ∧ 10 * x9 < vy3 + 10) := tdk 10 (by decide)
              rw [exy83]
              refine z_bipush (z := 10) C dX10_saysNumber_43 (by decide) ?_
              refine z_irem C dX10_saysNumber_45 (by omega) (by omega) (by omega) ?_
              refine z_iadd C dX10_saysNumber_46 ?_
              have hey85 : Fvy81 51 = F 51 + 4 := hqvy81
              refine z_cV (As := [.int (zI (48 + (xy83.tmod 10)))]) (rest := []) (ci := 12) C (c_X10_says l D A cs tt N ad _ i hN _ hcvy81 _ htvy81 (by omega) (48 + (xy83.tmod 10))) (by omega) hay1 hcvy81 rfl rfl mv_yX10_says q_1850 hd_yX10_says (by decide) (Nat.le_of_ble_eq_true rfl) (by decide) dX10_saysNumber_47 rfl (kV0 fun gvy84 hvy84 => ?_)
              obtain ⟨⟨Fvy84, hcvy84, hnvy84, hFvy84⟩, ⟨tvy84, htvy84⟩, hfvy84⟩ := hvy84
              have hovy84 : Fvy81 51 = F 51 + 4 := hqvy81
              have hqvy84 : Fvy84 51 = F 51 + 5 := by omega
              clear hnvy84 hovy84
              refine z_iload_n C 0 dX10_saysNumber_50 rfl ?_
              refine z_bipush (z := 10) C dX10_saysNumber_51 (by decide) ?_
              refine z_idiv C dX10_saysNumber_53 (by decide) (by decide) (by decide) ?_
              rw [show (10 : Int).tdiv 10 = 1 by decide]
              refine z_istore_n (lv' := [(3, .int (zI (1))), (2, .int (zI (vy3))), (0, .ref (ad i)), (1, .int (zI (z)))]) C dX10_saysNumber_54 rfl (by decide) rfl ?_
              refine z_goto (tgt := 33) C dX10_saysNumber_55 (by decide) ?_
              refine z_iload_n C 0 dX10_saysNumber_33 rfl ?_
              refine z_if_le (tgt := 58) C dX10_saysNumber_34 (by decide) (by omega) (fun h => absurd h (by omega)) (fun _ => ?_)
              refine z_aload_n C 2 dX10_saysNumber_37 rfl ?_
              refine z_bipush (z := 48) C dX10_saysNumber_38 (by decide) ?_
              refine z_iload_n C 1 dX10_saysNumber_40 rfl ?_
              refine z_iload_n C 0 dX10_saysNumber_41 rfl ?_
              refine z_idiv C dX10_saysNumber_42 (by omega) (by omega) (by omega) ?_
              obtain ⟨xy86, exy86, hxy86⟩ : ∃ x9, (vy3).tdiv 1 = x9 ∧ (0 ≤ vy3 → 0 ≤ x9 ∧ 1 * x9 ≤ vy3 ∧ vy3 < 1 * x9 + 1) ∧ (vy3 ≤ 0 → x9 ≤ 0 ∧ vy3 ≤ 1 * x9 ∧ 1 * x9 < vy3 + 1) := tdk 1 (by decide)
              rw [exy86]
              refine z_bipush (z := 10) C dX10_saysNumber_43 (by decide) ?_
              refine z_irem C dX10_saysNumber_45 (by omega) (by omega) (by omega) ?_
              refine z_iadd C dX10_saysNumber_46 ?_
              have hey88 : Fvy84 51 = F 51 + 5 := hqvy84
              refine z_cV (As := [.int (zI (48 + (xy86.tmod 10)))]) (rest := []) (ci := 12) C (c_X10_says l D A cs tt N ad _ i hN _ hcvy84 _ htvy84 (by omega) (48 + (xy86.tmod 10))) (by omega) hay1 hcvy84 rfl rfl mv_yX10_says q_1850 hd_yX10_says (by decide) (Nat.le_of_ble_eq_true rfl) (by decide) dX10_saysNumber_47 rfl (kV0 fun gvy87 hvy87 => ?_)
              obtain ⟨⟨Fvy87, hcvy87, hnvy87, hFvy87⟩, ⟨tvy87, htvy87⟩, hfvy87⟩ := hvy87
              have hovy87 : Fvy84 51 = F 51 + 5 := hqvy84
              have hqvy87 : Fvy87 51 = F 51 + 6 := by omega
              clear hnvy87 hovy87
              refine z_iload_n C 0 dX10_saysNumber_50 rfl ?_
              refine z_bipush (z := 10) C dX10_saysNumber_51 (by decide) ?_
              refine z_idiv C dX10_saysNumber_53 (by decide) (by decide) (by decide) ?_
              rw [show (1 : Int).tdiv 10 = 0 by decide]
              refine z_istore_n (lv' := [(3, .int (zI (0))), (2, .int (zI (vy3))), (0, .ref (ad i)), (1, .int (zI (z)))]) C dX10_saysNumber_54 rfl (by decide) rfl ?_
              refine z_goto (tgt := 33) C dX10_saysNumber_55 (by decide) ?_
              refine z_iload_n C 0 dX10_saysNumber_33 rfl ?_
              refine z_if_le (tgt := 58) C dX10_saysNumber_34 (by decide) (by omega) (fun _ => ?_) (fun h => absurd h (by omega))
              have hFy89 : ∀ f, f ≠ 51 → Fvy87 f = F f := fun f n51 => ((hFvy87 f n51).trans ((hFvy84 f n51).trans ((hFvy81 f n51).trans ((hFvy78 f n51).trans ((hFvy75 f n51).trans (hFvy72 f n51))))))
              have hey90 : Fvy87 51 = F 51 + 6 := hqvy87
              exact z_vret C hr hlk dX10_saysNumber_58 (by decide) (by decide) ⟨rfl, rfl, rfl, ⟨_, hcvy87, by omega, hFy89⟩, ⟨_, htvy87⟩, fun j j1 j2 => by rw [hfvy87 _ (by omega) (by omega)]; rw [hfvy84 _ (by omega) (by omega)]; rw [hfvy81 _ (by omega) (by omega)]; rw [hfvy78 _ (by omega) (by omega)]; rw [hfvy75 _ (by omega) (by omega)]; rw [hfvy72 _ (by omega) (by omega)]⟩
            · refine z_iload_n C 0 dX10_saysNumber_25 rfl ?_
              refine z_bipush (z := 10) C dX10_saysNumber_26 (by decide) ?_
              refine z_imul C dX10_saysNumber_28 ?_
              rw [show (100000 : Int) * 10 = 1000000 by decide]
              refine z_istore_n (lv' := [(3, .int (zI (1000000))), (2, .int (zI (vy3))), (0, .ref (ad i)), (1, .int (zI (z)))]) C dX10_saysNumber_29 rfl (by decide) rfl ?_
              refine z_goto (tgt := 17) C dX10_saysNumber_30 (by decide) ?_
              refine z_iload_n C 1 dX10_saysNumber_17 rfl ?_
              refine z_iload_n C 0 dX10_saysNumber_18 rfl ?_
              refine z_idiv C dX10_saysNumber_19 (by omega) (by omega) (by omega) ?_
              obtain ⟨xy91, exy91, hxy91⟩ : ∃ x9, (vy3).tdiv 1000000 = x9 ∧ (0 ≤ vy3 → 0 ≤ x9 ∧ 1000000 * x9 ≤ vy3 ∧ vy3 < 1000000 * x9 + 1000000) ∧ (vy3 ≤ 0 → x9 ≤ 0 ∧ vy3 ≤ 1000000 * x9 ∧ 1000000 * x9 < vy3 + 1000000) := tdk 1000000 (by decide)
              rw [exy91]
              refine z_bipush (z := 9) C dX10_saysNumber_20 (by decide) ?_
              refine z_icmp_le (tgt := 33) C dX10_saysNumber_22 (by decide) (by omega) (by omega) (fun hby92 => ?_) (fun hby92 => ?_)
              · refine z_iload_n C 0 dX10_saysNumber_33 rfl ?_
                refine z_if_le (tgt := 58) C dX10_saysNumber_34 (by decide) (by omega) (fun h => absurd h (by omega)) (fun _ => ?_)
                refine z_aload_n C 2 dX10_saysNumber_37 rfl ?_
                refine z_bipush (z := 48) C dX10_saysNumber_38 (by decide) ?_
                refine z_iload_n C 1 dX10_saysNumber_40 rfl ?_
                refine z_iload_n C 0 dX10_saysNumber_41 rfl ?_
                refine z_idiv C dX10_saysNumber_42 (by omega) (by omega) (by omega) ?_
                obtain ⟨xy93, exy93, hxy93⟩ : ∃ x9, (vy3).tdiv 1000000 = x9 ∧ (0 ≤ vy3 → 0 ≤ x9 ∧ 1000000 * x9 ≤ vy3 ∧ vy3 < 1000000 * x9 + 1000000) ∧ (vy3 ≤ 0 → x9 ≤ 0 ∧ vy3 ≤ 1000000 * x9 ∧ 1000000 * x9 < vy3 + 1000000) := tdk 1000000 (by decide)
                rw [exy93]
                refine z_bipush (z := 10) C dX10_saysNumber_43 (by decide) ?_
                refine z_irem C dX10_saysNumber_45 (by omega) (by omega) (by omega) ?_
                refine z_iadd C dX10_saysNumber_46 ?_
                have hey95 : F 51 = F 51 := rfl
                refine z_cV (As := [.int (zI (48 + (xy93.tmod 10)))]) (rest := []) (ci := 12) C (c_X10_says l D A cs tt N ad _ i hN _ hg _ ha24 (by omega) (48 + (xy93.tmod 10))) (by omega) hay1 hg rfl rfl mv_yX10_says q_1850 hd_yX10_says (by decide) (Nat.le_of_ble_eq_true rfl) (by decide) dX10_saysNumber_47 rfl (kV0 fun gvy94 hvy94 => ?_)
                obtain ⟨⟨Fvy94, hcvy94, hnvy94, hFvy94⟩, ⟨tvy94, htvy94⟩, hfvy94⟩ := hvy94
                have hovy94 : F 51 = F 51 := rfl
                have hqvy94 : Fvy94 51 = F 51 + 1 := by omega
                clear hnvy94 hovy94
                refine z_iload_n C 0 dX10_saysNumber_50 rfl ?_
                refine z_bipush (z := 10) C dX10_saysNumber_51 (by decide) ?_
                refine z_idiv C dX10_saysNumber_53 (by decide) (by decide) (by decide) ?_
                rw [show (1000000 : Int).tdiv 10 = 100000 by decide]
                refine z_istore_n (lv' := [(3, .int (zI (100000))), (2, .int (zI (vy3))), (0, .ref (ad i)), (1, .int (zI (z)))]) C dX10_saysNumber_54 rfl (by decide) rfl ?_
                refine z_goto (tgt := 33) C dX10_saysNumber_55 (by decide) ?_
                refine z_iload_n C 0 dX10_saysNumber_33 rfl ?_
                refine z_if_le (tgt := 58) C dX10_saysNumber_34 (by decide) (by omega) (fun h => absurd h (by omega)) (fun _ => ?_)
                refine z_aload_n C 2 dX10_saysNumber_37 rfl ?_
                refine z_bipush (z := 48) C dX10_saysNumber_38 (by decide) ?_
                refine z_iload_n C 1 dX10_saysNumber_40 rfl ?_
                refine z_iload_n C 0 dX10_saysNumber_41 rfl ?_
                refine z_idiv C dX10_saysNumber_42 (by omega) (by omega) (by omega) ?_
                obtain ⟨xy96, exy96, hxy96⟩ : ∃ x9, (vy3).tdiv 100000 = x9 ∧ (0 ≤ vy3 → 0 ≤ x9 ∧ 100000 * x9 ≤ vy3 ∧ vy3 < 100000 * x9 + 100000) ∧ (vy3 ≤ 0 → x9 ≤ 0 ∧ vy3 ≤ 100000 * x9 ∧ 100000 * x9 < vy3 + 100000) := tdk 100000 (by decide)
                rw [exy96]
                refine z_bipush (z := 10) C dX10_saysNumber_43 (by decide) ?_
                refine z_irem C dX10_saysNumber_45 (by omega) (by omega) (by omega) ?_
                refine z_iadd C dX10_saysNumber_46 ?_
                have hey98 : Fvy94 51 = F 51 + 1 := hqvy94
                refine z_cV (As := [.int (zI (48 + (xy96.tmod 10)))]) (rest := []) (ci := 12) C (c_X10_says l D A cs tt N ad _ i hN _ hcvy94 _ htvy94 (by omega) (48 + (xy96.tmod 10))) (by omega) hay1 hcvy94 rfl rfl mv_yX10_says q_1850 hd_yX10_says (by decide) (Nat.le_of_ble_eq_true rfl) (by decide) dX10_saysNumber_47 rfl (kV0 fun gvy97 hvy97 => ?_)
                obtain ⟨⟨Fvy97, hcvy97, hnvy97, hFvy97⟩, ⟨tvy97, htvy97⟩, hfvy97⟩ := hvy97
                have hovy97 : Fvy94 51 = F 51 + 1 := hqvy94
                have hqvy97 : Fvy97 51 = F 51 + 2 := by omega
                clear hnvy97 hovy97
                refine z_iload_n C 0 dX10_saysNumber_50 rfl ?_
                refine z_bipush (z := 10) C dX10_saysNumber_51 (by decide) ?_
                refine z_idiv C dX10_saysNumber_53 (by decide) (by decide) (by decide) ?_
                rw [show (100000 : Int).tdiv 10 = 10000 by decide]
                refine z_istore_n (lv' := [(3, .int (zI (10000))), (2, .int (zI (vy3))), (0, .ref (ad i)), (1, .int (zI (z)))]) C dX10_saysNumber_54 rfl (by decide) rfl ?_
                refine z_goto (tgt := 33) C dX10_saysNumber_55 (by decide) ?_
                refine z_iload_n C 0 dX10_saysNumber_33 rfl ?_
                refine z_if_le (tgt := 58) C dX10_saysNumber_34 (by decide) (by omega) (fun h => absurd h (by omega)) (fun _ => ?_)
                refine z_aload_n C 2 dX10_saysNumber_37 rfl ?_
                refine z_bipush (z := 48) C dX10_saysNumber_38 (by decide) ?_
                refine z_iload_n C 1 dX10_saysNumber_40 rfl ?_
                refine z_iload_n C 0 dX10_saysNumber_41 rfl ?_
                refine z_idiv C dX10_saysNumber_42 (by omega) (by omega) (by omega) ?_
                obtain ⟨xy99, exy99, hxy99⟩ : ∃ x9, (vy3).tdiv 10000 = x9 ∧ (0 ≤ vy3 → 0 ≤ x9 ∧ 10000 * x9 ≤ vy3 ∧ vy3 < 10000 * x9 + 10000) ∧ (vy3 ≤ 0 → x9 ≤ 0 ∧ vy3 ≤ 10000 * x9 ∧ 10000 * x9 < vy3 + 10000) := tdk 10000 (by decide)
                rw [exy99]
                refine z_bipush (z := 10) C dX10_saysNumber_43 (by decide) ?_
                refine z_irem C dX10_saysNumber_45 (by omega) (by omega) (by omega) ?_
                refine z_iadd C dX10_saysNumber_46 ?_
                have hey101 : Fvy97 51 = F 51 + 2 := hqvy97
                refine z_cV (As := [.int (zI (48 + (xy99.tmod 10)))]) (rest := []) (ci := 12) C (c_X10_says l D A cs tt N ad _ i hN _ hcvy97 _ htvy97 (by omega) (48 + (xy99.tmod 10))) (by omega) hay1 hcvy97 rfl rfl mv_yX10_says q_1850 hd_yX10_says (by decide) (Nat.le_of_ble_eq_true rfl) (by decide) dX10_saysNumber_47 rfl (kV0 fun gvy100 hvy100 => ?_)
                obtain ⟨⟨Fvy100, hcvy100, hnvy100, hFvy100⟩, ⟨tvy100, htvy100⟩, hfvy100⟩ := hvy100
                have hovy100 : Fvy97 51 = F 51 + 2 := hqvy97
                have hqvy100 : Fvy100 51 = F 51 + 3 := by omega
                clear hnvy100 hovy100
                refine z_iload_n C 0 dX10_saysNumber_50 rfl ?_
                refine z_bipush (z := 10) C dX10_saysNumber_51 (by decide) ?_
                refine z_idiv C dX10_saysNumber_53 (by decide) (by decide) (by decide) ?_
                rw [show (10000 : Int).tdiv 10 = 1000 by decide]
                refine z_istore_n (lv' := [(3, .int (zI (1000))), (2, .int (zI (vy3))), (0, .ref (ad i)), (1, .int (zI (z)))]) C dX10_saysNumber_54 rfl (by decide) rfl ?_
                refine z_goto (tgt := 33) C dX10_saysNumber_55 (by decide) ?_
                refine z_iload_n C 0 dX10_saysNumber_33 rfl ?_
                refine z_if_le (tgt := 58) C dX10_saysNumber_34 (by decide) (by omega) (fun h => absurd h (by omega)) (fun _ => ?_)
                refine z_aload_n C 2 dX10_saysNumber_37 rfl ?_
                refine z_bipush (z := 48) C dX10_saysNumber_38 (by decide) ?_
                refine z_iload_n C 1 dX10_saysNumber_40 rfl ?_
                refine z_iload_n C 0 dX10_saysNumber_41 rfl ?_
                refine z_idiv C dX10_saysNumber_42 (by omega) (by omega) (by omega) ?_
                obtain ⟨xy102, exy102, hxy102⟩ : ∃ x9, (vy3).tdiv 1000 = x9 ∧ (0 ≤ vy3 → 0 ≤ x9 ∧ 1000 * x9 ≤ vy3 ∧ vy3 < 1000 * x9 + 1000) ∧ (vy3 ≤ 0 → x9 ≤ 0 ∧ vy3 ≤ 1000 * x9 ∧ 1000 * x9 < vy3 + 1000) := tdk 1000 (by decide)
                rw [exy102]
                refine z_bipush (z := 10) C dX10_saysNumber_43 (by decide) ?_
                refine z_irem C dX10_saysNumber_45 (by omega) (by omega) (by omega) ?_
                refine z_iadd C dX10_saysNumber_46 ?_
                have hey104 : Fvy100 51 = F 51 + 3 := hqvy100
                refine z_cV (As := [.int (zI (48 + (xy102.tmod 10)))]) (rest := []) (ci := 12) C (c_X10_says l D A cs tt N ad _ i hN _ hcvy100 _ htvy100 (by omega) (48 + (xy102.tmod 10))) (by omega) hay1 hcvy100 rfl rfl mv_yX10_says q_1850 hd_yX10_says (by decide) (Nat.le_of_ble_eq_true rfl) (by decide) dX10_saysNumber_47 rfl (kV0 fun gvy103 hvy103 => ?_)
                obtain ⟨⟨Fvy103, hcvy103, hnvy103, hFvy103⟩, ⟨tvy103, htvy103⟩, hfvy103⟩ := hvy103
                have hovy103 : Fvy100 51 = F 51 + 3 := hqvy100
                have hqvy103 : Fvy103 51 = F 51 + 4 := by omega
                clear hnvy103 hovy103
                refine z_iload_n C 0 dX10_saysNumber_50 rfl ?_
                refine z_bipush (z := 10) C dX10_saysNumber_51 (by decide) ?_
                refine z_idiv C dX10_saysNumber_53 (by decide) (by decide) (by decide) ?_
                rw [show (1000 : Int).tdiv 10 = 100 by decide]
                refine z_istore_n (lv' := [(3, .int (zI (100))), (2, .int (zI (vy3))), (0, .ref (ad i)), (1, .int (zI (z)))]) C dX10_saysNumber_54 rfl (by decide) rfl ?_
                refine z_goto (tgt := 33) C dX10_saysNumber_55 (by decide) ?_
                refine z_iload_n C 0 dX10_saysNumber_33 rfl ?_
                refine z_if_le (tgt := 58) C dX10_saysNumber_34 (by decide) (by omega) (fun h => absurd h (by omega)) (fun _ => ?_)
                refine z_aload_n C 2 dX10_saysNumber_37 rfl ?_
                refine z_bipush (z := 48) C dX10_saysNumber_38 (by decide) ?_
                refine z_iload_n C 1 dX10_saysNumber_40 rfl ?_
                refine z_iload_n C 0 dX10_saysNumber_41 rfl ?_
                refine z_idiv C dX10_saysNumber_42 (by omega) (by omega) (by omega) ?_
                obtain ⟨xy105, exy105, hxy105⟩ : ∃ x9, (vy3).tdiv 100 = x9 ∧ (0 ≤ vy3 → 0 ≤ x9 ∧ 100 * x9 ≤ vy3 ∧ vy3 < 100 * x9 + 100) ∧ (vy3 ≤ 0 → x9 ≤ 0 ∧ vy3 ≤ 100 * x9 ∧ 100 * x9 < vy3 + 100) := tdk 100 (by decide)
                rw [exy105]
                refine z_bipush (z := 10) C dX10_saysNumber_43 (by decide) ?_
                refine z_irem C dX10_saysNumber_45 (by omega) (by omega) (by omega) ?_
                refine z_iadd C dX10_saysNumber_46 ?_
                have hey107 : Fvy103 51 = F 51 + 4 := hqvy103
                refine z_cV (As := [.int (zI (48 + (xy105.tmod 10)))]) (rest := []) (ci := 12) C (c_X10_says l D A cs tt N ad _ i hN _ hcvy103 _ htvy103 (by omega) (48 + (xy105.tmod 10))) (by omega) hay1 hcvy103 rfl rfl mv_yX10_says q_1850 hd_yX10_says (by decide) (Nat.le_of_ble_eq_true rfl) (by decide) dX10_saysNumber_47 rfl (kV0 fun gvy106 hvy106 => ?_)
                obtain ⟨⟨Fvy106, hcvy106, hnvy106, hFvy106⟩, ⟨tvy106, htvy106⟩, hfvy106⟩ := hvy106
                have hovy106 : Fvy103 51 = F 51 + 4 := hqvy103
                have hqvy106 : Fvy106 51 = F 51 + 5 := by omega
                clear hnvy106 hovy106
                refine z_iload_n C 0 dX10_saysNumber_50 rfl ?_
                refine z_bipush (z := 10) C dX10_saysNumber_51 (by decide) ?_
                refine z_idiv C dX10_saysNumber_53 (by decide) (by decide) (by decide) ?_
                rw [show (100 : Int).tdiv 10 = 10 by decide]
                refine z_istore_n (lv' := [(3, .int (zI (10))), (2, .int (zI (vy3))), (0, .ref (ad i)), (1, .int (zI (z)))]) C dX10_saysNumber_54 rfl (by decide) rfl ?_
                refine z_goto (tgt := 33) C dX10_saysNumber_55 (by decide) ?_
                refine z_iload_n C 0 dX10_saysNumber_33 rfl ?_
                refine z_if_le (tgt := 58) C dX10_saysNumber_34 (by decide) (by omega) (fun h => absurd h (by omega)) (fun _ => ?_)
                refine z_aload_n C 2 dX10_saysNumber_37 rfl ?_
                refine z_bipush (z := 48) C dX10_saysNumber_38 (by decide) ?_
                refine z_iload_n C 1 dX10_saysNumber_40 rfl ?_
                refine z_iload_n C 0 dX10_saysNumber_41 rfl ?_
                refine z_idiv C dX10_saysNumber_42 (by omega) (by omega) (by omega) ?_
                obtain ⟨xy108, exy108, hxy108⟩ : ∃ x9, (vy3).tdiv 10 = x9 ∧ (0 ≤ vy3 → 0 ≤ x9 ∧ 10 * x9 ≤ vy3 ∧ vy3 < 10 * x9 + 10) ∧ (vy3 ≤ 0 → x9 ≤ 0 ∧ vy3 ≤ 10 * x9 ∧ 10 * x9 < vy3 + 10) := tdk 10 (by decide)
                rw [exy108]
                refine z_bipush (z := 10) C dX10_saysNumber_43 (by decide) ?_
                refine z_irem C dX10_saysNumber_45 (by omega) (by omega) (by omega) ?_
                refine z_iadd C dX10_saysNumber_46 ?_
                have hey110 : Fvy106 51 = F 51 + 5 := hqvy106
                refine z_cV (As := [.int (zI (48 + (xy108.tmod 10)))]) (rest := []) (ci := 12) C (c_X10_says l D A cs tt N ad _ i hN _ hcvy106 _ htvy106 (by omega) (48 + (xy108.tmod 10))) (by omega) hay1 hcvy106 rfl rfl mv_yX10_says q_1850 hd_yX10_says (by decide) (Nat.le_of_ble_eq_true rfl) (by decide) dX10_saysNumber_47 rfl (kV0 fun gvy109 hvy109 => ?_)
                obtain ⟨⟨Fvy109, hcvy109, hnvy109, hFvy109⟩, ⟨tvy109, htvy109⟩, hfvy109⟩ := hvy109
                have hovy109 : Fvy106 51 = F 51 + 5 := hqvy106
                have hqvy109 : Fvy109 51 = F 51 + 6 := by omega
                clear hnvy109 hovy109
                refine z_iload_n C 0 dX10_saysNumber_50 rfl ?_
                refine z_bipush (z := 10) C dX10_saysNumber_51 (by decide) ?_
                refine z_idiv C dX10_saysNumber_53 (by decide) (by decide) (by decide) ?_
                rw [show (10 : Int).tdiv 10 = 1 by decide]
                refine z_istore_n (lv' := [(3, .int (zI (1))), (2, .int (zI (vy3))), (0, .ref (ad i)), (1, .int (zI (z)))]) C dX10_saysNumber_54 rfl (by decide) rfl ?_
                refine z_goto (tgt := 33) C dX10_saysNumber_55 (by decide) ?_
                refine z_iload_n C 0 dX10_saysNumber_33 rfl ?_
                refine z_if_le (tgt := 58) C dX10_saysNumber_34 (by decide) (by omega) (fun h => absurd h (by omega)) (fun _ => ?_)
                refine z_aload_n C 2 dX10_saysNumber_37 rfl ?_
                refine z_bipush (z := 48) C dX10_saysNumber_38 (by decide) ?_
                refine z_iload_n C 1 dX10_saysNumber_40 rfl ?_
                refine z_iload_n C 0 dX10_saysNumber_41 rfl ?_
                refine z_idiv C dX10_saysNumber_42 (by omega) (by omega) (by omega) ?_
                obtain ⟨xy111, exy111, hxy111⟩ : ∃ x9, (vy3).tdiv 1 = x9 ∧ (0 ≤ vy3 → 0 ≤ x9 ∧ 1 * x9 ≤ vy3 ∧ vy3 < 1 * x9 + 1) ∧ (vy3 ≤ 0 → x9 ≤ 0 ∧ vy3 ≤ 1 * x9 ∧ 1 * x9 < vy3 + 1) := tdk 1 (by decide)
                rw [exy111]
                refine z_bipush (z := 10) C dX10_saysNumber_43 (by decide) ?_
                refine z_irem C dX10_saysNumber_45 (by omega) (by omega) (by omega) ?_
                refine z_iadd C dX10_saysNumber_46 ?_
                have hey113 : Fvy109 51 = F 51 + 6 := hqvy109
                refine z_cV (As := [.int (zI (48 + (xy111.tmod 10)))]) (rest := []) (ci := 12) C (c_X10_says l D A cs tt N ad _ i hN _ hcvy109 _ htvy109 (by omega) (48 + (xy111.tmod 10))) (by omega) hay1 hcvy109 rfl rfl mv_yX10_says q_1850 hd_yX10_says (by decide) (Nat.le_of_ble_eq_true rfl) (by decide) dX10_saysNumber_47 rfl (kV0 fun gvy112 hvy112 => ?_)
                obtain ⟨⟨Fvy112, hcvy112, hnvy112, hFvy112⟩, ⟨tvy112, htvy112⟩, hfvy112⟩ := hvy112
                have hovy112 : Fvy109 51 = F 51 + 6 := hqvy109
                have hqvy112 : Fvy112 51 = F 51 + 7 := by omega
                clear hnvy112 hovy112
                refine z_iload_n C 0 dX10_saysNumber_50 rfl ?_
                refine z_bipush (z := 10) C dX10_saysNumber_51 (by decide) ?_
                refine z_idiv C dX10_saysNumber_53 (by decide) (by decide) (by decide) ?_
                rw [show (1 : Int).tdiv 10 = 0 by decide]
                refine z_istore_n (lv' := [(3, .int (zI (0))), (2, .int (zI (vy3))), (0, .ref (ad i)), (1, .int (zI (z)))]) C dX10_saysNumber_54 rfl (by decide) rfl ?_
                refine z_goto (tgt := 33) C dX10_saysNumber_55 (by decide) ?_
                refine z_iload_n C 0 dX10_saysNumber_33 rfl ?_
                refine z_if_le (tgt := 58) C dX10_saysNumber_34 (by decide) (by omega) (fun _ => ?_) (fun h => absurd h (by omega))
                have hFy114 : ∀ f, f ≠ 51 → Fvy112 f = F f := fun f n51 => ((hFvy112 f n51).trans ((hFvy109 f n51).trans ((hFvy106 f n51).trans ((hFvy103 f n51).trans ((hFvy100 f n51).trans ((hFvy97 f n51).trans (hFvy94 f n51)))))))
                have hey115 : Fvy112 51 = F 51 + 7 := hqvy112
                exact z_vret C hr hlk dX10_saysNumber_58 (by decide) (by decide) ⟨rfl, rfl, rfl, ⟨_, hcvy112, by omega, hFy114⟩, ⟨_, htvy112⟩, fun j j1 j2 => by rw [hfvy112 _ (by omega) (by omega)]; rw [hfvy109 _ (by omega) (by omega)]; rw [hfvy106 _ (by omega) (by omega)]; rw [hfvy103 _ (by omega) (by omega)]; rw [hfvy100 _ (by omega) (by omega)]; rw [hfvy97 _ (by omega) (by omega)]; rw [hfvy94 _ (by omega) (by omega)]⟩
              · refine z_iload_n C 0 dX10_saysNumber_25 rfl ?_
                refine z_bipush (z := 10) C dX10_saysNumber_26 (by decide) ?_
                refine z_imul C dX10_saysNumber_28 ?_
                rw [show (1000000 : Int) * 10 = 10000000 by decide]
                refine z_istore_n (lv' := [(3, .int (zI (10000000))), (2, .int (zI (vy3))), (0, .ref (ad i)), (1, .int (zI (z)))]) C dX10_saysNumber_29 rfl (by decide) rfl ?_
                refine z_goto (tgt := 17) C dX10_saysNumber_30 (by decide) ?_
                refine z_iload_n C 1 dX10_saysNumber_17 rfl ?_
                refine z_iload_n C 0 dX10_saysNumber_18 rfl ?_
                refine z_idiv C dX10_saysNumber_19 (by omega) (by omega) (by omega) ?_
                obtain ⟨xy116, exy116, hxy116⟩ : ∃ x9, (vy3).tdiv 10000000 = x9 ∧ (0 ≤ vy3 → 0 ≤ x9 ∧ 10000000 * x9 ≤ vy3 ∧ vy3 < 10000000 * x9 + 10000000) ∧ (vy3 ≤ 0 → x9 ≤ 0 ∧ vy3 ≤ 10000000 * x9 ∧ 10000000 * x9 < vy3 + 10000000) := tdk 10000000 (by decide)
                rw [exy116]
                refine z_bipush (z := 9) C dX10_saysNumber_20 (by decide) ?_
                refine z_icmp_le (tgt := 33) C dX10_saysNumber_22 (by decide) (by omega) (by omega) (fun hby117 => ?_) (fun hby117 => ?_)
                · refine z_iload_n C 0 dX10_saysNumber_33 rfl ?_
                  refine z_if_le (tgt := 58) C dX10_saysNumber_34 (by decide) (by omega) (fun h => absurd h (by omega)) (fun _ => ?_)
                  refine z_aload_n C 2 dX10_saysNumber_37 rfl ?_
                  refine z_bipush (z := 48) C dX10_saysNumber_38 (by decide) ?_
                  refine z_iload_n C 1 dX10_saysNumber_40 rfl ?_
                  refine z_iload_n C 0 dX10_saysNumber_41 rfl ?_
                  refine z_idiv C dX10_saysNumber_42 (by omega) (by omega) (by omega) ?_
                  obtain ⟨xy118, exy118, hxy118⟩ : ∃ x9, (vy3).tdiv 10000000 = x9 ∧ (0 ≤ vy3 → 0 ≤ x9 ∧ 10000000 * x9 ≤ vy3 ∧ vy3 < 10000000 * x9 + 10000000) ∧ (vy3 ≤ 0 → x9 ≤ 0 ∧ vy3 ≤ 10000000 * x9 ∧ 10000000 * x9 < vy3 + 10000000) := tdk 10000000 (by decide)
                  rw [exy118]
                  refine z_bipush (z := 10) C dX10_saysNumber_43 (by decide) ?_
                  refine z_irem C dX10_saysNumber_45 (by omega) (by omega) (by omega) ?_
                  refine z_iadd C dX10_saysNumber_46 ?_
                  have hey120 : F 51 = F 51 := rfl
                  refine z_cV (As := [.int (zI (48 + (xy118.tmod 10)))]) (rest := []) (ci := 12) C (c_X10_says l D A cs tt N ad _ i hN _ hg _ ha24 (by omega) (48 + (xy118.tmod 10))) (by omega) hay1 hg rfl rfl mv_yX10_says q_1850 hd_yX10_says (by decide) (Nat.le_of_ble_eq_true rfl) (by decide) dX10_saysNumber_47 rfl (kV0 fun gvy119 hvy119 => ?_)
                  obtain ⟨⟨Fvy119, hcvy119, hnvy119, hFvy119⟩, ⟨tvy119, htvy119⟩, hfvy119⟩ := hvy119
                  have hovy119 : F 51 = F 51 := rfl
                  have hqvy119 : Fvy119 51 = F 51 + 1 := by omega
                  clear hnvy119 hovy119
                  refine z_iload_n C 0 dX10_saysNumber_50 rfl ?_
                  refine z_bipush (z := 10) C dX10_saysNumber_51 (by decide) ?_
                  refine z_idiv C dX10_saysNumber_53 (by decide) (by decide) (by decide) ?_
                  rw [show (10000000 : Int).tdiv 10 = 1000000 by decide]
                  refine z_istore_n (lv' := [(3, .int (zI (1000000))), (2, .int (zI (vy3))), (0, .ref (ad i)), (1, .int (zI (z)))]) C dX10_saysNumber_54 rfl (by decide) rfl ?_
                  refine z_goto (tgt := 33) C dX10_saysNumber_55 (by decide) ?_
                  refine z_iload_n C 0 dX10_saysNumber_33 rfl ?_
                  refine z_if_le (tgt := 58) C dX10_saysNumber_34 (by decide) (by omega) (fun h => absurd h (by omega)) (fun _ => ?_)
                  refine z_aload_n C 2 dX10_saysNumber_37 rfl ?_
                  refine z_bipush (z := 48) C dX10_saysNumber_38 (by decide) ?_
                  refine z_iload_n C 1 dX10_saysNumber_40 rfl ?_
                  refine z_iload_n C 0 dX10_saysNumber_41 rfl ?_
                  refine z_idiv C dX10_saysNumber_42 (by omega) (by omega) (by omega) ?_
                  obtain ⟨xy121, exy121, hxy121⟩ : ∃ x9, (vy3).tdiv 1000000 = x9 ∧ (0 ≤ vy3 → 0 ≤ x9 ∧ 1000000 * x9 ≤ vy3 ∧ vy3 < 1000000 * x9 + 1000000) ∧ (vy3 ≤ 0 → x9 ≤ 0 ∧ vy3 ≤ 1000000 * x9 ∧ 1000000 * x9 < vy3 + 1000000) := tdk 1000000 (by decide)
                  rw [exy121]
                  refine z_bipush (z := 10) C dX10_saysNumber_43 (by decide) ?_
                  refine z_irem C dX10_saysNumber_45 (by omega) (by omega) (by omega) ?_
                  refine z_iadd C dX10_saysNumber_46 ?_
                  have hey123 : Fvy119 51 = F 51 + 1 := hqvy119
                  refine z_cV (As := [.int (zI (48 + (xy121.tmod 10)))]) (rest := []) (ci := 12) C (c_X10_says l D A cs tt N ad _ i hN _ hcvy119 _ htvy119 (by omega) (48 + (xy121.tmod 10))) (by omega) hay1 hcvy119 rfl rfl mv_yX10_says q_1850 hd_yX10_says (by decide) (Nat.le_of_ble_eq_true rfl) (by decide) dX10_saysNumber_47 rfl (kV0 fun gvy122 hvy122 => ?_)
                  obtain ⟨⟨Fvy122, hcvy122, hnvy122, hFvy122⟩, ⟨tvy122, htvy122⟩, hfvy122⟩ := hvy122
                  have hovy122 : Fvy119 51 = F 51 + 1 := hqvy119
                  have hqvy122 : Fvy122 51 = F 51 + 2 := by omega
                  clear hnvy122 hovy122
                  refine z_iload_n C 0 dX10_saysNumber_50 rfl ?_
                  refine z_bipush (z := 10) C dX10_saysNumber_51 (by decide) ?_
                  refine z_idiv C dX10_saysNumber_53 (by decide) (by decide) (by decide) ?_
                  rw [show (1000000 : Int).tdiv 10 = 100000 by decide]
                  refine z_istore_n (lv' := [(3, .int (zI (100000))), (2, .int (zI (vy3))), (0, .ref (ad i)), (1, .int (zI (z)))]) C dX10_saysNumber_54 rfl (by decide) rfl ?_
                  refine z_goto (tgt := 33) C dX10_saysNumber_55 (by decide) ?_
                  refine z_iload_n C 0 dX10_saysNumber_33 rfl ?_
                  refine z_if_le (tgt := 58) C dX10_saysNumber_34 (by decide) (by omega) (fun h => absurd h (by omega)) (fun _ => ?_)
                  refine z_aload_n C 2 dX10_saysNumber_37 rfl ?_
                  refine z_bipush (z := 48) C dX10_saysNumber_38 (by decide) ?_
                  refine z_iload_n C 1 dX10_saysNumber_40 rfl ?_
                  refine z_iload_n C 0 dX10_saysNumber_41 rfl ?_
                  refine z_idiv C dX10_saysNumber_42 (by omega) (by omega) (by omega) ?_
                  obtain ⟨xy124, exy124, hxy124⟩ : ∃ x9, (vy3).tdiv 100000 = x9 ∧ (0 ≤ vy3 → 0 ≤ x9 ∧ 100000 * x9 ≤ vy3 ∧ vy3 < 100000 * x9 + 100000) ∧ (vy3 ≤ 0 → x9 ≤ 0 ∧ vy3 ≤ 100000 * x9 ∧ 100000 * x9 < vy3 + 100000) := tdk 100000 (by decide)
                  rw [exy124]
                  refine z_bipush (z := 10) C dX10_saysNumber_43 (by decide) ?_
                  refine z_irem C dX10_saysNumber_45 (by omega) (by omega) (by omega) ?_
                  refine z_iadd C dX10_saysNumber_46 ?_
                  have hey126 : Fvy122 51 = F 51 + 2 := hqvy122
                  refine z_cV (As := [.int (zI (48 + (xy124.tmod 10)))]) (rest := []) (ci := 12) C (c_X10_says l D A cs tt N ad _ i hN _ hcvy122 _ htvy122 (by omega) (48 + (xy124.tmod 10))) (by omega) hay1 hcvy122 rfl rfl mv_yX10_says q_1850 hd_yX10_says (by decide) (Nat.le_of_ble_eq_true rfl) (by decide) dX10_saysNumber_47 rfl (kV0 fun gvy125 hvy125 => ?_)
                  obtain ⟨⟨Fvy125, hcvy125, hnvy125, hFvy125⟩, ⟨tvy125, htvy125⟩, hfvy125⟩ := hvy125
                  have hovy125 : Fvy122 51 = F 51 + 2 := hqvy122
                  have hqvy125 : Fvy125 51 = F 51 + 3 := by omega
                  clear hnvy125 hovy125
                  refine z_iload_n C 0 dX10_saysNumber_50 rfl ?_
                  refine z_bipush (z := 10) C dX10_saysNumber_51 (by decide) ?_
                  refine z_idiv C dX10_saysNumber_53 (by decide) (by decide) (by decide) ?_
                  rw [show (100000 : Int).tdiv 10 = 10000 by decide]
                  refine z_istore_n (lv' := [(3, .int (zI (10000))), (2, .int (zI (vy3))), (0, .ref (ad i)), (1, .int (zI (z)))]) C dX10_saysNumber_54 rfl (by decide) rfl ?_
                  refine z_goto (tgt := 33) C dX10_saysNumber_55 (by decide) ?_
                  refine z_iload_n C 0 dX10_saysNumber_33 rfl ?_
                  refine z_if_le (tgt := 58) C dX10_saysNumber_34 (by decide) (by omega) (fun h => absurd h (by omega)) (fun _ => ?_)
                  refine z_aload_n C 2 dX10_saysNumber_37 rfl ?_
                  refine z_bipush (z := 48) C dX10_saysNumber_38 (by decide) ?_
                  refine z_iload_n C 1 dX10_saysNumber_40 rfl ?_
                  refine z_iload_n C 0 dX10_saysNumber_41 rfl ?_
                  refine z_idiv C dX10_saysNumber_42 (by omega) (by omega) (by omega) ?_
                  obtain ⟨xy127, exy127, hxy127⟩ : ∃ x9, (vy3).tdiv 10000 = x9 ∧ (0 ≤ vy3 → 0 ≤ x9 ∧ 10000 * x9 ≤ vy3 ∧ vy3 < 10000 * x9 + 10000) ∧ (vy3 ≤ 0 → x9 ≤ 0 ∧ vy3 ≤ 10000 * x9 ∧ 10000 * x9 < vy3 + 10000) := tdk 10000 (by decide)
                  rw [exy127]
                  refine z_bipush (z := 10) C dX10_saysNumber_43 (by decide) ?_
                  refine z_irem C dX10_saysNumber_45 (by omega) (by omega) (by omega) ?_
                  refine z_iadd C dX10_saysNumber_46 ?_
                  have hey129 : Fvy125 51 = F 51 + 3 := hqvy125
                  refine z_cV (As := [.int (zI (48 + (xy127.tmod 10)))]) (rest := []) (ci := 12) C (c_X10_says l D A cs tt N ad _ i hN _ hcvy125 _ htvy125 (by omega) (48 + (xy127.tmod 10))) (by omega) hay1 hcvy125 rfl rfl mv_yX10_says q_1850 hd_yX10_says (by decide) (Nat.le_of_ble_eq_true rfl) (by decide) dX10_saysNumber_47 rfl (kV0 fun gvy128 hvy128 => ?_)
                  obtain ⟨⟨Fvy128, hcvy128, hnvy128, hFvy128⟩, ⟨tvy128, htvy128⟩, hfvy128⟩ := hvy128
                  have hovy128 : Fvy125 51 = F 51 + 3 := hqvy125
                  have hqvy128 : Fvy128 51 = F 51 + 4 := by omega
                  clear hnvy128 hovy128
                  refine z_iload_n C 0 dX10_saysNumber_50 rfl ?_
                  refine z_bipush (z := 10) C dX10_saysNumber_51 (by decide) ?_
                  refine z_idiv C dX10_saysNumber_53 (by decide) (by decide) (by decide) ?_
                  rw [show (10000 : Int).tdiv 10 = 1000 by decide]
                  refine z_istore_n (lv' := [(3, .int (zI (1000))), (2, .int (zI (vy3))), (0, .ref (ad i)), (1, .int (zI (z)))]) C dX10_saysNumber_54 rfl (by decide) rfl ?_
                  refine z_goto (tgt := 33) C dX10_saysNumber_55 (by decide) ?_
                  refine z_iload_n C 0 dX10_saysNumber_33 rfl ?_
                  refine z_if_le (tgt := 58) C dX10_saysNumber_34 (by decide) (by omega) (fun h => absurd h (by omega)) (fun _ => ?_)
                  refine z_aload_n C 2 dX10_saysNumber_37 rfl ?_
                  refine z_bipush (z := 48) C dX10_saysNumber_38 (by decide) ?_
                  refine z_iload_n C 1 dX10_saysNumber_40 rfl ?_
                  refine z_iload_n C 0 dX10_saysNumber_41 rfl ?_
                  refine z_idiv C dX10_saysNumber_42 (by omega) (by omega) (by omega) ?_
                  obtain ⟨xy130, exy130, hxy130⟩ : ∃ x9, (vy3).tdiv 1000 = x9 ∧ (0 ≤ vy3 → 0 ≤ x9 ∧ 1000 * x9 ≤ vy3 ∧ vy3 < 1000 * x9 + 1000) ∧ (vy3 ≤ 0 → x9 ≤ 0 ∧ vy3 ≤ 1000 * x9 ∧ 1000 * x9 < vy3 + 1000) := tdk 1000 (by decide)
                  rw [exy130]
                  refine z_bipush (z := 10) C dX10_saysNumber_43 (by decide) ?_
                  refine z_irem C dX10_saysNumber_45 (by omega) (by omega) (by omega) ?_
                  refine z_iadd C dX10_saysNumber_46 ?_
                  have hey132 : Fvy128 51 = F 51 + 4 := hqvy128
                  refine z_cV (As := [.int (zI (48 + (xy130.tmod 10)))]) (rest := []) (ci := 12) C (c_X10_says l D A cs tt N ad _ i hN _ hcvy128 _ htvy128 (by omega) (48 + (xy130.tmod 10))) (by omega) hay1 hcvy128 rfl rfl mv_yX10_says q_1850 hd_yX10_says (by decide) (Nat.le_of_ble_eq_true rfl) (by decide) dX10_saysNumber_47 rfl (kV0 fun gvy131 hvy131 => ?_)
                  obtain ⟨⟨Fvy131, hcvy131, hnvy131, hFvy131⟩, ⟨tvy131, htvy131⟩, hfvy131⟩ := hvy131
                  have hovy131 : Fvy128 51 = F 51 + 4 := hqvy128
                  have hqvy131 : Fvy131 51 = F 51 + 5 := by omega
                  clear hnvy131 hovy131
                  refine z_iload_n C 0 dX10_saysNumber_50 rfl ?_
                  refine z_bipush (z := 10) C dX10_saysNumber_51 (by decide) ?_
                  refine z_idiv C dX10_saysNumber_53 (by decide) (by decide) (by decide) ?_
                  rw [show (1000 : Int).tdiv 10 = 100 by decide]
                  refine z_istore_n (lv' := [(3, .int (zI (100))), (2, .int (zI (vy3))), (0, .ref (ad i)), (1, .int (zI (z)))]) C dX10_saysNumber_54 rfl (by decide) rfl ?_
                  refine z_goto (tgt := 33) C dX10_saysNumber_55 (by decide) ?_
                  refine z_iload_n C 0 dX10_saysNumber_33 rfl ?_
                  refine z_if_le (tgt := 58) C dX10_saysNumber_34 (by decide) (by omega) (fun h => absurd h (by omega)) (fun _ => ?_)
                  refine z_aload_n C 2 dX10_saysNumber_37 rfl ?_
                  refine z_bipush (z := 48) C dX10_saysNumber_38 (by decide) ?_
                  refine z_iload_n C 1 dX10_saysNumber_40 rfl ?_
                  refine z_iload_n C 0 dX10_saysNumber_41 rfl ?_
                  refine z_idiv C dX10_saysNumber_42 (by omega) (by omega) (by omega) ?_
                  obtain ⟨xy133, exy133, hxy133⟩ : ∃ x9, (vy3).tdiv 100 = x9 ∧ (0 ≤ vy3 → 0 ≤ x9 ∧ 100 * x9 ≤ vy3 ∧ vy3 < 100 * x9 + 100) ∧ (vy3 ≤ 0 → x9 ≤ 0 ∧ vy3 ≤ 100 * x9 ∧ 100 * x9 < vy3 + 100) := tdk 100 (by decide)
                  rw [exy133]
                  refine z_bipush (z := 10) C dX10_saysNumber_43 (by decide) ?_
                  refine z_irem C dX10_saysNumber_45 (by omega) (by omega) (by omega) ?_
                  refine z_iadd C dX10_saysNumber_46 ?_
                  have hey135 : Fvy131 51 = F 51 + 5 := hqvy131
                  refine z_cV (As := [.int (zI (48 + (xy133.tmod 10)))]) (rest := []) (ci := 12) C (c_X10_says l D A cs tt N ad _ i hN _ hcvy131 _ htvy131 (by omega) (48 + (xy133.tmod 10))) (by omega) hay1 hcvy131 rfl rfl mv_yX10_says q_1850 hd_yX10_says (by decide) (Nat.le_of_ble_eq_true rfl) (by decide) dX10_saysNumber_47 rfl (kV0 fun gvy134 hvy134 => ?_)
                  obtain ⟨⟨Fvy134, hcvy134, hnvy134, hFvy134⟩, ⟨tvy134, htvy134⟩, hfvy134⟩ := hvy134
                  have hovy134 : Fvy131 51 = F 51 + 5 := hqvy131
                  have hqvy134 : Fvy134 51 = F 51 + 6 := by omega
                  clear hnvy134 hovy134
                  refine z_iload_n C 0 dX10_saysNumber_50 rfl ?_
                  refine z_bipush (z := 10) C dX10_saysNumber_51 (by decide) ?_
                  refine z_idiv C dX10_saysNumber_53 (by decide) (by decide) (by decide) ?_
                  rw [show (100 : Int).tdiv 10 = 10 by decide]
                  refine z_istore_n (lv' := [(3, .int (zI (10))), (2, .int (zI (vy3))), (0, .ref (ad i)), (1, .int (zI (z)))]) C dX10_saysNumber_54 rfl (by decide) rfl ?_
                  refine z_goto (tgt := 33) C dX10_saysNumber_55 (by decide) ?_
                  refine z_iload_n C 0 dX10_saysNumber_33 rfl ?_
                  refine z_if_le (tgt := 58) C dX10_saysNumber_34 (by decide) (by omega) (fun h => absurd h (by omega)) (fun _ => ?_)
                  refine z_aload_n C 2 dX10_saysNumber_37 rfl ?_
                  refine z_bipush (z := 48) C dX10_saysNumber_38 (by decide) ?_
                  refine z_iload_n C 1 dX10_saysNumber_40 rfl ?_
                  refine z_iload_n C 0 dX10_saysNumber_41 rfl ?_
                  refine z_idiv C dX10_saysNumber_42 (by omega) (by omega) (by omega) ?_
                  obtain ⟨xy136, exy136, hxy136⟩ : ∃ x9, (vy3).tdiv 10 = x9 ∧ (0 ≤ vy3 → 0 ≤ x9 ∧ 10 * x9 ≤ vy3 ∧ vy3 < 10 * x9 + 10) ∧ (vy3 ≤ 0 → x9 ≤ 0 ∧ vy3 ≤ 10 * x9 ∧ 10 * x9 < vy3 + 10) := tdk 10 (by decide)
                  rw [exy136]
                  refine z_bipush (z := 10) C dX10_saysNumber_43 (by decide) ?_
                  refine z_irem C dX10_saysNumber_45 (by omega) (by omega) (by omega) ?_
                  refine z_iadd C dX10_saysNumber_46 ?_
                  have hey138 : Fvy134 51 = F 51 + 6 := hqvy134
                  refine z_cV (As := [.int (zI (48 + (xy136.tmod 10)))]) (rest := []) (ci := 12) C (c_X10_says l D A cs tt N ad _ i hN _ hcvy134 _ htvy134 (by omega) (48 + (xy136.tmod 10))) (by omega) hay1 hcvy134 rfl rfl mv_yX10_says q_1850 hd_yX10_says (by decide) (Nat.le_of_ble_eq_true rfl) (by decide) dX10_saysNumber_47 rfl (kV0 fun gvy137 hvy137 => ?_)
                  obtain ⟨⟨Fvy137, hcvy137, hnvy137, hFvy137⟩, ⟨tvy137, htvy137⟩, hfvy137⟩ := hvy137
                  have hovy137 : Fvy134 51 = F 51 + 6 := hqvy134
                  have hqvy137 : Fvy137 51 = F 51 + 7 := by omega
                  clear hnvy137 hovy137
                  refine z_iload_n C 0 dX10_saysNumber_50 rfl ?_
                  refine z_bipush (z := 10) C dX10_saysNumber_51 (by decide) ?_
                  refine z_idiv C dX10_saysNumber_53 (by decide) (by decide) (by decide) ?_
                  rw [show (10 : Int).tdiv 10 = 1 by decide]
                  refine z_istore_n (lv' := [(3, .int (zI (1))), (2, .int (zI (vy3))), (0, .ref (ad i)), (1, .int (zI (z)))]) C dX10_saysNumber_54 rfl (by decide) rfl ?_
                  refine z_goto (tgt := 33) C dX10_saysNumber_55 (by decide) ?_
                  refine z_iload_n C 0 dX10_saysNumber_33 rfl ?_
                  refine z_if_le (tgt := 58) C dX10_saysNumber_34 (by decide) (by omega) (fun h => absurd h (by omega)) (fun _ => ?_)
                  refine z_aload_n C 2 dX10_saysNumber_37 rfl ?_
                  refine z_bipush (z := 48) C dX10_saysNumber_38 (by decide) ?_
                  refine z_iload_n C 1 dX10_saysNumber_40 rfl ?_
                  refine z_iload_n C 0 dX10_saysNumber_41 rfl ?_
                  refine z_idiv C dX10_saysNumber_42 (by omega) (by omega) (by omega) ?_
                  obtain ⟨xy139, exy139, hxy139⟩ : ∃ x9, (vy3).tdiv 1 = x9 ∧ (0 ≤ vy3 → 0 ≤ x9 ∧ 1 * x9 ≤ vy3 ∧ vy3 < 1 * x9 + 1) ∧ (vy3 ≤ 0 → x9 ≤ 0 ∧ vy3 ≤ 1 * x9 ∧ 1 * x9 < vy3 + 1) := tdk 1 (by decide)
                  rw [exy139]
                  refine z_bipush (z := 10) C dX10_saysNumber_43 (by decide) ?_
                  refine z_irem C dX10_saysNumber_45 (by omega) (by omega) (by omega) ?_
                  refine z_iadd C dX10_saysNumber_46 ?_
                  have hey141 : Fvy137 51 = F 51 + 7 := hqvy137
                  refine z_cV (As := [.int (zI (48 + (xy139.tmod 10)))]) (rest := []) (ci := 12) C (c_X10_says l D A cs tt N ad _ i hN _ hcvy137 _ htvy137 (by omega) (48 + (xy139.tmod 10))) (by omega) hay1 hcvy137 rfl rfl mv_yX10_says q_1850 hd_yX10_says (by decide) (Nat.le_of_ble_eq_true rfl) (by decide) dX10_saysNumber_47 rfl (kV0 fun gvy140 hvy140 => ?_)
                  obtain ⟨⟨Fvy140, hcvy140, hnvy140, hFvy140⟩, ⟨tvy140, htvy140⟩, hfvy140⟩ := hvy140
                  have hovy140 : Fvy137 51 = F 51 + 7 := hqvy137
                  have hqvy140 : Fvy140 51 = F 51 + 8 := by omega
                  clear hnvy140 hovy140
                  refine z_iload_n C 0 dX10_saysNumber_50 rfl ?_
                  refine z_bipush (z := 10) C dX10_saysNumber_51 (by decide) ?_
                  refine z_idiv C dX10_saysNumber_53 (by decide) (by decide) (by decide) ?_
                  rw [show (1 : Int).tdiv 10 = 0 by decide]
                  refine z_istore_n (lv' := [(3, .int (zI (0))), (2, .int (zI (vy3))), (0, .ref (ad i)), (1, .int (zI (z)))]) C dX10_saysNumber_54 rfl (by decide) rfl ?_
                  refine z_goto (tgt := 33) C dX10_saysNumber_55 (by decide) ?_
                  refine z_iload_n C 0 dX10_saysNumber_33 rfl ?_
                  refine z_if_le (tgt := 58) C dX10_saysNumber_34 (by decide) (by omega) (fun _ => ?_) (fun h => absurd h (by omega))
                  have hFy142 : ∀ f, f ≠ 51 → Fvy140 f = F f := fun f n51 => ((hFvy140 f n51).trans ((hFvy137 f n51).trans ((hFvy134 f n51).trans ((hFvy131 f n51).trans ((hFvy128 f n51).trans ((hFvy125 f n51).trans ((hFvy122 f n51).trans (hFvy119 f n51))))))))
                  have hey143 : Fvy140 51 = F 51 + 8 := hqvy140
                  exact z_vret C hr hlk dX10_saysNumber_58 (by decide) (by decide) ⟨rfl, rfl, rfl, ⟨_, hcvy140, by omega, hFy142⟩, ⟨_, htvy140⟩, fun j j1 j2 => by rw [hfvy140 _ (by omega) (by omega)]; rw [hfvy137 _ (by omega) (by omega)]; rw [hfvy134 _ (by omega) (by omega)]; rw [hfvy131 _ (by omega) (by omega)]; rw [hfvy128 _ (by omega) (by omega)]; rw [hfvy125 _ (by omega) (by omega)]; rw [hfvy122 _ (by omega) (by omega)]; rw [hfvy119 _ (by omega) (by omega)]⟩
                · refine z_iload_n C 0 dX10_saysNumber_25 rfl ?_
                  refine z_bipush (z := 10) C dX10_saysNumber_26 (by decide) ?_
                  refine z_imul C dX10_saysNumber_28 ?_
                  rw [show (10000000 : Int) * 10 = 100000000 by decide]
                  refine z_istore_n (lv' := [(3, .int (zI (100000000))), (2, .int (zI (vy3))), (0, .ref (ad i)), (1, .int (zI (z)))]) C dX10_saysNumber_29 rfl (by decide) rfl ?_
                  refine z_goto (tgt := 17) C dX10_saysNumber_30 (by decide) ?_
                  refine z_iload_n C 1 dX10_saysNumber_17 rfl ?_
                  refine z_iload_n C 0 dX10_saysNumber_18 rfl ?_
                  refine z_idiv C dX10_saysNumber_19 (by omega) (by omega) (by omega) ?_
                  obtain ⟨xy144, exy144, hxy144⟩ : ∃ x9, (vy3).tdiv 100000000 = x9 ∧ (0 ≤ vy3 → 0 ≤ x9 ∧ 100000000 * x9 ≤ vy3 ∧ vy3 < 100000000 * x9 + 100000000) ∧ (vy3 ≤ 0 → x9 ≤ 0 ∧ vy3 ≤ 100000000 * x9 ∧ 100000000 * x9 < vy3 + 100000000) := tdk 100000000 (by decide)
                  rw [exy144]
                  refine z_bipush (z := 9) C dX10_saysNumber_20 (by decide) ?_
                  refine z_icmp_le (tgt := 33) C dX10_saysNumber_22 (by decide) (by omega) (by omega) (fun _ => ?_) (fun h => absurd h (by omega))
                  refine z_iload_n C 0 dX10_saysNumber_33 rfl ?_
                  refine z_if_le (tgt := 58) C dX10_saysNumber_34 (by decide) (by omega) (fun h => absurd h (by omega)) (fun _ => ?_)
                  refine z_aload_n C 2 dX10_saysNumber_37 rfl ?_
                  refine z_bipush (z := 48) C dX10_saysNumber_38 (by decide) ?_
                  refine z_iload_n C 1 dX10_saysNumber_40 rfl ?_
                  refine z_iload_n C 0 dX10_saysNumber_41 rfl ?_
                  refine z_idiv C dX10_saysNumber_42 (by omega) (by omega) (by omega) ?_
                  obtain ⟨xy145, exy145, hxy145⟩ : ∃ x9, (vy3).tdiv 100000000 = x9 ∧ (0 ≤ vy3 → 0 ≤ x9 ∧ 100000000 * x9 ≤ vy3 ∧ vy3 < 100000000 * x9 + 100000000) ∧ (vy3 ≤ 0 → x9 ≤ 0 ∧ vy3 ≤ 100000000 * x9 ∧ 100000000 * x9 < vy3 + 100000000) := tdk 100000000 (by decide)
                  rw [exy145]
                  refine z_bipush (z := 10) C dX10_saysNumber_43 (by decide) ?_
                  refine z_irem C dX10_saysNumber_45 (by omega) (by omega) (by omega) ?_
                  refine z_iadd C dX10_saysNumber_46 ?_
                  have hey147 : F 51 = F 51 := rfl
                  refine z_cV (As := [.int (zI (48 + (xy145.tmod 10)))]) (rest := []) (ci := 12) C (c_X10_says l D A cs tt N ad _ i hN _ hg _ ha24 (by omega) (48 + (xy145.tmod 10))) (by omega) hay1 hg rfl rfl mv_yX10_says q_1850 hd_yX10_says (by decide) (Nat.le_of_ble_eq_true rfl) (by decide) dX10_saysNumber_47 rfl (kV0 fun gvy146 hvy146 => ?_)
                  obtain ⟨⟨Fvy146, hcvy146, hnvy146, hFvy146⟩, ⟨tvy146, htvy146⟩, hfvy146⟩ := hvy146
                  have hovy146 : F 51 = F 51 := rfl
                  have hqvy146 : Fvy146 51 = F 51 + 1 := by omega
                  clear hnvy146 hovy146
                  refine z_iload_n C 0 dX10_saysNumber_50 rfl ?_
                  refine z_bipush (z := 10) C dX10_saysNumber_51 (by decide) ?_
                  refine z_idiv C dX10_saysNumber_53 (by decide) (by decide) (by decide) ?_
                  rw [show (100000000 : Int).tdiv 10 = 10000000 by decide]
                  refine z_istore_n (lv' := [(3, .int (zI (10000000))), (2, .int (zI (vy3))), (0, .ref (ad i)), (1, .int (zI (z)))]) C dX10_saysNumber_54 rfl (by decide) rfl ?_
                  refine z_goto (tgt := 33) C dX10_saysNumber_55 (by decide) ?_
                  refine z_iload_n C 0 dX10_saysNumber_33 rfl ?_
                  refine z_if_le (tgt := 58) C dX10_saysNumber_34 (by decide) (by omega) (fun h => absurd h (by omega)) (fun _ => ?_)
                  refine z_aload_n C 2 dX10_saysNumber_37 rfl ?_
                  refine z_bipush (z := 48) C dX10_saysNumber_38 (by decide) ?_
                  refine z_iload_n C 1 dX10_saysNumber_40 rfl ?_
                  refine z_iload_n C 0 dX10_saysNumber_41 rfl ?_
                  refine z_idiv C dX10_saysNumber_42 (by omega) (by omega) (by omega) ?_
                  obtain ⟨xy148, exy148, hxy148⟩ : ∃ x9, (vy3).tdiv 10000000 = x9 ∧ (0 ≤ vy3 → 0 ≤ x9 ∧ 10000000 * x9 ≤ vy3 ∧ vy3 < 10000000 * x9 + 10000000) ∧ (vy3 ≤ 0 → x9 ≤ 0 ∧ vy3 ≤ 10000000 * x9 ∧ 10000000 * x9 < vy3 + 10000000) := tdk 10000000 (by decide)
                  rw [exy148]
                  refine z_bipush (z := 10) C dX10_saysNumber_43 (by decide) ?_
                  refine z_irem C dX10_saysNumber_45 (by omega) (by omega) (by omega) ?_
                  refine z_iadd C dX10_saysNumber_46 ?_
                  have hey150 : Fvy146 51 = F 51 + 1 := hqvy146
                  refine z_cV (As := [.int (zI (48 + (xy148.tmod 10)))]) (rest := []) (ci := 12) C (c_X10_says l D A cs tt N ad _ i hN _ hcvy146 _ htvy146 (by omega) (48 + (xy148.tmod 10))) (by omega) hay1 hcvy146 rfl rfl mv_yX10_says q_1850 hd_yX10_says (by decide) (Nat.le_of_ble_eq_true rfl) (by decide) dX10_saysNumber_47 rfl (kV0 fun gvy149 hvy149 => ?_)
                  obtain ⟨⟨Fvy149, hcvy149, hnvy149, hFvy149⟩, ⟨tvy149, htvy149⟩, hfvy149⟩ := hvy149
                  have hovy149 : Fvy146 51 = F 51 + 1 := hqvy146
                  have hqvy149 : Fvy149 51 = F 51 + 2 := by omega
                  clear hnvy149 hovy149
                  refine z_iload_n C 0 dX10_saysNumber_50 rfl ?_
                  refine z_bipush (z := 10) C dX10_saysNumber_51 (by decide) ?_
                  refine z_idiv C dX10_saysNumber_53 (by decide) (by decide) (by decide) ?_
                  rw [show (10000000 : Int).tdiv 10 = 1000000 by decide]
                  refine z_istore_n (lv' := [(3, .int (zI (1000000))), (2, .int (zI (vy3))), (0, .ref (ad i)), (1, .int (zI (z)))]) C dX10_saysNumber_54 rfl (by decide) rfl ?_
                  refine z_goto (tgt := 33) C dX10_saysNumber_55 (by decide) ?_
                  refine z_iload_n C 0 dX10_saysNumber_33 rfl ?_
                  refine z_if_le (tgt := 58) C dX10_saysNumber_34 (by decide) (by omega) (fun h => absurd h (by omega)) (fun _ => ?_)
                  refine z_aload_n C 2 dX10_saysNumber_37 rfl ?_
                  refine z_bipush (z := 48) C dX10_saysNumber_38 (by decide) ?_
                  refine z_iload_n C 1 dX10_saysNumber_40 rfl ?_
                  refine z_iload_n C 0 dX10_saysNumber_41 rfl ?_
                  refine z_idiv C dX10_saysNumber_42 (by omega) (by omega) (by omega) ?_
                  obtain ⟨xy151, exy151, hxy151⟩ : ∃ x9, (vy3).tdiv 1000000 = x9 ∧ (0 ≤ vy3 → 0 ≤ x9 ∧ 1000000 * x9 ≤ vy3 ∧ vy3 < 1000000 * x9 + 1000000) ∧ (vy3 ≤ 0 → x9 ≤ 0 ∧ vy3 ≤ 1000000 * x9 ∧ 1000000 * x9 < vy3 + 1000000) := tdk 1000000 (by decide)
                  rw [exy151]
                  refine z_bipush (z := 10) C dX10_saysNumber_43 (by decide) ?_
                  refine z_irem C dX10_saysNumber_45 (by omega) (by omega) (by omega) ?_
                  refine z_iadd C dX10_saysNumber_46 ?_
                  have hey153 : Fvy149 51 = F 51 + 2 := hqvy149
                  refine z_cV (As := [.int (zI (48 + (xy151.tmod 10)))]) (rest := []) (ci := 12) C (c_X10_says l D A cs tt N ad _ i hN _ hcvy149 _ htvy149 (by omega) (48 + (xy151.tmod 10))) (by omega) hay1 hcvy149 rfl rfl mv_yX10_says q_1850 hd_yX10_says (by decide) (Nat.le_of_ble_eq_true rfl) (by decide) dX10_saysNumber_47 rfl (kV0 fun gvy152 hvy152 => ?_)
                  obtain ⟨⟨Fvy152, hcvy152, hnvy152, hFvy152⟩, ⟨tvy152, htvy152⟩, hfvy152⟩ := hvy152
                  have hovy152 : Fvy149 51 = F 51 + 2 := hqvy149
                  have hqvy152 : Fvy152 51 = F 51 + 3 := by omega
                  clear hnvy152 hovy152
                  refine z_iload_n C 0 dX10_saysNumber_50 rfl ?_
                  refine z_bipush (z := 10) C dX10_saysNumber_51 (by decide) ?_
                  refine z_idiv C dX10_saysNumber_53 (by decide) (by decide) (by decide) ?_
                  rw [show (1000000 : Int).tdiv 10 = 100000 by decide]
                  refine z_istore_n (lv' := [(3, .int (zI (100000))), (2, .int (zI (vy3))), (0, .ref (ad i)), (1, .int (zI (z)))]) C dX10_saysNumber_54 rfl (by decide) rfl ?_
                  refine z_goto (tgt := 33) C dX10_saysNumber_55 (by decide) ?_
                  refine z_iload_n C 0 dX10_saysNumber_33 rfl ?_
                  refine z_if_le (tgt := 58) C dX10_saysNumber_34 (by decide) (by omega) (fun h => absurd h (by omega)) (fun _ => ?_)
                  refine z_aload_n C 2 dX10_saysNumber_37 rfl ?_
                  refine z_bipush (z := 48) C dX10_saysNumber_38 (by decide) ?_
                  refine z_iload_n C 1 dX10_saysNumber_40 rfl ?_
                  refine z_iload_n C 0 dX10_saysNumber_41 rfl ?_
                  refine z_idiv C dX10_saysNumber_42 (by omega) (by omega) (by omega) ?_
                  obtain ⟨xy154, exy154, hxy154⟩ : ∃ x9, (vy3).tdiv 100000 = x9 ∧ (0 ≤ vy3 → 0 ≤ x9 ∧ 100000 * x9 ≤ vy3 ∧ vy3 < 100000 * x9 + 100000) ∧ (vy3 ≤ 0 → x9 ≤ 0 ∧ vy3 ≤ 100000 * x9 ∧ 100000 * x9 < vy3 + 100000) := tdk 100000 (by decide)
                  rw [exy154]
                  refine z_bipush (z := 10) C dX10_saysNumber_43 (by decide) ?_
                  refine z_irem C dX10_saysNumber_45 (by omega) (by omega) (by omega) ?_
                  refine z_iadd C dX10_saysNumber_46 ?_
                  have hey156 : Fvy152 51 = F 51 + 3 := hqvy152
                  refine z_cV (As := [.int (zI (48 + (xy154.tmod 10)))]) (rest := []) (ci := 12) C (c_X10_says l D A cs tt N ad _ i hN _ hcvy152 _ htvy152 (by omega) (48 + (xy154.tmod 10))) (by omega) hay1 hcvy152 rfl rfl mv_yX10_says q_1850 hd_yX10_says (by decide) (Nat.le_of_ble_eq_true rfl) (by decide) dX10_saysNumber_47 rfl (kV0 fun gvy155 hvy155 => ?_)
                  obtain ⟨⟨Fvy155, hcvy155, hnvy155, hFvy155⟩, ⟨tvy155, htvy155⟩, hfvy155⟩ := hvy155
                  have hovy155 : Fvy152 51 = F 51 + 3 := hqvy152
                  have hqvy155 : Fvy155 51 = F 51 + 4 := by omega
                  clear hnvy155 hovy155
                  refine z_iload_n C 0 dX10_saysNumber_50 rfl ?_
                  refine z_bipush (z := 10) C dX10_saysNumber_51 (by decide) ?_
                  refine z_idiv C dX10_saysNumber_53 (by decide) (by decide) (by decide) ?_
                  rw [show (100000 : Int).tdiv 10 = 10000 by decide]
                  refine z_istore_n (lv' := [(3, .int (zI (10000))), (2, .int (zI (vy3))), (0, .ref (ad i)), (1, .int (zI (z)))]) C dX10_saysNumber_54 rfl (by decide) rfl ?_
                  refine z_goto (tgt := 33) C dX10_saysNumber_55 (by decide) ?_
                  refine z_iload_n C 0 dX10_saysNumber_33 rfl ?_
                  refine z_if_le (tgt := 58) C dX10_saysNumber_34 (by decide) (by omega) (fun h => absurd h (by omega)) (fun _ => ?_)
                  refine z_aload_n C 2 dX10_saysNumber_37 rfl ?_
                  refine z_bipush (z := 48) C dX10_saysNumber_38 (by decide) ?_
                  refine z_iload_n C 1 dX10_saysNumber_40 rfl ?_
                  refine z_iload_n C 0 dX10_saysNumber_41 rfl ?_
                  refine z_idiv C dX10_saysNumber_42 (by omega) (by omega) (by omega) ?_
                  obtain ⟨xy157, exy157, hxy157⟩ : ∃ x9, (vy3).tdiv 10000 = x9 ∧ (0 ≤ vy3 → 0 ≤ x9 ∧ 10000 * x9 ≤ vy3 ∧ vy3 < 10000 * x9 + 10000) ∧ (vy3 ≤ 0 → x9 ≤ 0 ∧ vy3 ≤ 10000 * x9 ∧ 10000 * x9 < vy3 + 10000) := tdk 10000 (by decide)
                  rw [exy157]
                  refine z_bipush (z := 10) C dX10_saysNumber_43 (by decide) ?_
                  refine z_irem C dX10_saysNumber_45 (by omega) (by omega) (by omega) ?_
                  refine z_iadd C dX10_saysNumber_46 ?_
                  have hey159 : Fvy155 51 = F 51 + 4 := hqvy155
                  refine z_cV (As := [.int (zI (48 + (xy157.tmod 10)))]) (rest := []) (ci := 12) C (c_X10_says l D A cs tt N ad _ i hN _ hcvy155 _ htvy155 (by omega) (48 + (xy157.tmod 10))) (by omega) hay1 hcvy155 rfl rfl mv_yX10_says q_1850 hd_yX10_says (by decide) (Nat.le_of_ble_eq_true rfl) (by decide) dX10_saysNumber_47 rfl (kV0 fun gvy158 hvy158 => ?_)
                  obtain ⟨⟨Fvy158, hcvy158, hnvy158, hFvy158⟩, ⟨tvy158, htvy158⟩, hfvy158⟩ := hvy158
                  have hovy158 : Fvy155 51 = F 51 + 4 := hqvy155
                  have hqvy158 : Fvy158 51 = F 51 + 5 := by omega
                  clear hnvy158 hovy158
                  refine z_iload_n C 0 dX10_saysNumber_50 rfl ?_
                  refine z_bipush (z := 10) C dX10_saysNumber_51 (by decide) ?_
                  refine z_idiv C dX10_saysNumber_53 (by decide) (by decide) (by decide) ?_
                  rw [show (10000 : Int).tdiv 10 = 1000 by decide]
                  refine z_istore_n (lv' := [(3, .int (zI (1000))), (2, .int (zI (vy3))), (0, .ref (ad i)), (1, .int (zI (z)))]) C dX10_saysNumber_54 rfl (by decide) rfl ?_
                  refine z_goto (tgt := 33) C dX10_saysNumber_55 (by decide) ?_
                  refine z_iload_n C 0 dX10_saysNumber_33 rfl ?_
                  refine z_if_le (tgt := 58) C dX10_saysNumber_34 (by decide) (by omega) (fun h => absurd h (by omega)) (fun _ => ?_)
                  refine z_aload_n C 2 dX10_saysNumber_37 rfl ?_
                  refine z_bipush (z := 48) C dX10_saysNumber_38 (by decide) ?_
                  refine z_iload_n C 1 dX10_saysNumber_40 rfl ?_
                  refine z_iload_n C 0 dX10_saysNumber_41 rfl ?_
                  refine z_idiv C dX10_saysNumber_42 (by omega) (by omega) (by omega) ?_
                  obtain ⟨xy160, exy160, hxy160⟩ : ∃ x9, (vy3).tdiv 1000 = x9 ∧ (0 ≤ vy3 → 0 ≤ x9 ∧ 1000 * x9 ≤ vy3 ∧ vy3 < 1000 * x9 + 1000) ∧ (vy3 ≤ 0 → x9 ≤ 0 ∧ vy3 ≤ 1000 * x9 ∧ 1000 * x9 < vy3 + 1000) := tdk 1000 (by decide)
                  rw [exy160]
                  refine z_bipush (z := 10) C dX10_saysNumber_43 (by decide) ?_
                  refine z_irem C dX10_saysNumber_45 (by omega) (by omega) (by omega) ?_
                  refine z_iadd C dX10_saysNumber_46 ?_
                  have hey162 : Fvy158 51 = F 51 + 5 := hqvy158
                  refine z_cV (As := [.int (zI (48 + (xy160.tmod 10)))]) (rest := []) (ci := 12) C (c_X10_says l D A cs tt N ad _ i hN _ hcvy158 _ htvy158 (by omega) (48 + (xy160.tmod 10))) (by omega) hay1 hcvy158 rfl rfl mv_yX10_says q_1850 hd_yX10_says (by decide) (Nat.le_of_ble_eq_true rfl) (by decide) dX10_saysNumber_47 rfl (kV0 fun gvy161 hvy161 => ?_)
                  obtain ⟨⟨Fvy161, hcvy161, hnvy161, hFvy161⟩, ⟨tvy161, htvy161⟩, hfvy161⟩ := hvy161
                  have hovy161 : Fvy158 51 = F 51 + 5 := hqvy158
                  have hqvy161 : Fvy161 51 = F 51 + 6 := by omega
                  clear hnvy161 hovy161
                  refine z_iload_n C 0 dX10_saysNumber_50 rfl ?_
                  refine z_bipush (z := 10) C dX10_saysNumber_51 (by decide) ?_
                  refine z_idiv C dX10_saysNumber_53 (by decide) (by decide) (by decide) ?_
                  rw [show (1000 : Int).tdiv 10 = 100 by decide]
                  refine z_istore_n (lv' := [(3, .int (zI (100))), (2, .int (zI (vy3))), (0, .ref (ad i)), (1, .int (zI (z)))]) C dX10_saysNumber_54 rfl (by decide) rfl ?_
                  refine z_goto (tgt := 33) C dX10_saysNumber_55 (by decide) ?_
                  refine z_iload_n C 0 dX10_saysNumber_33 rfl ?_
                  refine z_if_le (tgt := 58) C dX10_saysNumber_34 (by decide) (by omega) (fun h => absurd h (by omega)) (fun _ => ?_)
                  refine z_aload_n C 2 dX10_saysNumber_37 rfl ?_
                  refine z_bipush (z := 48) C dX10_saysNumber_38 (by decide) ?_
                  refine z_iload_n C 1 dX10_saysNumber_40 rfl ?_
                  refine z_iload_n C 0 dX10_saysNumber_41 rfl ?_
                  refine z_idiv C dX10_saysNumber_42 (by omega) (by omega) (by omega) ?_
                  obtain ⟨xy163, exy163, hxy163⟩ : ∃ x9, (vy3).tdiv 100 = x9 ∧ (0 ≤ vy3 → 0 ≤ x9 ∧ 100 * x9 ≤ vy3 ∧ vy3 < 100 * x9 + 100) ∧ (vy3 ≤ 0 → x9 ≤ 0 ∧ vy3 ≤ 100 * x9 ∧ 100 * x9 < vy3 + 100) := tdk 100 (by decide)
                  rw [exy163]
                  refine z_bipush (z := 10) C dX10_saysNumber_43 (by decide) ?_
                  refine z_irem C dX10_saysNumber_45 (by omega) (by omega) (by omega) ?_
                  refine z_iadd C dX10_saysNumber_46 ?_
                  have hey165 : Fvy161 51 = F 51 + 6 := hqvy161
                  refine z_cV (As := [.int (zI (48 + (xy163.tmod 10)))]) (rest := []) (ci := 12) C (c_X10_says l D A cs tt N ad _ i hN _ hcvy161 _ htvy161 (by omega) (48 + (xy163.tmod 10))) (by omega) hay1 hcvy161 rfl rfl mv_yX10_says q_1850 hd_yX10_says (by decide) (Nat.le_of_ble_eq_true rfl) (by decide) dX10_saysNumber_47 rfl (kV0 fun gvy164 hvy164 => ?_)
                  obtain ⟨⟨Fvy164, hcvy164, hnvy164, hFvy164⟩, ⟨tvy164, htvy164⟩, hfvy164⟩ := hvy164
                  have hovy164 : Fvy161 51 = F 51 + 6 := hqvy161
                  have hqvy164 : Fvy164 51 = F 51 + 7 := by omega
                  clear hnvy164 hovy164
                  refine z_iload_n C 0 dX10_saysNumber_50 rfl ?_
                  refine z_bipush (z := 10) C dX10_saysNumber_51 (by decide) ?_
                  refine z_idiv C dX10_saysNumber_53 (by decide) (by decide) (by decide) ?_
                  rw [show (100 : Int).tdiv 10 = 10 by decide]
                  refine z_istore_n (lv' := [(3, .int (zI (10))), (2, .int (zI (vy3))), (0, .ref (ad i)), (1, .int (zI (z)))]) C dX10_saysNumber_54 rfl (by decide) rfl ?_
                  refine z_goto (tgt := 33) C dX10_saysNumber_55 (by decide) ?_
                  refine z_iload_n C 0 dX10_saysNumber_33 rfl ?_
                  refine z_if_le (tgt := 58) C dX10_saysNumber_34 (by decide) (by omega) (fun h => absurd h (by omega)) (fun _ => ?_)
                  refine z_aload_n C 2 dX10_saysNumber_37 rfl ?_
                  refine z_bipush (z := 48) C dX10_saysNumber_38 (by decide) ?_
                  refine z_iload_n C 1 dX10_saysNumber_40 rfl ?_
                  refine z_iload_n C 0 dX10_saysNumber_41 rfl ?_
                  refine z_idiv C dX10_saysNumber_42 (by omega) (by omega) (by omega) ?_
                  obtain ⟨xy166, exy166, hxy166⟩ : ∃ x9, (vy3).tdiv 10 = x9 ∧ (0 ≤ vy3 → 0 ≤ x9 ∧ 10 * x9 ≤ vy3 ∧ vy3 < 10 * x9 + 10) ∧ (vy3 ≤ 0 → x9 ≤ 0 ∧ vy3 ≤ 10 * x9 ∧ 10 * x9 < vy3 + 10) := tdk 10 (by decide)
                  rw [exy166]
                  refine z_bipush (z := 10) C dX10_saysNumber_43 (by decide) ?_
                  refine z_irem C dX10_saysNumber_45 (by omega) (by omega) (by omega) ?_
                  refine z_iadd C dX10_saysNumber_46 ?_
                  have hey168 : Fvy164 51 = F 51 + 7 := hqvy164
                  refine z_cV (As := [.int (zI (48 + (xy166.tmod 10)))]) (rest := []) (ci := 12) C (c_X10_says l D A cs tt N ad _ i hN _ hcvy164 _ htvy164 (by omega) (48 + (xy166.tmod 10))) (by omega) hay1 hcvy164 rfl rfl mv_yX10_says q_1850 hd_yX10_says (by decide) (Nat.le_of_ble_eq_true rfl) (by decide) dX10_saysNumber_47 rfl (kV0 fun gvy167 hvy167 => ?_)
                  obtain ⟨⟨Fvy167, hcvy167, hnvy167, hFvy167⟩, ⟨tvy167, htvy167⟩, hfvy167⟩ := hvy167
                  have hovy167 : Fvy164 51 = F 51 + 7 := hqvy164
                  have hqvy167 : Fvy167 51 = F 51 + 8 := by omega
                  clear hnvy167 hovy167
                  refine z_iload_n C 0 dX10_saysNumber_50 rfl ?_
                  refine z_bipush (z := 10) C dX10_saysNumber_51 (by decide) ?_
                  refine z_idiv C dX10_saysNumber_53 (by decide) (by decide) (by decide) ?_
                  rw [show (10 : Int).tdiv 10 = 1 by decide]
                  refine z_istore_n (lv' := [(3, .int (zI (1))), (2, .int (zI (vy3))), (0, .ref (ad i)), (1, .int (zI (z)))]) C dX10_saysNumber_54 rfl (by decide) rfl ?_
                  refine z_goto (tgt := 33) C dX10_saysNumber_55 (by decide) ?_
                  refine z_iload_n C 0 dX10_saysNumber_33 rfl ?_
                  refine z_if_le (tgt := 58) C dX10_saysNumber_34 (by decide) (by omega) (fun h => absurd h (by omega)) (fun _ => ?_)
                  refine z_aload_n C 2 dX10_saysNumber_37 rfl ?_
                  refine z_bipush (z := 48) C dX10_saysNumber_38 (by decide) ?_
                  refine z_iload_n C 1 dX10_saysNumber_40 rfl ?_
                  refine z_iload_n C 0 dX10_saysNumber_41 rfl ?_
                  refine z_idiv C dX10_saysNumber_42 (by omega) (by omega) (by omega) ?_
                  obtain ⟨xy169, exy169, hxy169⟩ : ∃ x9, (vy3).tdiv 1 = x9 ∧ (0 ≤ vy3 → 0 ≤ x9 ∧ 1 * x9 ≤ vy3 ∧ vy3 < 1 * x9 + 1) ∧ (vy3 ≤ 0 → x9 ≤ 0 ∧ vy3 ≤ 1 * x9 ∧ 1 * x9 < vy3 + 1) := tdk 1 (by decide)
                  rw [exy169]
                  refine z_bipush (z := 10) C dX10_saysNumber_43 (by decide) ?_
                  refine z_irem C dX10_saysNumber_45 (by omega) (by omega) (by omega) ?_
                  refine z_iadd C dX10_saysNumber_46 ?_
                  have hey171 : Fvy167 51 = F 51 + 8 := hqvy167
                  refine z_cV (As := [.int (zI (48 + (xy169.tmod 10)))]) (rest := []) (ci := 12) C (c_X10_says l D A cs tt N ad _ i hN _ hcvy167 _ htvy167 (by omega) (48 + (xy169.tmod 10))) (by omega) hay1 hcvy167 rfl rfl mv_yX10_says q_1850 hd_yX10_says (by decide) (Nat.le_of_ble_eq_true rfl) (by decide) dX10_saysNumber_47 rfl (kV0 fun gvy170 hvy170 => ?_)
                  obtain ⟨⟨Fvy170, hcvy170, hnvy170, hFvy170⟩, ⟨tvy170, htvy170⟩, hfvy170⟩ := hvy170
                  have hovy170 : Fvy167 51 = F 51 + 8 := hqvy167
                  have hqvy170 : Fvy170 51 = F 51 + 9 := by omega
                  clear hnvy170 hovy170
                  refine z_iload_n C 0 dX10_saysNumber_50 rfl ?_
                  refine z_bipush (z := 10) C dX10_saysNumber_51 (by decide) ?_
                  refine z_idiv C dX10_saysNumber_53 (by decide) (by decide) (by decide) ?_
                  rw [show (1 : Int).tdiv 10 = 0 by decide]
                  refine z_istore_n (lv' := [(3, .int (zI (0))), (2, .int (zI (vy3))), (0, .ref (ad i)), (1, .int (zI (z)))]) C dX10_saysNumber_54 rfl (by decide) rfl ?_
                  refine z_goto (tgt := 33) C dX10_saysNumber_55 (by decide) ?_
                  refine z_iload_n C 0 dX10_saysNumber_33 rfl ?_
                  refine z_if_le (tgt := 58) C dX10_saysNumber_34 (by decide) (by omega) (fun _ => ?_) (fun h => absurd h (by omega))
                  have hFy172 : ∀ f, f ≠ 51 → Fvy170 f = F f := fun f n51 => ((hFvy170 f n51).trans ((hFvy167 f n51).trans ((hFvy164 f n51).trans ((hFvy161 f n51).trans ((hFvy158 f n51).trans ((hFvy155 f n51).trans ((hFvy152 f n51).trans ((hFvy149 f n51).trans (hFvy146 f n51)))))))))
                  have hey173 : Fvy170 51 = F 51 + 9 := hqvy170
                  exact z_vret C hr hlk dX10_saysNumber_58 (by decide) (by decide) ⟨rfl, rfl, rfl, ⟨_, hcvy170, by omega, hFy172⟩, ⟨_, htvy170⟩, fun j j1 j2 => by rw [hfvy170 _ (by omega) (by omega)]; rw [hfvy167 _ (by omega) (by omega)]; rw [hfvy164 _ (by omega) (by omega)]; rw [hfvy161 _ (by omega) (by omega)]; rw [hfvy158 _ (by omega) (by omega)]; rw [hfvy155 _ (by omega) (by omega)]; rw [hfvy152 _ (by omega) (by omega)]; rw [hfvy149 _ (by omega) (by omega)]; rw [hfvy146 _ (by omega) (by omega)]⟩

set_option maxRecDepth 100000 in
set_option maxHeartbeats 4000000 in
theorem c_X10_saysNumber5 (l : Launch) (D : va_G) (A : Nat → Prop) (cs : Nat → ClassId) (tt : Nat) (N : Nat) (ad : Nat → Nat) (g : Nat → va_E) (i : Nat) (hN : i + 30 ≤ N) (F : Nat → Int) (hg : g i = mC ad i F) (li : Nat → Int) (ha24 : g (i + 24) = iA cs 64 li) (h51 : 0 ≤ F 51 ∧ F 51 + 5 ≤ 64) (z : Int) (hz : -300 ≤ z ∧ z ≤ 99999) : zM l yX10_saysNumber cX10_saysNumber 4 none ({ frames := 2, cells := 0, slots := 0, locals := 120 } : Room) D A cs tt N ad g [.ref (ad i), .int (zI (z))] (rV0 N ad fun g' => (∃ F' : Nat → Int, g' i = mC ad i F' ∧ (F 51 ≤ F' 51 ∧ F' 51 ≤ F 51 + 5) ∧ (∀ f, f ≠ 51 → F' f = F f)) ∧ (∃ t' : Nat → Int, g' (i + 24) = iA cs 64 t') ∧ ∀ j, j ≠ i → j ≠ i + 24 → g' j = g j) := by
  have hay1 : zAt ad (i) (ad i) := rfl
  have hay2 : zAt ad (i + 24) (ad (i + 24)) := rfl
  refine z_of (by decide) (Nat.le_of_ble_eq_true rfl) ?_
  intro pZ eZ sZ mZ below meth cZ C hr hlk hnm
  refine z_lv (lv' := [(0, .ref (ad i)), (1, .int (zI (z)))]) [0, 1] rfl ?_
  refine z_iload_n C 1 dX10_saysNumber_0 rfl ?_
  refine z_if_ge (tgt := 10) C dX10_saysNumber_1 (by decide) (by omega) (fun hby3 => ?_) (fun hby3 => ?_)
  · refine z_iload_n C 1 dX10_saysNumber_10 rfl ?_
    refine z_cS (As := [.int (zI (z))]) (rest := []) C (c_X10_spanX l D A cs tt N ad _ (z) (by omega)) ms_yX10_span q_1839 hd_yX10_span (by decide) (Nat.le_of_ble_eq_true rfl) (by decide) dX10_saysNumber_11 rfl (kI0 fun vy4 gvy4 hvy4 => ?_)
    obtain ⟨hvy4, rfl⟩ := hvy4
    refine z_istore_n (lv' := [(2, .int (zI (vy4))), (0, .ref (ad i)), (1, .int (zI (z)))]) C dX10_saysNumber_14 rfl (by decide) rfl ?_
    refine z_iconst (z := 1) C dX10_saysNumber_15 rfl ?_
    refine z_istore_n (lv' := [(3, .int (zI (1))), (2, .int (zI (vy4))), (0, .ref (ad i)), (1, .int (zI (z)))]) C dX10_saysNumber_16 rfl (by decide) rfl ?_
    refine z_iload_n C 1 dX10_saysNumber_17 rfl ?_
    refine z_iload_n C 0 dX10_saysNumber_18 rfl ?_
    refine z_idiv C dX10_saysNumber_19 (by omega) (by omega) (by omega) ?_
    obtain ⟨xy5, exy5, hxy5⟩ : ∃ x9, (vy4).tdiv 1 = x9 ∧ (0 ≤ vy4 → 0 ≤ x9 ∧ 1 * x9 ≤ vy4 ∧ vy4 < 1 * x9 + 1) ∧ (vy4 ≤ 0 → x9 ≤ 0 ∧ vy4 ≤ 1 * x9 ∧ 1 * x9 < vy4 + 1) := tdk 1 (by decide)
    rw [exy5]
    refine z_bipush (z := 9) C dX10_saysNumber_20 (by decide) ?_
    refine z_icmp_le (tgt := 33) C dX10_saysNumber_22 (by decide) (by omega) (by omega) (fun hby6 => ?_) (fun hby6 => ?_)
    · refine z_iload_n C 0 dX10_saysNumber_33 rfl ?_
      refine z_if_le (tgt := 58) C dX10_saysNumber_34 (by decide) (by omega) (fun h => absurd h (by omega)) (fun _ => ?_)
      refine z_aload_n C 2 dX10_saysNumber_37 rfl ?_
      refine z_bipush (z := 48) C dX10_saysNumber_38 (by decide) ?_
      refine z_iload_n C 1 dX10_saysNumber_40 rfl ?_
      refine z_iload_n C 0 dX10_saysNumber_41 rfl ?_
      refine z_idiv C dX10_saysNumber_42 (by omega) (by omega) (by omega) ?_
      obtain ⟨xy7, exy7, hxy7⟩ : ∃ x9, (vy4).tdiv 1 = x9 ∧ (0 ≤ vy4 → 0 ≤ x9 ∧ 1 * x9 ≤ vy4 ∧ vy4 < 1 * x9 + 1) ∧ (vy4 ≤ 0 → x9 ≤ 0 ∧ vy4 ≤ 1 * x9 ∧ 1 * x9 < vy4 + 1) := tdk 1 (by decide)
      rw [exy7]
      refine z_bipush (z := 10) C dX10_saysNumber_43 (by decide) ?_
      refine z_irem C dX10_saysNumber_45 (by omega) (by omega) (by omega) ?_
      refine z_iadd C dX10_saysNumber_46 ?_
      have hey9 : F 51 = F 51 := rfl
      refine z_cV (As := [.int (zI (48 + (xy7.tmod 10)))]) (rest := []) (ci := 12) C (c_X10_says l D A cs tt N ad _ i hN _ hg _ ha24 (by omega) (48 + (xy7.tmod 10))) (by omega) hay1 hg rfl rfl mv_yX10_says q_1850 hd_yX10_says (by decide) (Nat.le_of_ble_eq_true rfl) (by decide) dX10_saysNumber_47 rfl (kV0 fun gvy8 hvy8 => ?_)
      obtain ⟨⟨Fvy8, hcvy8, hnvy8, hFvy8⟩, ⟨tvy8, htvy8⟩, hfvy8⟩ := hvy8
      have hovy8 : F 51 = F 51 := rfl
      have hqvy8 : Fvy8 51 = F 51 + 1 := by omega
      clear hnvy8 hovy8
      refine z_iload_n C 0 dX10_saysNumber_50 rfl ?_
      refine z_bipush (z := 10) C dX10_saysNumber_51 (by decide) ?_
      refine z_idiv C dX10_saysNumber_53 (by decide) (by decide) (by decide) ?_
      rw [show (1 : Int).tdiv 10 = 0 by decide]
      refine z_istore_n (lv' := [(3, .int (zI (0))), (2, .int (zI (vy4))), (0, .ref (ad i)), (1, .int (zI (z)))]) C dX10_saysNumber_54 rfl (by decide) rfl ?_
      refine z_goto (tgt := 33) C dX10_saysNumber_55 (by decide) ?_
      refine z_iload_n C 0 dX10_saysNumber_33 rfl ?_
      refine z_if_le (tgt := 58) C dX10_saysNumber_34 (by decide) (by omega) (fun _ => ?_) (fun h => absurd h (by omega))
      have hFy10 : ∀ f, f ≠ 51 → Fvy8 f = F f := fun f n51 => (hFvy8 f n51)
      have hey11 : Fvy8 51 = F 51 + 1 := hqvy8
      exact z_vret C hr hlk dX10_saysNumber_58 (by decide) (by decide) ⟨rfl, rfl, rfl, ⟨_, hcvy8, by omega, hFy10⟩, ⟨_, htvy8⟩, fun j j1 j2 => by rw [hfvy8 _ (by omega) (by omega)]⟩
    · refine z_iload_n C 0 dX10_saysNumber_25 rfl ?_
      refine z_bipush (z := 10) C dX10_saysNumber_26 (by decide) ?_
      refine z_imul C dX10_saysNumber_28 ?_
      rw [show (1 : Int) * 10 = 10 by decide]
      refine z_istore_n (lv' := [(3, .int (zI (10))), (2, .int (zI (vy4))), (0, .ref (ad i)), (1, .int (zI (z)))]) C dX10_saysNumber_29 rfl (by decide) rfl ?_
      refine z_goto (tgt := 17) C dX10_saysNumber_30 (by decide) ?_
      refine z_iload_n C 1 dX10_saysNumber_17 rfl ?_
      refine z_iload_n C 0 dX10_saysNumber_18 rfl ?_
      refine z_idiv C dX10_saysNumber_19 (by omega) (by omega) (by omega) ?_
      obtain ⟨xy12, exy12, hxy12⟩ : ∃ x9, (vy4).tdiv 10 = x9 ∧ (0 ≤ vy4 → 0 ≤ x9 ∧ 10 * x9 ≤ vy4 ∧ vy4 < 10 * x9 + 10) ∧ (vy4 ≤ 0 → x9 ≤ 0 ∧ vy4 ≤ 10 * x9 ∧ 10 * x9 < vy4 + 10) := tdk 10 (by decide)
      rw [exy12]
      refine z_bipush (z := 9) C dX10_saysNumber_20 (by decide) ?_
      refine z_icmp_le (tgt := 33) C dX10_saysNumber_22 (by decide) (by omega) (by omega) (fun hby13 => ?_) (fun hby13 => ?_)
      · refine z_iload_n C 0 dX10_saysNumber_33 rfl ?_
        refine z_if_le (tgt := 58) C dX10_saysNumber_34 (by decide) (by omega) (fun h => absurd h (by omega)) (fun _ => ?_)
        refine z_aload_n C 2 dX10_saysNumber_37 rfl ?_
        refine z_bipush (z := 48) C dX10_saysNumber_38 (by decide) ?_
        refine z_iload_n C 1 dX10_saysNumber_40 rfl ?_
        refine z_iload_n C 0 dX10_saysNumber_41 rfl ?_
        refine z_idiv C dX10_saysNumber_42 (by omega) (by omega) (by omega) ?_
        obtain ⟨xy14, exy14, hxy14⟩ : ∃ x9, (vy4).tdiv 10 = x9 ∧ (0 ≤ vy4 → 0 ≤ x9 ∧ 10 * x9 ≤ vy4 ∧ vy4 < 10 * x9 + 10) ∧ (vy4 ≤ 0 → x9 ≤ 0 ∧ vy4 ≤ 10 * x9 ∧ 10 * x9 < vy4 + 10) := tdk 10 (by decide)
        rw [exy14]
        refine z_bipush (z := 10) C dX10_saysNumber_43 (by decide) ?_
        refine z_irem C dX10_saysNumber_45 (by omega) (by omega) (by omega) ?_
        refine z_iadd C dX10_saysNumber_46 ?_
        have hey16 : F 51 = F 51 := rfl
        refine z_cV (As := [.int (zI (48 + (xy14.tmod 10)))]) (rest := []) (ci := 12) C (c_X10_says l D A cs tt N ad _ i hN _ hg _ ha24 (by omega) (48 + (xy14.tmod 10))) (by omega) hay1 hg rfl rfl mv_yX10_says q_1850 hd_yX10_says (by decide) (Nat.le_of_ble_eq_true rfl) (by decide) dX10_saysNumber_47 rfl (kV0 fun gvy15 hvy15 => ?_)
        obtain ⟨⟨Fvy15, hcvy15, hnvy15, hFvy15⟩, ⟨tvy15, htvy15⟩, hfvy15⟩ := hvy15
        have hovy15 : F 51 = F 51 := rfl
        have hqvy15 : Fvy15 51 = F 51 + 1 := by omega
        clear hnvy15 hovy15
        refine z_iload_n C 0 dX10_saysNumber_50 rfl ?_
        refine z_bipush (z := 10) C dX10_saysNumber_51 (by decide) ?_
        refine z_idiv C dX10_saysNumber_53 (by decide) (by decide) (by decide) ?_
        rw [show (10 : Int).tdiv 10 = 1 by decide]
        refine z_istore_n (lv' := [(3, .int (zI (1))), (2, .int (zI (vy4))), (0, .ref (ad i)), (1, .int (zI (z)))]) C dX10_saysNumber_54 rfl (by decide) rfl ?_
        refine z_goto (tgt := 33) C dX10_saysNumber_55 (by decide) ?_
        refine z_iload_n C 0 dX10_saysNumber_33 rfl ?_
        refine z_if_le (tgt := 58) C dX10_saysNumber_34 (by decide) (by omega) (fun h => absurd h (by omega)) (fun _ => ?_)
        refine z_aload_n C 2 dX10_saysNumber_37 rfl ?_
        refine z_bipush (z := 48) C dX10_saysNumber_38 (by decide) ?_
        refine z_iload_n C 1 dX10_saysNumber_40 rfl ?_
        refine z_iload_n C 0 dX10_saysNumber_41 rfl ?_
        refine z_idiv C dX10_saysNumber_42 (by omega) (by omega) (by omega) ?_
        obtain ⟨xy17, exy17, hxy17⟩ : ∃ x9, (vy4).tdiv 1 = x9 ∧ (0 ≤ vy4 → 0 ≤ x9 ∧ 1 * x9 ≤ vy4 ∧ vy4 < 1 * x9 + 1) ∧ (vy4 ≤ 0 → x9 ≤ 0 ∧ vy4 ≤ 1 * x9 ∧ 1 * x9 < vy4 + 1) := tdk 1 (by decide)
        rw [exy17]
        refine z_bipush (z := 10) C dX10_saysNumber_43 (by decide) ?_
        refine z_irem C dX10_saysNumber_45 (by omega) (by omega) (by omega) ?_
        refine z_iadd C dX10_saysNumber_46 ?_
        have hey19 : Fvy15 51 = F 51 + 1 := hqvy15
        refine z_cV (As := [.int (zI (48 + (xy17.tmod 10)))]) (rest := []) (ci := 12) C (c_X10_says l D A cs tt N ad _ i hN _ hcvy15 _ htvy15 (by omega) (48 + (xy17.tmod 10))) (by omega) hay1 hcvy15 rfl rfl mv_yX10_says q_1850 hd_yX10_says (by decide) (Nat.le_of_ble_eq_true rfl) (by decide) dX10_saysNumber_47 rfl (kV0 fun gvy18 hvy18 => ?_)
        obtain ⟨⟨Fvy18, hcvy18, hnvy18, hFvy18⟩, ⟨tvy18, htvy18⟩, hfvy18⟩ := hvy18
        have hovy18 : Fvy15 51 = F 51 + 1 := hqvy15
        have hqvy18 : Fvy18 51 = F 51 + 2 := by omega
        clear hnvy18 hovy18
        refine z_iload_n C 0 dX10_saysNumber_50 rfl ?_
        refine z_bipush (z := 10) C dX10_saysNumber_51 (by decide) ?_
        refine z_idiv C dX10_saysNumber_53 (by decide) (by decide) (by decide) ?_
        rw [show (1 : Int).tdiv 10 = 0 by decide]
        refine z_istore_n (lv' := [(3, .int (zI (0))), (2, .int (zI (vy4))), (0, .ref (ad i)), (1, .int (zI (z)))]) C dX10_saysNumber_54 rfl (by decide) rfl ?_
        refine z_goto (tgt := 33) C dX10_saysNumber_55 (by decide) ?_
        refine z_iload_n C 0 dX10_saysNumber_33 rfl ?_
        refine z_if_le (tgt := 58) C dX10_saysNumber_34 (by decide) (by omega) (fun _ => ?_) (fun h => absurd h (by omega))
        have hFy20 : ∀ f, f ≠ 51 → Fvy18 f = F f := fun f n51 => ((hFvy18 f n51).trans (hFvy15 f n51))
        have hey21 : Fvy18 51 = F 51 + 2 := hqvy18
        exact z_vret C hr hlk dX10_saysNumber_58 (by decide) (by decide) ⟨rfl, rfl, rfl, ⟨_, hcvy18, by omega, hFy20⟩, ⟨_, htvy18⟩, fun j j1 j2 => by rw [hfvy18 _ (by omega) (by omega)]; rw [hfvy15 _ (by omega) (by omega)]⟩
      · refine z_iload_n C 0 dX10_saysNumber_25 rfl ?_
        refine z_bipush (z := 10) C dX10_saysNumber_26 (by decide) ?_
        refine z_imul C dX10_saysNumber_28 ?_
        rw [show (10 : Int) * 10 = 100 by decide]
        refine z_istore_n (lv' := [(3, .int (zI (100))), (2, .int (zI (vy4))), (0, .ref (ad i)), (1, .int (zI (z)))]) C dX10_saysNumber_29 rfl (by decide) rfl ?_
        refine z_goto (tgt := 17) C dX10_saysNumber_30 (by decide) ?_
        refine z_iload_n C 1 dX10_saysNumber_17 rfl ?_
        refine z_iload_n C 0 dX10_saysNumber_18 rfl ?_
        refine z_idiv C dX10_saysNumber_19 (by omega) (by omega) (by omega) ?_
        obtain ⟨xy22, exy22, hxy22⟩ : ∃ x9, (vy4).tdiv 100 = x9 ∧ (0 ≤ vy4 → 0 ≤ x9 ∧ 100 * x9 ≤ vy4 ∧ vy4 < 100 * x9 + 100) ∧ (vy4 ≤ 0 → x9 ≤ 0 ∧ vy4 ≤ 100 * x9 ∧ 100 * x9 < vy4 + 100) := tdk 100 (by decide)
        rw [exy22]
        refine z_bipush (z := 9) C dX10_saysNumber_20 (by decide) ?_
        refine z_icmp_le (tgt := 33) C dX10_saysNumber_22 (by decide) (by omega) (by omega) (fun hby23 => ?_) (fun hby23 => ?_)
        · refine z_iload_n C 0 dX10_saysNumber_33 rfl ?_
          refine z_if_le (tgt := 58) C dX10_saysNumber_34 (by decide) (by omega) (fun h => absurd h (by omega)) (fun _ => ?_)
          refine z_aload_n C 2 dX10_saysNumber_37 rfl ?_
          refine z_bipush (z := 48) C dX10_saysNumber_38 (by decide) ?_
          refine z_iload_n C 1 dX10_saysNumber_40 rfl ?_
          refine z_iload_n C 0 dX10_saysNumber_41 rfl ?_
          refine z_idiv C dX10_saysNumber_42 (by omega) (by omega) (by omega) ?_
          obtain ⟨xy24, exy24, hxy24⟩ : ∃ x9, (vy4).tdiv 100 = x9 ∧ (0 ≤ vy4 → 0 ≤ x9 ∧ 100 * x9 ≤ vy4 ∧ vy4 < 100 * x9 + 100) ∧ (vy4 ≤ 0 → x9 ≤ 0 ∧ vy4 ≤ 100 * x9 ∧ 100 * x9 < vy4 + 100) := tdk 100 (by decide)
          rw [exy24]
          refine z_bipush (z := 10) C dX10_saysNumber_43 (by decide) ?_
          refine z_irem C dX10_saysNumber_45 (by omega) (by omega) (by omega) ?_
          refine z_iadd C dX10_saysNumber_46 ?_
          have hey26 : F 51 = F 51 := rfl
          refine z_cV (As := [.int (zI (48 + (xy24.tmod 10)))]) (rest := []) (ci := 12) C (c_X10_says l D A cs tt N ad _ i hN _ hg _ ha24 (by omega) (48 + (xy24.tmod 10))) (by omega) hay1 hg rfl rfl mv_yX10_says q_1850 hd_yX10_says (by decide) (Nat.le_of_ble_eq_true rfl) (by decide) dX10_saysNumber_47 rfl (kV0 fun gvy25 hvy25 => ?_)
          obtain ⟨⟨Fvy25, hcvy25, hnvy25, hFvy25⟩, ⟨tvy25, htvy25⟩, hfvy25⟩ := hvy25
          have hovy25 : F 51 = F 51 := rfl
          have hqvy25 : Fvy25 51 = F 51 + 1 := by omega
          clear hnvy25 hovy25
          refine z_iload_n C 0 dX10_saysNumber_50 rfl ?_
          refine z_bipush (z := 10) C dX10_saysNumber_51 (by decide) ?_
          refine z_idiv C dX10_saysNumber_53 (by decide) (by decide) (by decide) ?_
          rw [show (100 : Int).tdiv 10 = 10 by decide]
          refine z_istore_n (lv' := [(3, .int (zI (10))), (2, .int (zI (vy4))), (0, .ref (ad i)), (1, .int (zI (z)))]) C dX10_saysNumber_54 rfl (by decide) rfl ?_
          refine z_goto (tgt := 33) C dX10_saysNumber_55 (by decide) ?_
          refine z_iload_n C 0 dX10_saysNumber_33 rfl ?_
          refine z_if_le (tgt := 58) C dX10_saysNumber_34 (by decide) (by omega) (fun h => absurd h (by omega)) (fun _ => ?_)
          refine z_aload_n C 2 dX10_saysNumber_37 rfl ?_
          refine z_bipush (z := 48) C dX10_saysNumber_38 (by decide) ?_
          refine z_iload_n C 1 dX10_saysNumber_40 rfl ?_
          refine z_iload_n C 0 dX10_saysNumber_41 rfl ?_
          refine z_idiv C dX10_saysNumber_42 (by omega) (by omega) (by omega) ?_
          obtain ⟨xy27, exy27, hxy27⟩ : ∃ x9, (vy4).tdiv 10 = x9 ∧ (0 ≤ vy4 → 0 ≤ x9 ∧ 10 * x9 ≤ vy4 ∧ vy4 < 10 * x9 + 10) ∧ (vy4 ≤ 0 → x9 ≤ 0 ∧ vy4 ≤ 10 * x9 ∧ 10 * x9 < vy4 + 10) := tdk 10 (by decide)
          rw [exy27]
          refine z_bipush (z := 10) C dX10_saysNumber_43 (by decide) ?_
          refine z_irem C dX10_saysNumber_45 (by omega) (by omega) (by omega) ?_
          refine z_iadd C dX10_saysNumber_46 ?_
          have hey29 : Fvy25 51 = F 51 + 1 := hqvy25
          refine z_cV (As := [.int (zI (48 + (xy27.tmod 10)))]) (rest := []) (ci := 12) C (c_X10_says l D A cs tt N ad _ i hN _ hcvy25 _ htvy25 (by omega) (48 + (xy27.tmod 10))) (by omega) hay1 hcvy25 rfl rfl mv_yX10_says q_1850 hd_yX10_says (by decide) (Nat.le_of_ble_eq_true rfl) (by decide) dX10_saysNumber_47 rfl (kV0 fun gvy28 hvy28 => ?_)
          obtain ⟨⟨Fvy28, hcvy28, hnvy28, hFvy28⟩, ⟨tvy28, htvy28⟩, hfvy28⟩ := hvy28
          have hovy28 : Fvy25 51 = F 51 + 1 := hqvy25
          have hqvy28 : Fvy28 51 = F 51 + 2 := by omega
          clear hnvy28 hovy28
          refine z_iload_n C 0 dX10_saysNumber_50 rfl ?_
          refine z_bipush (z := 10) C dX10_saysNumber_51 (by decide) ?_
          refine z_idiv C dX10_saysNumber_53 (by decide) (by decide) (by decide) ?_
          rw [show (10 : Int).tdiv 10 = 1 by decide]
          refine z_istore_n (lv' := [(3, .int (zI (1))), (2, .int (zI (vy4))), (0, .ref (ad i)), (1, .int (zI (z)))]) C dX10_saysNumber_54 rfl (by decide) rfl ?_
          refine z_goto (tgt := 33) C dX10_saysNumber_55 (by decide) ?_
          refine z_iload_n C 0 dX10_saysNumber_33 rfl ?_
          refine z_if_le (tgt := 58) C dX10_saysNumber_34 (by decide) (by omega) (fun h => absurd h (by omega)) (fun _ => ?_)
          refine z_aload_n C 2 dX10_saysNumber_37 rfl ?_
          refine z_bipush (z := 48) C dX10_saysNumber_38 (by decide) ?_
          refine z_iload_n C 1 dX10_saysNumber_40 rfl ?_
          refine z_iload_n C 0 dX10_saysNumber_41 rfl ?_
          refine z_idiv C dX10_saysNumber_42 (by omega) (by omega) (by omega) ?_
          obtain ⟨xy30, exy30, hxy30⟩ : ∃ x9, (vy4).tdiv 1 = x9 ∧ (0 ≤ vy4 → 0 ≤ x9 ∧ 1 * x9 ≤ vy4 ∧ vy4 < 1 * x9 + 1) ∧ (vy4 ≤ 0 → x9 ≤ 0 ∧ vy4 ≤ 1 * x9 ∧ 1 * x9 < vy4 + 1) := tdk 1 (by decide)
          rw [exy30]
          refine z_bipush (z := 10) C dX10_saysNumber_43 (by decide) ?_
          refine z_irem C dX10_saysNumber_45 (by omega) (by omega) (by omega) ?_
          refine z_iadd C dX10_saysNumber_46 ?_
          have hey32 : Fvy28 51 = F 51 + 2 := hqvy28
          refine z_cV (As := [.int (zI (48 + (xy30.tmod 10)))]) (rest := []) (ci := 12) C (c_X10_says l D A cs tt N ad _ i hN _ hcvy28 _ htvy28 (by omega) (48 + (xy30.tmod 10))) (by omega) hay1 hcvy28 rfl rfl mv_yX10_says q_1850 hd_yX10_says (by decide) (Nat.le_of_ble_eq_true rfl) (by decide) dX10_saysNumber_47 rfl (kV0 fun gvy31 hvy31 => ?_)
          obtain ⟨⟨Fvy31, hcvy31, hnvy31, hFvy31⟩, ⟨tvy31, htvy31⟩, hfvy31⟩ := hvy31
          have hovy31 : Fvy28 51 = F 51 + 2 := hqvy28
          have hqvy31 : Fvy31 51 = F 51 + 3 := by omega
          clear hnvy31 hovy31
          refine z_iload_n C 0 dX10_saysNumber_50 rfl ?_
          refine z_bipush (z := 10) C dX10_saysNumber_51 (by decide) ?_
          refine z_idiv C dX10_saysNumber_53 (by decide) (by decide) (by decide) ?_
          rw [show (1 : Int).tdiv 10 = 0 by decide]
          refine z_istore_n (lv' := [(3, .int (zI (0))), (2, .int (zI (vy4))), (0, .ref (ad i)), (1, .int (zI (z)))]) C dX10_saysNumber_54 rfl (by decide) rfl ?_
          refine z_goto (tgt := 33) C dX10_saysNumber_55 (by decide) ?_
          refine z_iload_n C 0 dX10_saysNumber_33 rfl ?_
          refine z_if_le (tgt := 58) C dX10_saysNumber_34 (by decide) (by omega) (fun _ => ?_) (fun h => absurd h (by omega))
          have hFy33 : ∀ f, f ≠ 51 → Fvy31 f = F f := fun f n51 => ((hFvy31 f n51).trans ((hFvy28 f n51).trans (hFvy25 f n51)))
          have hey34 : Fvy31 51 = F 51 + 3 := hqvy31
          exact z_vret C hr hlk dX10_saysNumber_58 (by decide) (by decide) ⟨rfl, rfl, rfl, ⟨_, hcvy31, by omega, hFy33⟩, ⟨_, htvy31⟩, fun j j1 j2 => by rw [hfvy31 _ (by omega) (by omega)]; rw [hfvy28 _ (by omega) (by omega)]; rw [hfvy25 _ (by omega) (by omega)]⟩
        · refine z_iload_n C 0 dX10_saysNumber_25 rfl ?_
          refine z_bipush (z := 10) C dX10_saysNumber_26 (by decide) ?_
          refine z_imul C dX10_saysNumber_28 ?_
          rw [show (100 : Int) * 10 = 1000 by decide]
          refine z_istore_n (lv' := [(3, .int (zI (1000))), (2, .int (zI (vy4))), (0, .ref (ad i)), (1, .int (zI (z)))]) C dX10_saysNumber_29 rfl (by decide) rfl ?_
          refine z_goto (tgt := 17) C dX10_saysNumber_30 (by decide) ?_
          refine z_iload_n C 1 dX10_saysNumber_17 rfl ?_
          refine z_iload_n C 0 dX10_saysNumber_18 rfl ?_
          refine z_idiv C dX10_saysNumber_19 (by omega) (by omega) (by omega) ?_
          obtain ⟨xy35, exy35, hxy35⟩ : ∃ x9, (vy4).tdiv 1000 = x9 ∧ (0 ≤ vy4 → 0 ≤ x9 ∧ 1000 * x9 ≤ vy4 ∧ vy4 < 1000 * x9 + 1000) ∧ (vy4 ≤ 0 → x9 ≤ 0 ∧ vy4 ≤ 1000 * x9 ∧ 1000 * x9 < vy4 + 1000) := tdk 1000 (by decide)
          rw [exy35]
          refine z_bipush (z := 9) C dX10_saysNumber_20 (by decide) ?_
          refine z_icmp_le (tgt := 33) C dX10_saysNumber_22 (by decide) (by omega) (by omega) (fun hby36 => ?_) (fun hby36 => ?_)
          · refine z_iload_n C 0 dX10_saysNumber_33 rfl ?_
            refine z_if_le (tgt := 58) C dX10_saysNumber_34 (by decide) (by omega) (fun h => absurd h (by omega)) (fun _ => ?_)
            refine z_aload_n C 2 dX10_saysNumber_37 rfl ?_
            refine z_bipush (z := 48) C dX10_saysNumber_38 (by decide) ?_
            refine z_iload_n C 1 dX10_saysNumber_40 rfl ?_
            refine z_iload_n C 0 dX10_saysNumber_41 rfl ?_
            refine z_idiv C dX10_saysNumber_42 (by omega) (by omega) (by omega) ?_
            obtain ⟨xy37, exy37, hxy37⟩ : ∃ x9, (vy4).tdiv 1000 = x9 ∧ (0 ≤ vy4 → 0 ≤ x9 ∧ 1000 * x9 ≤ vy4 ∧ vy4 < 1000 * x9 + 1000) ∧ (vy4 ≤ 0 → x9 ≤ 0 ∧ vy4 ≤ 1000 * x9 ∧ 1000 * x9 < vy4 + 1000) := tdk 1000 (by decide)
            rw [exy37]
            refine z_bipush (z := 10) C dX10_saysNumber_43 (by decide) ?_
            refine z_irem C dX10_saysNumber_45 (by omega) (by omega) (by omega) ?_
            refine z_iadd C dX10_saysNumber_46 ?_
            have hey39 : F 51 = F 51 := rfl
            refine z_cV (As := [.int (zI (48 + (xy37.tmod 10)))]) (rest := []) (ci := 12) C (c_X10_says l D A cs tt N ad _ i hN _ hg _ ha24 (by omega) (48 + (xy37.tmod 10))) (by omega) hay1 hg rfl rfl mv_yX10_says q_1850 hd_yX10_says (by decide) (Nat.le_of_ble_eq_true rfl) (by decide) dX10_saysNumber_47 rfl (kV0 fun gvy38 hvy38 => ?_)
            obtain ⟨⟨Fvy38, hcvy38, hnvy38, hFvy38⟩, ⟨tvy38, htvy38⟩, hfvy38⟩ := hvy38
            have hovy38 : F 51 = F 51 := rfl
            have hqvy38 : Fvy38 51 = F 51 + 1 := by omega
            clear hnvy38 hovy38
            refine z_iload_n C 0 dX10_saysNumber_50 rfl ?_
            refine z_bipush (z := 10) C dX10_saysNumber_51 (by decide) ?_
            refine z_idiv C dX10_saysNumber_53 (by decide) (by decide) (by decide) ?_
            rw [show (1000 : Int).tdiv 10 = 100 by decide]
            refine z_istore_n (lv' := [(3, .int (zI (100))), (2, .int (zI (vy4))), (0, .ref (ad i)), (1, .int (zI (z)))]) C dX10_saysNumber_54 rfl (by decide) rfl ?_
            refine z_goto (tgt := 33) C dX10_saysNumber_55 (by decide) ?_
            refine z_iload_n C 0 dX10_saysNumber_33 rfl ?_
            refine z_if_le (tgt := 58) C dX10_saysNumber_34 (by decide) (by omega) (fun h => absurd h (by omega)) (fun _ => ?_)
            refine z_aload_n C 2 dX10_saysNumber_37 rfl ?_
            refine z_bipush (z := 48) C dX10_saysNumber_38 (by decide) ?_
            refine z_iload_n C 1 dX10_saysNumber_40 rfl ?_
            refine z_iload_n C 0 dX10_saysNumber_41 rfl ?_
            refine z_idiv C dX10_saysNumber_42 (by omega) (by omega) (by omega) ?_
            obtain ⟨xy40, exy40, hxy40⟩ : ∃ x9, (vy4).tdiv 100 = x9 ∧ (0 ≤ vy4 → 0 ≤ x9 ∧ 100 * x9 ≤ vy4 ∧ vy4 < 100 * x9 + 100) ∧ (vy4 ≤ 0 → x9 ≤ 0 ∧ vy4 ≤ 100 * x9 ∧ 100 * x9 < vy4 + 100) := tdk 100 (by decide)
            rw [exy40]
            refine z_bipush (z := 10) C dX10_saysNumber_43 (by decide) ?_
            refine z_irem C dX10_saysNumber_45 (by omega) (by omega) (by omega) ?_
            refine z_iadd C dX10_saysNumber_46 ?_
            have hey42 : Fvy38 51 = F 51 + 1 := hqvy38
            refine z_cV (As := [.int (zI (48 + (xy40.tmod 10)))]) (rest := []) (ci := 12) C (c_X10_says l D A cs tt N ad _ i hN _ hcvy38 _ htvy38 (by omega) (48 + (xy40.tmod 10))) (by omega) hay1 hcvy38 rfl rfl mv_yX10_says q_1850 hd_yX10_says (by decide) (Nat.le_of_ble_eq_true rfl) (by decide) dX10_saysNumber_47 rfl (kV0 fun gvy41 hvy41 => ?_)
            obtain ⟨⟨Fvy41, hcvy41, hnvy41, hFvy41⟩, ⟨tvy41, htvy41⟩, hfvy41⟩ := hvy41
            have hovy41 : Fvy38 51 = F 51 + 1 := hqvy38
            have hqvy41 : Fvy41 51 = F 51 + 2 := by omega
            clear hnvy41 hovy41
            refine z_iload_n C 0 dX10_saysNumber_50 rfl ?_
            refine z_bipush (z := 10) C dX10_saysNumber_51 (by decide) ?_
            refine z_idiv C dX10_saysNumber_53 (by decide) (by decide) (by decide) ?_
            rw [show (100 : Int).tdiv 10 = 10 by decide]
            refine z_istore_n (lv' := [(3, .int (zI (10))), (2, .int (zI (vy4))), (0, .ref (ad i)), (1, .int (zI (z)))]) C dX10_saysNumber_54 rfl (by decide) rfl ?_
            refine z_goto (tgt := 33) C dX10_saysNumber_55 (by decide) ?_
            refine z_iload_n C 0 dX10_saysNumber_33 rfl ?_
            refine z_if_le (tgt := 58) C dX10_saysNumber_34 (by decide) (by omega) (fun h => absurd h (by omega)) (fun _ => ?_)
            refine z_aload_n C 2 dX10_saysNumber_37 rfl ?_
            refine z_bipush (z := 48) C dX10_saysNumber_38 (by decide) ?_
            refine z_iload_n C 1 dX10_saysNumber_40 rfl ?_
            refine z_iload_n C 0 dX10_saysNumber_41 rfl ?_
            refine z_idiv C dX10_saysNumber_42 (by omega) (by omega) (by omega) ?_
            obtain ⟨xy43, exy43, hxy43⟩ : ∃ x9, (vy4).tdiv 10 = x9 ∧ (0 ≤ vy4 → 0 ≤ x9 ∧ 10 * x9 ≤ vy4 ∧ vy4 < 10 * x9 + 10) ∧ (vy4 ≤ 0 → x9 ≤ 0 ∧ vy4 ≤ 10 * x9 ∧ 10 * x9 < vy4 + 10) := tdk 10 (by decide)
            rw [exy43]
            refine z_bipush (z := 10) C dX10_saysNumber_43 (by decide) ?_
            refine z_irem C dX10_saysNumber_45 (by omega) (by omega) (by omega) ?_
            refine z_iadd C dX10_saysNumber_46 ?_
            have hey45 : Fvy41 51 = F 51 + 2 := hqvy41
            refine z_cV (As := [.int (zI (48 + (xy43.tmod 10)))]) (rest := []) (ci := 12) C (c_X10_says l D A cs tt N ad _ i hN _ hcvy41 _ htvy41 (by omega) (48 + (xy43.tmod 10))) (by omega) hay1 hcvy41 rfl rfl mv_yX10_says q_1850 hd_yX10_says (by decide) (Nat.le_of_ble_eq_true rfl) (by decide) dX10_saysNumber_47 rfl (kV0 fun gvy44 hvy44 => ?_)
            obtain ⟨⟨Fvy44, hcvy44, hnvy44, hFvy44⟩, ⟨tvy44, htvy44⟩, hfvy44⟩ := hvy44
            have hovy44 : Fvy41 51 = F 51 + 2 := hqvy41
            have hqvy44 : Fvy44 51 = F 51 + 3 := by omega
            clear hnvy44 hovy44
            refine z_iload_n C 0 dX10_saysNumber_50 rfl ?_
            refine z_bipush (z := 10) C dX10_saysNumber_51 (by decide) ?_
            refine z_idiv C dX10_saysNumber_53 (by decide) (by decide) (by decide) ?_
            rw [show (10 : Int).tdiv 10 = 1 by decide]
            refine z_istore_n (lv' := [(3, .int (zI (1))), (2, .int (zI (vy4))), (0, .ref (ad i)), (1, .int (zI (z)))]) C dX10_saysNumber_54 rfl (by decide) rfl ?_
            refine z_goto (tgt := 33) C dX10_saysNumber_55 (by decide) ?_
            refine z_iload_n C 0 dX10_saysNumber_33 rfl ?_
            refine z_if_le (tgt := 58) C dX10_saysNumber_34 (by decide) (by omega) (fun h => absurd h (by omega)) (fun _ => ?_)
            refine z_aload_n C 2 dX10_saysNumber_37 rfl ?_
            refine z_bipush (z := 48) C dX10_saysNumber_38 (by decide) ?_
            refine z_iload_n C 1 dX10_saysNumber_40 rfl ?_
            refine z_iload_n C 0 dX10_saysNumber_41 rfl ?_
            refine z_idiv C dX10_saysNumber_42 (by omega) (by omega) (by omega) ?_
            obtain ⟨xy46, exy46, hxy46⟩ : ∃ x9, (vy4).tdiv 1 = x9 ∧ (0 ≤ vy4 → 0 ≤ x9 ∧ 1 * x9 ≤ vy4 ∧ vy4 < 1 * x9 + 1) ∧ (vy4 ≤ 0 → x9 ≤ 0 ∧ vy4 ≤ 1 * x9 ∧ 1 * x9 < vy4 + 1) := tdk 1 (by decide)
            rw [exy46]
            refine z_bipush (z := 10) C dX10_saysNumber_43 (by decide) ?_
            refine z_irem C dX10_saysNumber_45 (by omega) (by omega) (by omega) ?_
            refine z_iadd C dX10_saysNumber_46 ?_
            have hey48 : Fvy44 51 = F 51 + 3 := hqvy44
            refine z_cV (As := [.int (zI (48 + (xy46.tmod 10)))]) (rest := []) (ci := 12) C (c_X10_says l D A cs tt N ad _ i hN _ hcvy44 _ htvy44 (by omega) (48 + (xy46.tmod 10))) (by omega) hay1 hcvy44 rfl rfl mv_yX10_says q_1850 hd_yX10_says (by decide) (Nat.le_of_ble_eq_true rfl) (by decide) dX10_saysNumber_47 rfl (kV0 fun gvy47 hvy47 => ?_)
            obtain ⟨⟨Fvy47, hcvy47, hnvy47, hFvy47⟩, ⟨tvy47, htvy47⟩, hfvy47⟩ := hvy47
            have hovy47 : Fvy44 51 = F 51 + 3 := hqvy44
            have hqvy47 : Fvy47 51 = F 51 + 4 := by omega
            clear hnvy47 hovy47
            refine z_iload_n C 0 dX10_saysNumber_50 rfl ?_
            refine z_bipush (z := 10) C dX10_saysNumber_51 (by decide) ?_
            refine z_idiv C dX10_saysNumber_53 (by decide) (by decide) (by decide) ?_
            rw [show (1 : Int).tdiv 10 = 0 by decide]
            refine z_istore_n (lv' := [(3, .int (zI (0))), (2, .int (zI (vy4))), (0, .ref (ad i)), (1, .int (zI (z)))]) C dX10_saysNumber_54 rfl (by decide) rfl ?_
            refine z_goto (tgt := 33) C dX10_saysNumber_55 (by decide) ?_
            refine z_iload_n C 0 dX10_saysNumber_33 rfl ?_
            refine z_if_le (tgt := 58) C dX10_saysNumber_34 (by decide) (by omega) (fun _ => ?_) (fun h => absurd h (by omega))
            have hFy49 : ∀ f, f ≠ 51 → Fvy47 f = F f := fun f n51 => ((hFvy47 f n51).trans ((hFvy44 f n51).trans ((hFvy41 f n51).trans (hFvy38 f n51))))
            have hey50 : Fvy47 51 = F 51 + 4 := hqvy47
            exact z_vret C hr hlk dX10_saysNumber_58 (by decide) (by decide) ⟨rfl, rfl, rfl, ⟨_, hcvy47, by omega, hFy49⟩, ⟨_, htvy47⟩, fun j j1 j2 => by rw [hfvy47 _ (by omega) (by omega)]; rw [hfvy44 _ (by omega) (by omega)]; rw [hfvy41 _ (by omega) (by omega)]; rw [hfvy38 _ (by omega) (by omega)]⟩
          · refine z_iload_n C 0 dX10_saysNumber_25 rfl ?_
            refine z_bipush (z := 10) C dX10_saysNumber_26 (by decide) ?_
            refine z_imul C dX10_saysNumber_28 ?_
            rw [show (1000 : Int) * 10 = 10000 by decide]
            refine z_istore_n (lv' := [(3, .int (zI (10000))), (2, .int (zI (vy4))), (0, .ref (ad i)), (1, .int (zI (z)))]) C dX10_saysNumber_29 rfl (by decide) rfl ?_
            refine z_goto (tgt := 17) C dX10_saysNumber_30 (by decide) ?_
            refine z_iload_n C 1 dX10_saysNumber_17 rfl ?_
            refine z_iload_n C 0 dX10_saysNumber_18 rfl ?_
            refine z_idiv C dX10_saysNumber_19 (by omega) (by omega) (by omega) ?_
            obtain ⟨xy51, exy51, hxy51⟩ : ∃ x9, (vy4).tdiv 10000 = x9 ∧ (0 ≤ vy4 → 0 ≤ x9 ∧ 10000 * x9 ≤ vy4 ∧ vy4 < 10000 * x9 + 10000) ∧ (vy4 ≤ 0 → x9 ≤ 0 ∧ vy4 ≤ 10000 * x9 ∧ 10000 * x9 < vy4 + 10000) := tdk 10000 (by decide)
            rw [exy51]
            refine z_bipush (z := 9) C dX10_saysNumber_20 (by decide) ?_
            refine z_icmp_le (tgt := 33) C dX10_saysNumber_22 (by decide) (by omega) (by omega) (fun _ => ?_) (fun h => absurd h (by omega))
            refine z_iload_n C 0 dX10_saysNumber_33 rfl ?_
            refine z_if_le (tgt := 58) C dX10_saysNumber_34 (by decide) (by omega) (fun h => absurd h (by omega)) (fun _ => ?_)
            refine z_aload_n C 2 dX10_saysNumber_37 rfl ?_
            refine z_bipush (z := 48) C dX10_saysNumber_38 (by decide) ?_
            refine z_iload_n C 1 dX10_saysNumber_40 rfl ?_
            refine z_iload_n C 0 dX10_saysNumber_41 rfl ?_
            refine z_idiv C dX10_saysNumber_42 (by omega) (by omega) (by omega) ?_
            obtain ⟨xy52, exy52, hxy52⟩ : ∃ x9, (vy4).tdiv 10000 = x9 ∧ (0 ≤ vy4 → 0 ≤ x9 ∧ 10000 * x9 ≤ vy4 ∧ vy4 < 10000 * x9 + 10000) ∧ (vy4 ≤ 0 → x9 ≤ 0 ∧ vy4 ≤ 10000 * x9 ∧ 10000 * x9 < vy4 + 10000) := tdk 10000 (by decide)
            rw [exy52]
            refine z_bipush (z := 10) C dX10_saysNumber_43 (by decide) ?_
            refine z_irem C dX10_saysNumber_45 (by omega) (by omega) (by omega) ?_
            refine z_iadd C dX10_saysNumber_46 ?_
            have hey54 : F 51 = F 51 := rfl
            refine z_cV (As := [.int (zI (48 + (xy52.tmod 10)))]) (rest := []) (ci := 12) C (c_X10_says l D A cs tt N ad _ i hN _ hg _ ha24 (by omega) (48 + (xy52.tmod 10))) (by omega) hay1 hg rfl rfl mv_yX10_says q_1850 hd_yX10_says (by decide) (Nat.le_of_ble_eq_true rfl) (by decide) dX10_saysNumber_47 rfl (kV0 fun gvy53 hvy53 => ?_)
            obtain ⟨⟨Fvy53, hcvy53, hnvy53, hFvy53⟩, ⟨tvy53, htvy53⟩, hfvy53⟩ := hvy53
            have hovy53 : F 51 = F 51 := rfl
            have hqvy53 : Fvy53 51 = F 51 + 1 := by omega
            clear hnvy53 hovy53
            refine z_iload_n C 0 dX10_saysNumber_50 rfl ?_
            refine z_bipush (z := 10) C dX10_saysNumber_51 (by decide) ?_
            refine z_idiv C dX10_saysNumber_53 (by decide) (by decide) (by decide) ?_
            rw [show (10000 : Int).tdiv 10 = 1000 by decide]
            refine z_istore_n (lv' := [(3, .int (zI (1000))), (2, .int (zI (vy4))), (0, .ref (ad i)), (1, .int (zI (z)))]) C dX10_saysNumber_54 rfl (by decide) rfl ?_
            refine z_goto (tgt := 33) C dX10_saysNumber_55 (by decide) ?_
            refine z_iload_n C 0 dX10_saysNumber_33 rfl ?_
            refine z_if_le (tgt := 58) C dX10_saysNumber_34 (by decide) (by omega) (fun h => absurd h (by omega)) (fun _ => ?_)
            refine z_aload_n C 2 dX10_saysNumber_37 rfl ?_
            refine z_bipush (z := 48) C dX10_saysNumber_38 (by decide) ?_
            refine z_iload_n C 1 dX10_saysNumber_40 rfl ?_
            refine z_iload_n C 0 dX10_saysNumber_41 rfl ?_
            refine z_idiv C dX10_saysNumber_42 (by omega) (by omega) (by omega) ?_
            obtain ⟨xy55, exy55, hxy55⟩ : ∃ x9, (vy4).tdiv 1000 = x9 ∧ (0 ≤ vy4 → 0 ≤ x9 ∧ 1000 * x9 ≤ vy4 ∧ vy4 < 1000 * x9 + 1000) ∧ (vy4 ≤ 0 → x9 ≤ 0 ∧ vy4 ≤ 1000 * x9 ∧ 1000 * x9 < vy4 + 1000) := tdk 1000 (by decide)
            rw [exy55]
            refine z_bipush (z := 10) C dX10_saysNumber_43 (by decide) ?_
            refine z_irem C dX10_saysNumber_45 (by omega) (by omega) (by omega) ?_
            refine z_iadd C dX10_saysNumber_46 ?_
            have hey57 : Fvy53 51 = F 51 + 1 := hqvy53
            refine z_cV (As := [.int (zI (48 + (xy55.tmod 10)))]) (rest := []) (ci := 12) C (c_X10_says l D A cs tt N ad _ i hN _ hcvy53 _ htvy53 (by omega) (48 + (xy55.tmod 10))) (by omega) hay1 hcvy53 rfl rfl mv_yX10_says q_1850 hd_yX10_says (by decide) (Nat.le_of_ble_eq_true rfl) (by decide) dX10_saysNumber_47 rfl (kV0 fun gvy56 hvy56 => ?_)
            obtain ⟨⟨Fvy56, hcvy56, hnvy56, hFvy56⟩, ⟨tvy56, htvy56⟩, hfvy56⟩ := hvy56
            have hovy56 : Fvy53 51 = F 51 + 1 := hqvy53
            have hqvy56 : Fvy56 51 = F 51 + 2 := by omega
            clear hnvy56 hovy56
            refine z_iload_n C 0 dX10_saysNumber_50 rfl ?_
            refine z_bipush (z := 10) C dX10_saysNumber_51 (by decide) ?_
            refine z_idiv C dX10_saysNumber_53 (by decide) (by decide) (by decide) ?_
            rw [show (1000 : Int).tdiv 10 = 100 by decide]
            refine z_istore_n (lv' := [(3, .int (zI (100))), (2, .int (zI (vy4))), (0, .ref (ad i)), (1, .int (zI (z)))]) C dX10_saysNumber_54 rfl (by decide) rfl ?_
            refine z_goto (tgt := 33) C dX10_saysNumber_55 (by decide) ?_
            refine z_iload_n C 0 dX10_saysNumber_33 rfl ?_
            refine z_if_le (tgt := 58) C dX10_saysNumber_34 (by decide) (by omega) (fun h => absurd h (by omega)) (fun _ => ?_)
            refine z_aload_n C 2 dX10_saysNumber_37 rfl ?_
            refine z_bipush (z := 48) C dX10_saysNumber_38 (by decide) ?_
            refine z_iload_n C 1 dX10_saysNumber_40 rfl ?_
            refine z_iload_n C 0 dX10_saysNumber_41 rfl ?_
            refine z_idiv C dX10_saysNumber_42 (by omega) (by omega) (by omega) ?_
            obtain ⟨xy58, exy58, hxy58⟩ : ∃ x9, (vy4).tdiv 100 = x9 ∧ (0 ≤ vy4 → 0 ≤ x9 ∧ 100 * x9 ≤ vy4 ∧ vy4 < 100 * x9 + 100) ∧ (vy4 ≤ 0 → x9 ≤ 0 ∧ vy4 ≤ 100 * x9 ∧ 100 * x9 < vy4 + 100) := tdk 100 (by decide)
            rw [exy58]
            refine z_bipush (z := 10) C dX10_saysNumber_43 (by decide) ?_
            refine z_irem C dX10_saysNumber_45 (by omega) (by omega) (by omega) ?_
            refine z_iadd C dX10_saysNumber_46 ?_
            have hey60 : Fvy56 51 = F 51 + 2 := hqvy56
            refine z_cV (As := [.int (zI (48 + (xy58.tmod 10)))]) (rest := []) (ci := 12) C (c_X10_says l D A cs tt N ad _ i hN _ hcvy56 _ htvy56 (by omega) (48 + (xy58.tmod 10))) (by omega) hay1 hcvy56 rfl rfl mv_yX10_says q_1850 hd_yX10_says (by decide) (Nat.le_of_ble_eq_true rfl) (by decide) dX10_saysNumber_47 rfl (kV0 fun gvy59 hvy59 => ?_)
            obtain ⟨⟨Fvy59, hcvy59, hnvy59, hFvy59⟩, ⟨tvy59, htvy59⟩, hfvy59⟩ := hvy59
            have hovy59 : Fvy56 51 = F 51 + 2 := hqvy56
            have hqvy59 : Fvy59 51 = F 51 + 3 := by omega
            clear hnvy59 hovy59
            refine z_iload_n C 0 dX10_saysNumber_50 rfl ?_
            refine z_bipush (z := 10) C dX10_saysNumber_51 (by decide) ?_
            refine z_idiv C dX10_saysNumber_53 (by decide) (by decide) (by decide) ?_
            rw [show (100 : Int).tdiv 10 = 10 by decide]
            refine z_istore_n (lv' := [(3, .int (zI (10))), (2, .int (zI (vy4))), (0, .ref (ad i)), (1, .int (zI (z)))]) C dX10_saysNumber_54 rfl (by decide) rfl ?_
            refine z_goto (tgt := 33) C dX10_saysNumber_55 (by decide) ?_
            refine z_iload_n C 0 dX10_saysNumber_33 rfl ?_
            refine z_if_le (tgt := 58) C dX10_saysNumber_34 (by decide) (by omega) (fun h => absurd h (by omega)) (fun _ => ?_)
            refine z_aload_n C 2 dX10_saysNumber_37 rfl ?_
            refine z_bipush (z := 48) C dX10_saysNumber_38 (by decide) ?_
            refine z_iload_n C 1 dX10_saysNumber_40 rfl ?_
            refine z_iload_n C 0 dX10_saysNumber_41 rfl ?_
            refine z_idiv C dX10_saysNumber_42 (by omega) (by omega) (by omega) ?_
            obtain ⟨xy61, exy61, hxy61⟩ : ∃ x9, (vy4).tdiv 10 = x9 ∧ (0 ≤ vy4 → 0 ≤ x9 ∧ 10 * x9 ≤ vy4 ∧ vy4 < 10 * x9 + 10) ∧ (vy4 ≤ 0 → x9 ≤ 0 ∧ vy4 ≤ 10 * x9 ∧ 10 * x9 < vy4 + 10) := tdk 10 (by decide)
            rw [exy61]
            refine z_bipush (z := 10) C dX10_saysNumber_43 (by decide) ?_
            refine z_irem C dX10_saysNumber_45 (by omega) (by omega) (by omega) ?_
            refine z_iadd C dX10_saysNumber_46 ?_
            have hey63 : Fvy59 51 = F 51 + 3 := hqvy59
            refine z_cV (As := [.int (zI (48 + (xy61.tmod 10)))]) (rest := []) (ci := 12) C (c_X10_says l D A cs tt N ad _ i hN _ hcvy59 _ htvy59 (by omega) (48 + (xy61.tmod 10))) (by omega) hay1 hcvy59 rfl rfl mv_yX10_says q_1850 hd_yX10_says (by decide) (Nat.le_of_ble_eq_true rfl) (by decide) dX10_saysNumber_47 rfl (kV0 fun gvy62 hvy62 => ?_)
            obtain ⟨⟨Fvy62, hcvy62, hnvy62, hFvy62⟩, ⟨tvy62, htvy62⟩, hfvy62⟩ := hvy62
            have hovy62 : Fvy59 51 = F 51 + 3 := hqvy59
            have hqvy62 : Fvy62 51 = F 51 + 4 := by omega
            clear hnvy62 hovy62
            refine z_iload_n C 0 dX10_saysNumber_50 rfl ?_
            refine z_bipush (z := 10) C dX10_saysNumber_51 (by decide) ?_
            refine z_idiv C dX10_saysNumber_53 (by decide) (by decide) (by decide) ?_
            rw [show (10 : Int).tdiv 10 = 1 by decide]
            refine z_istore_n (lv' := [(3, .int (zI (1))), (2, .int (zI (vy4))), (0, .ref (ad i)), (1, .int (zI (z)))]) C dX10_saysNumber_54 rfl (by decide) rfl ?_
            refine z_goto (tgt := 33) C dX10_saysNumber_55 (by decide) ?_
            refine z_iload_n C 0 dX10_saysNumber_33 rfl ?_
            refine z_if_le (tgt := 58) C dX10_saysNumber_34 (by decide) (by omega) (fun h => absurd h (by omega)) (fun _ => ?_)
            refine z_aload_n C 2 dX10_saysNumber_37 rfl ?_
            refine z_bipush (z := 48) C dX10_saysNumber_38 (by decide) ?_
            refine z_iload_n C 1 dX10_saysNumber_40 rfl ?_
            refine z_iload_n C 0 dX10_saysNumber_41 rfl ?_
            refine z_idiv C dX10_saysNumber_42 (by omega) (by omega) (by omega) ?_
            obtain ⟨xy64, exy64, hxy64⟩ : ∃ x9, (vy4).tdiv 1 = x9 ∧ (0 ≤ vy4 → 0 ≤ x9 ∧ 1 * x9 ≤ vy4 ∧ vy4 < 1 * x9 + 1) ∧ (vy4 ≤ 0 → x9 ≤ 0 ∧ vy4 ≤ 1 * x9 ∧ 1 * x9 < vy4 + 1) := tdk 1 (by decide)
            rw [exy64]
            refine z_bipush (z := 10) C dX10_saysNumber_43 (by decide) ?_
            refine z_irem C dX10_saysNumber_45 (by omega) (by omega) (by omega) ?_
            refine z_iadd C dX10_saysNumber_46 ?_
            have hey66 : Fvy62 51 = F 51 + 4 := hqvy62
            refine z_cV (As := [.int (zI (48 + (xy64.tmod 10)))]) (rest := []) (ci := 12) C (c_X10_says l D A cs tt N ad _ i hN _ hcvy62 _ htvy62 (by omega) (48 + (xy64.tmod 10))) (by omega) hay1 hcvy62 rfl rfl mv_yX10_says q_1850 hd_yX10_says (by decide) (Nat.le_of_ble_eq_true rfl) (by decide) dX10_saysNumber_47 rfl (kV0 fun gvy65 hvy65 => ?_)
            obtain ⟨⟨Fvy65, hcvy65, hnvy65, hFvy65⟩, ⟨tvy65, htvy65⟩, hfvy65⟩ := hvy65
            have hovy65 : Fvy62 51 = F 51 + 4 := hqvy62
            have hqvy65 : Fvy65 51 = F 51 + 5 := by omega
            clear hnvy65 hovy65
            refine z_iload_n C 0 dX10_saysNumber_50 rfl ?_
            refine z_bipush (z := 10) C dX10_saysNumber_51 (by decide) ?_
            refine z_idiv C dX10_saysNumber_53 (by decide) (by decide) (by decide) ?_
            rw [show (1 : Int).tdiv 10 = 0 by decide]
            refine z_istore_n (lv' := [(3, .int (zI (0))), (2, .int (zI (vy4))), (0, .ref (ad i)), (1, .int (zI (z)))]) C dX10_saysNumber_54 rfl (by decide) rfl ?_
            refine z_goto (tgt := 33) C dX10_saysNumber_55 (by decide) ?_
            refine z_iload_n C 0 dX10_saysNumber_33 rfl ?_
            refine z_if_le (tgt := 58) C dX10_saysNumber_34 (by decide) (by omega) (fun _ => ?_) (fun h => absurd h (by omega))
            have hFy67 : ∀ f, f ≠ 51 → Fvy65 f = F f := fun f n51 => ((hFvy65 f n51).trans ((hFvy62 f n51).trans ((hFvy59 f n51).trans ((hFvy56 f n51).trans (hFvy53 f n51)))))
            have hey68 : Fvy65 51 = F 51 + 5 := hqvy65
            exact z_vret C hr hlk dX10_saysNumber_58 (by decide) (by decide) ⟨rfl, rfl, rfl, ⟨_, hcvy65, by omega, hFy67⟩, ⟨_, htvy65⟩, fun j j1 j2 => by rw [hfvy65 _ (by omega) (by omega)]; rw [hfvy62 _ (by omega) (by omega)]; rw [hfvy59 _ (by omega) (by omega)]; rw [hfvy56 _ (by omega) (by omega)]; rw [hfvy53 _ (by omega) (by omega)]⟩
  · refine z_aload_n C 0 dX10_saysNumber_4 rfl ?_
    refine z_bipush (z := 45) C dX10_saysNumber_5 (by decide) ?_
    have hey70 : F 51 = F 51 := rfl
    refine z_cV (As := [.int (zI (45))]) (rest := []) (ci := 12) C (c_X10_says l D A cs tt N ad _ i hN _ hg _ ha24 (by omega) (45)) (by omega) hay1 hg rfl rfl mv_yX10_says q_1850 hd_yX10_says (by decide) (Nat.le_of_ble_eq_true rfl) (by decide) dX10_saysNumber_7 rfl (kV0 fun gvy69 hvy69 => ?_)
    obtain ⟨⟨Fvy69, hcvy69, hnvy69, hFvy69⟩, ⟨tvy69, htvy69⟩, hfvy69⟩ := hvy69
    have hovy69 : F 51 = F 51 := rfl
    have hqvy69 : Fvy69 51 = F 51 + 1 := by omega
    clear hnvy69 hovy69
    refine z_iload_n C 1 dX10_saysNumber_10 rfl ?_
    refine z_cS (As := [.int (zI (z))]) (rest := []) C (c_X10_spanX l D A cs tt N ad _ (z) (by omega)) ms_yX10_span q_1839 hd_yX10_span (by decide) (Nat.le_of_ble_eq_true rfl) (by decide) dX10_saysNumber_11 rfl (kI0 fun vy71 gvy71 hvy71 => ?_)
    obtain ⟨hvy71, rfl⟩ := hvy71
    refine z_istore_n (lv' := [(2, .int (zI (vy71))), (0, .ref (ad i)), (1, .int (zI (z)))]) C dX10_saysNumber_14 rfl (by decide) rfl ?_
    refine z_iconst (z := 1) C dX10_saysNumber_15 rfl ?_
    refine z_istore_n (lv' := [(3, .int (zI (1))), (2, .int (zI (vy71))), (0, .ref (ad i)), (1, .int (zI (z)))]) C dX10_saysNumber_16 rfl (by decide) rfl ?_
    refine z_iload_n C 1 dX10_saysNumber_17 rfl ?_
    refine z_iload_n C 0 dX10_saysNumber_18 rfl ?_
    refine z_idiv C dX10_saysNumber_19 (by omega) (by omega) (by omega) ?_
    obtain ⟨xy72, exy72, hxy72⟩ : ∃ x9, (vy71).tdiv 1 = x9 ∧ (0 ≤ vy71 → 0 ≤ x9 ∧ 1 * x9 ≤ vy71 ∧ vy71 < 1 * x9 + 1) ∧ (vy71 ≤ 0 → x9 ≤ 0 ∧ vy71 ≤ 1 * x9 ∧ 1 * x9 < vy71 + 1) := tdk 1 (by decide)
    rw [exy72]
    refine z_bipush (z := 9) C dX10_saysNumber_20 (by decide) ?_
    refine z_icmp_le (tgt := 33) C dX10_saysNumber_22 (by decide) (by omega) (by omega) (fun hby73 => ?_) (fun hby73 => ?_)
    · refine z_iload_n C 0 dX10_saysNumber_33 rfl ?_
      refine z_if_le (tgt := 58) C dX10_saysNumber_34 (by decide) (by omega) (fun h => absurd h (by omega)) (fun _ => ?_)
      refine z_aload_n C 2 dX10_saysNumber_37 rfl ?_
      refine z_bipush (z := 48) C dX10_saysNumber_38 (by decide) ?_
      refine z_iload_n C 1 dX10_saysNumber_40 rfl ?_
      refine z_iload_n C 0 dX10_saysNumber_41 rfl ?_
      refine z_idiv C dX10_saysNumber_42 (by omega) (by omega) (by omega) ?_
      obtain ⟨xy74, exy74, hxy74⟩ : ∃ x9, (vy71).tdiv 1 = x9 ∧ (0 ≤ vy71 → 0 ≤ x9 ∧ 1 * x9 ≤ vy71 ∧ vy71 < 1 * x9 + 1) ∧ (vy71 ≤ 0 → x9 ≤ 0 ∧ vy71 ≤ 1 * x9 ∧ 1 * x9 < vy71 + 1) := tdk 1 (by decide)
      rw [exy74]
      refine z_bipush (z := 10) C dX10_saysNumber_43 (by decide) ?_
      refine z_irem C dX10_saysNumber_45 (by omega) (by omega) (by omega) ?_
      refine z_iadd C dX10_saysNumber_46 ?_
      have hey76 : Fvy69 51 = F 51 + 1 := hqvy69
      refine z_cV (As := [.int (zI (48 + (xy74.tmod 10)))]) (rest := []) (ci := 12) C (c_X10_says l D A cs tt N ad _ i hN _ hcvy69 _ htvy69 (by omega) (48 + (xy74.tmod 10))) (by omega) hay1 hcvy69 rfl rfl mv_yX10_says q_1850 hd_yX10_says (by decide) (Nat.le_of_ble_eq_true rfl) (by decide) dX10_saysNumber_47 rfl (kV0 fun gvy75 hvy75 => ?_)
      obtain ⟨⟨Fvy75, hcvy75, hnvy75, hFvy75⟩, ⟨tvy75, htvy75⟩, hfvy75⟩ := hvy75
      have hovy75 : Fvy69 51 = F 51 + 1 := hqvy69
      have hqvy75 : Fvy75 51 = F 51 + 2 := by omega
      clear hnvy75 hovy75
      refine z_iload_n C 0 dX10_saysNumber_50 rfl ?_
      refine z_bipush (z := 10) C dX10_saysNumber_51 (by decide) ?_
      refine z_idiv C dX10_saysNumber_53 (by decide) (by decide) (by decide) ?_
      rw [show (1 : Int).tdiv 10 = 0 by decide]
      refine z_istore_n (lv' := [(3, .int (zI (0))), (2, .int (zI (vy71))), (0, .ref (ad i)), (1, .int (zI (z)))]) C dX10_saysNumber_54 rfl (by decide) rfl ?_
      refine z_goto (tgt := 33) C dX10_saysNumber_55 (by decide) ?_
      refine z_iload_n C 0 dX10_saysNumber_33 rfl ?_
      refine z_if_le (tgt := 58) C dX10_saysNumber_34 (by decide) (by omega) (fun _ => ?_) (fun h => absurd h (by omega))
      have hFy77 : ∀ f, f ≠ 51 → Fvy75 f = F f := fun f n51 => ((hFvy75 f n51).trans (hFvy69 f n51))
      have hey78 : Fvy75 51 = F 51 + 2 := hqvy75
      exact z_vret C hr hlk dX10_saysNumber_58 (by decide) (by decide) ⟨rfl, rfl, rfl, ⟨_, hcvy75, by omega, hFy77⟩, ⟨_, htvy75⟩, fun j j1 j2 => by rw [hfvy75 _ (by omega) (by omega)]; rw [hfvy69 _ (by omega) (by omega)]⟩
    · refine z_iload_n C 0 dX10_saysNumber_25 rfl ?_
      refine z_bipush (z := 10) C dX10_saysNumber_26 (by decide) ?_
      refine z_imul C dX10_saysNumber_28 ?_
      rw [show (1 : Int) * 10 = 10 by decide]
      refine z_istore_n (lv' := [(3, .int (zI (10))), (2, .int (zI (vy71))), (0, .ref (ad i)), (1, .int (zI (z)))]) C dX10_saysNumber_29 rfl (by decide) rfl ?_
      refine z_goto (tgt := 17) C dX10_saysNumber_30 (by decide) ?_
      refine z_iload_n C 1 dX10_saysNumber_17 rfl ?_
      refine z_iload_n C 0 dX10_saysNumber_18 rfl ?_
      refine z_idiv C dX10_saysNumber_19 (by omega) (by omega) (by omega) ?_
      obtain ⟨xy79, exy79, hxy79⟩ : ∃ x9, (vy71).tdiv 10 = x9 ∧ (0 ≤ vy71 → 0 ≤ x9 ∧ 10 * x9 ≤ vy71 ∧ vy71 < 10 * x9 + 10) ∧ (vy71 ≤ 0 → x9 ≤ 0 ∧ vy71 ≤ 10 * x9 ∧ 10 * x9 < vy71 + 10) := tdk 10 (by decide)
      rw [exy79]
      refine z_bipush (z := 9) C dX10_saysNumber_20 (by decide) ?_
      refine z_icmp_le (tgt := 33) C dX10_saysNumber_22 (by decide) (by omega) (by omega) (fun hby80 => ?_) (fun hby80 => ?_)
      · refine z_iload_n C 0 dX10_saysNumber_33 rfl ?_
        refine z_if_le (tgt := 58) C dX10_saysNumber_34 (by decide) (by omega) (fun h => absurd h (by omega)) (fun _ => ?_)
        refine z_aload_n C 2 dX10_saysNumber_37 rfl ?_
        refine z_bipush (z := 48) C dX10_saysNumber_38 (by decide) ?_
        refine z_iload_n C 1 dX10_saysNumber_40 rfl ?_
        refine z_iload_n C 0 dX10_saysNumber_41 rfl ?_
        refine z_idiv C dX10_saysNumber_42 (by omega) (by omega) (by omega) ?_
        obtain ⟨xy81, exy81, hxy81⟩ : ∃ x9, (vy71).tdiv 10 = x9 ∧ (0 ≤ vy71 → 0 ≤ x9 ∧ 10 * x9 ≤ vy71 ∧ vy71 < 10 * x9 + 10) ∧ (vy71 ≤ 0 → x9 ≤ 0 ∧ vy71 ≤ 10 * x9 ∧ 10 * x9 < vy71 + 10) := tdk 10 (by decide)
        rw [exy81]
        refine z_bipush (z := 10) C dX10_saysNumber_43 (by decide) ?_
        refine z_irem C dX10_saysNumber_45 (by omega) (by omega) (by omega) ?_
        refine z_iadd C dX10_saysNumber_46 ?_
        have hey83 : Fvy69 51 = F 51 + 1 := hqvy69
        refine z_cV (As := [.int (zI (48 + (xy81.tmod 10)))]) (rest := []) (ci := 12) C (c_X10_says l D A cs tt N ad _ i hN _ hcvy69 _ htvy69 (by omega) (48 + (xy81.tmod 10))) (by omega) hay1 hcvy69 rfl rfl mv_yX10_says q_1850 hd_yX10_says (by decide) (Nat.le_of_ble_eq_true rfl) (by decide) dX10_saysNumber_47 rfl (kV0 fun gvy82 hvy82 => ?_)
        obtain ⟨⟨Fvy82, hcvy82, hnvy82, hFvy82⟩, ⟨tvy82, htvy82⟩, hfvy82⟩ := hvy82
        have hovy82 : Fvy69 51 = F 51 + 1 := hqvy69
        have hqvy82 : Fvy82 51 = F 51 + 2 := by omega
        clear hnvy82 hovy82
        refine z_iload_n C 0 dX10_saysNumber_50 rfl ?_
        refine z_bipush (z := 10) C dX10_saysNumber_51 (by decide) ?_
        refine z_idiv C dX10_saysNumber_53 (by decide) (by decide) (by decide) ?_
        rw [show (10 : Int).tdiv 10 = 1 by decide]
        refine z_istore_n (lv' := [(3, .int (zI (1))), (2, .int (zI (vy71))), (0, .ref (ad i)), (1, .int (zI (z)))]) C dX10_saysNumber_54 rfl (by decide) rfl ?_
        refine z_goto (tgt := 33) C dX10_saysNumber_55 (by decide) ?_
        refine z_iload_n C 0 dX10_saysNumber_33 rfl ?_
        refine z_if_le (tgt := 58) C dX10_saysNumber_34 (by decide) (by omega) (fun h => absurd h (by omega)) (fun _ => ?_)
        refine z_aload_n C 2 dX10_saysNumber_37 rfl ?_
        refine z_bipush (z := 48) C dX10_saysNumber_38 (by decide) ?_
        refine z_iload_n C 1 dX10_saysNumber_40 rfl ?_
        refine z_iload_n C 0 dX10_saysNumber_41 rfl ?_
        refine z_idiv C dX10_saysNumber_42 (by omega) (by omega) (by omega) ?_
        obtain ⟨xy84, exy84, hxy84⟩ : ∃ x9, (vy71).tdiv 1 = x9 ∧ (0 ≤ vy71 → 0 ≤ x9 ∧ 1 * x9 ≤ vy71 ∧ vy71 < 1 * x9 + 1) ∧ (vy71 ≤ 0 → x9 ≤ 0 ∧ vy71 ≤ 1 * x9 ∧ 1 * x9 < vy71 + 1) := tdk 1 (by decide)
        rw [exy84]
        refine z_bipush (z := 10) C dX10_saysNumber_43 (by decide) ?_
        refine z_irem C dX10_saysNumber_45 (by omega) (by omega) (by omega) ?_
        refine z_iadd C dX10_saysNumber_46 ?_
        have hey86 : Fvy82 51 = F 51 + 2 := hqvy82
        refine z_cV (As := [.int (zI (48 + (xy84.tmod 10)))]) (rest := []) (ci := 12) C (c_X10_says l D A cs tt N ad _ i hN _ hcvy82 _ htvy82 (by omega) (48 + (xy84.tmod 10))) (by omega) hay1 hcvy82 rfl rfl mv_yX10_says q_1850 hd_yX10_says (by decide) (Nat.le_of_ble_eq_true rfl) (by decide) dX10_saysNumber_47 rfl (kV0 fun gvy85 hvy85 => ?_)
        obtain ⟨⟨Fvy85, hcvy85, hnvy85, hFvy85⟩, ⟨tvy85, htvy85⟩, hfvy85⟩ := hvy85
        have hovy85 : Fvy82 51 = F 51 + 2 := hqvy82
        have hqvy85 : Fvy85 51 = F 51 + 3 := by omega
        clear hnvy85 hovy85
        refine z_iload_n C 0 dX10_saysNumber_50 rfl ?_
        refine z_bipush (z := 10) C dX10_saysNumber_51 (by decide) ?_
        refine z_idiv C dX10_saysNumber_53 (by decide) (by decide) (by decide) ?_
        rw [show (1 : Int).tdiv 10 = 0 by decide]
        refine z_istore_n (lv' := [(3, .int (zI (0))), (2, .int (zI (vy71))), (0, .ref (ad i)), (1, .int (zI (z)))]) C dX10_saysNumber_54 rfl (by decide) rfl ?_
        refine z_goto (tgt := 33) C dX10_saysNumber_55 (by decide) ?_
        refine z_iload_n C 0 dX10_saysNumber_33 rfl ?_
        refine z_if_le (tgt := 58) C dX10_saysNumber_34 (by decide) (by omega) (fun _ => ?_) (fun h => absurd h (by omega))
        have hFy87 : ∀ f, f ≠ 51 → Fvy85 f = F f := fun f n51 => ((hFvy85 f n51).trans ((hFvy82 f n51).trans (hFvy69 f n51)))
        have hey88 : Fvy85 51 = F 51 + 3 := hqvy85
        exact z_vret C hr hlk dX10_saysNumber_58 (by decide) (by decide) ⟨rfl, rfl, rfl, ⟨_, hcvy85, by omega, hFy87⟩, ⟨_, htvy85⟩, fun j j1 j2 => by rw [hfvy85 _ (by omega) (by omega)]; rw [hfvy82 _ (by omega) (by omega)]; rw [hfvy69 _ (by omega) (by omega)]⟩
      · refine z_iload_n C 0 dX10_saysNumber_25 rfl ?_
        refine z_bipush (z := 10) C dX10_saysNumber_26 (by decide) ?_
        refine z_imul C dX10_saysNumber_28 ?_
        rw [show (10 : Int) * 10 = 100 by decide]
        refine z_istore_n (lv' := [(3, .int (zI (100))), (2, .int (zI (vy71))), (0, .ref (ad i)), (1, .int (zI (z)))]) C dX10_saysNumber_29 rfl (by decide) rfl ?_
        refine z_goto (tgt := 17) C dX10_saysNumber_30 (by decide) ?_
        refine z_iload_n C 1 dX10_saysNumber_17 rfl ?_
        refine z_iload_n C 0 dX10_saysNumber_18 rfl ?_
        refine z_idiv C dX10_saysNumber_19 (by omega) (by omega) (by omega) ?_
        obtain ⟨xy89, exy89, hxy89⟩ : ∃ x9, (vy71).tdiv 100 = x9 ∧ (0 ≤ vy71 → 0 ≤ x9 ∧ 100 * x9 ≤ vy71 ∧ vy71 < 100 * x9 + 100) ∧ (vy71 ≤ 0 → x9 ≤ 0 ∧ vy71 ≤ 100 * x9 ∧ 100 * x9 < vy71 + 100) := tdk 100 (by decide)
        rw [exy89]
        refine z_bipush (z := 9) C dX10_saysNumber_20 (by decide) ?_
        refine z_icmp_le (tgt := 33) C dX10_saysNumber_22 (by decide) (by omega) (by omega) (fun hby90 => ?_) (fun hby90 => ?_)
        · refine z_iload_n C 0 dX10_saysNumber_33 rfl ?_
          refine z_if_le (tgt := 58) C dX10_saysNumber_34 (by decide) (by omega) (fun h => absurd h (by omega)) (fun _ => ?_)
          refine z_aload_n C 2 dX10_saysNumber_37 rfl ?_
          refine z_bipush (z := 48) C dX10_saysNumber_38 (by decide) ?_
          refine z_iload_n C 1 dX10_saysNumber_40 rfl ?_
          refine z_iload_n C 0 dX10_saysNumber_41 rfl ?_
          refine z_idiv C dX10_saysNumber_42 (by omega) (by omega) (by omega) ?_
          obtain ⟨xy91, exy91, hxy91⟩ : ∃ x9, (vy71).tdiv 100 = x9 ∧ (0 ≤ vy71 → 0 ≤ x9 ∧ 100 * x9 ≤ vy71 ∧ vy71 < 100 * x9 + 100) ∧ (vy71 ≤ 0 → x9 ≤ 0 ∧ vy71 ≤ 100 * x9 ∧ 100 * x9 < vy71 + 100) := tdk 100 (by decide)
          rw [exy91]
          refine z_bipush (z := 10) C dX10_saysNumber_43 (by decide) ?_
          refine z_irem C dX10_saysNumber_45 (by omega) (by omega) (by omega) ?_
          refine z_iadd C dX10_saysNumber_46 ?_
          have hey93 : Fvy69 51 = F 51 + 1 := hqvy69
          refine z_cV (As := [.int (zI (48 + (xy91.tmod 10)))]) (rest := []) (ci := 12) C (c_X10_says l D A cs tt N ad _ i hN _ hcvy69 _ htvy69 (by omega) (48 + (xy91.tmod 10))) (by omega) hay1 hcvy69 rfl rfl mv_yX10_says q_1850 hd_yX10_says (by decide) (Nat.le_of_ble_eq_true rfl) (by decide) dX10_saysNumber_47 rfl (kV0 fun gvy92 hvy92 => ?_)
          obtain ⟨⟨Fvy92, hcvy92, hnvy92, hFvy92⟩, ⟨tvy92, htvy92⟩, hfvy92⟩ := hvy92
          have hovy92 : Fvy69 51 = F 51 + 1 := hqvy69
          have hqvy92 : Fvy92 51 = F 51 + 2 := by omega
          clear hnvy92 hovy92
          refine z_iload_n C 0 dX10_saysNumber_50 rfl ?_
          refine z_bipush (z := 10) C dX10_saysNumber_51 (by decide) ?_
          refine z_idiv C dX10_saysNumber_53 (by decide) (by decide) (by decide) ?_
          rw [show (100 : Int).tdiv 10 = 10 by decide]
          refine z_istore_n (lv' := [(3, .int (zI (10))), (2, .int (zI (vy71))), (0, .ref (ad i)), (1, .int (zI (z)))]) C dX10_saysNumber_54 rfl (by decide) rfl ?_
          refine z_goto (tgt := 33) C dX10_saysNumber_55 (by decide) ?_
          refine z_iload_n C 0 dX10_saysNumber_33 rfl ?_
          refine z_if_le (tgt := 58) C dX10_saysNumber_34 (by decide) (by omega) (fun h => absurd h (by omega)) (fun _ => ?_)
          refine z_aload_n C 2 dX10_saysNumber_37 rfl ?_
          refine z_bipush (z := 48) C dX10_saysNumber_38 (by decide) ?_
          refine z_iload_n C 1 dX10_saysNumber_40 rfl ?_
          refine z_iload_n C 0 dX10_saysNumber_41 rfl ?_
          refine z_idiv C dX10_saysNumber_42 (by omega) (by omega) (by omega) ?_
          obtain ⟨xy94, exy94, hxy94⟩ : ∃ x9, (vy71).tdiv 10 = x9 ∧ (0 ≤ vy71 → 0 ≤ x9 ∧ 10 * x9 ≤ vy71 ∧ vy71 < 10 * x9 + 10) ∧ (vy71 ≤ 0 → x9 ≤ 0 ∧ vy71 ≤ 10 * x9 ∧ 10 * x9 < vy71 + 10) := tdk 10 (by decide)
          rw [exy94]
          refine z_bipush (z := 10) C dX10_saysNumber_43 (by decide) ?_
          refine z_irem C dX10_saysNumber_45 (by omega) (by omega) (by omega) ?_
          refine z_iadd C dX10_saysNumber_46 ?_
          have hey96 : Fvy92 51 = F 51 + 2 := hqvy92
          refine z_cV (As := [.int (zI (48 + (xy94.tmod 10)))]) (rest := []) (ci := 12) C (c_X10_says l D A cs tt N ad _ i hN _ hcvy92 _ htvy92 (by omega) (48 + (xy94.tmod 10))) (by omega) hay1 hcvy92 rfl rfl mv_yX10_says q_1850 hd_yX10_says (by decide) (Nat.le_of_ble_eq_true rfl) (by decide) dX10_saysNumber_47 rfl (kV0 fun gvy95 hvy95 => ?_)
          obtain ⟨⟨Fvy95, hcvy95, hnvy95, hFvy95⟩, ⟨tvy95, htvy95⟩, hfvy95⟩ := hvy95
          have hovy95 : Fvy92 51 = F 51 + 2 := hqvy92
          have hqvy95 : Fvy95 51 = F 51 + 3 := by omega
          clear hnvy95 hovy95
          refine z_iload_n C 0 dX10_saysNumber_50 rfl ?_
          refine z_bipush (z := 10) C dX10_saysNumber_51 (by decide) ?_
          refine z_idiv C dX10_saysNumber_53 (by decide) (by decide) (by decide) ?_
          rw [show (10 : Int).tdiv 10 = 1 by decide]
          refine z_istore_n (lv' := [(3, .int (zI (1))), (2, .int (zI (vy71))), (0, .ref (ad i)), (1, .int (zI (z)))]) C dX10_saysNumber_54 rfl (by decide) rfl ?_
          refine z_goto (tgt := 33) C dX10_saysNumber_55 (by decide) ?_
          refine z_iload_n C 0 dX10_saysNumber_33 rfl ?_
          refine z_if_le (tgt := 58) C dX10_saysNumber_34 (by decide) (by omega) (fun h => absurd h (by omega)) (fun _ => ?_)
          refine z_aload_n C 2 dX10_saysNumber_37 rfl ?_
          refine z_bipush (z := 48) C dX10_saysNumber_38 (by decide) ?_
          refine z_iload_n C 1 dX10_saysNumber_40 rfl ?_
          refine z_iload_n C 0 dX10_saysNumber_41 rfl ?_
          refine z_idiv C dX10_saysNumber_42 (by omega) (by omega) (by omega) ?_
          obtain ⟨xy97, exy97, hxy97⟩ : ∃ x9, (vy71).tdiv 1 = x9 ∧ (0 ≤ vy71 → 0 ≤ x9 ∧ 1 * x9 ≤ vy71 ∧ vy71 < 1 * x9 + 1) ∧ (vy71 ≤ 0 → x9 ≤ 0 ∧ vy71 ≤ 1 * x9 ∧ 1 * x9 < vy71 + 1) := tdk 1 (by decide)
          rw [exy97]
          refine z_bipush (z := 10) C dX10_saysNumber_43 (by decide) ?_
          refine z_irem C dX10_saysNumber_45 (by omega) (by omega) (by omega) ?_
          refine z_iadd C dX10_saysNumber_46 ?_
          have hey99 : Fvy95 51 = F 51 + 3 := hqvy95
          refine z_cV (As := [.int (zI (48 + (xy97.tmod 10)))]) (rest := []) (ci := 12) C (c_X10_says l D A cs tt N ad _ i hN _ hcvy95 _ htvy95 (by omega) (48 + (xy97.tmod 10))) (by omega) hay1 hcvy95 rfl rfl mv_yX10_says q_1850 hd_yX10_says (by decide) (Nat.le_of_ble_eq_true rfl) (by decide) dX10_saysNumber_47 rfl (kV0 fun gvy98 hvy98 => ?_)
          obtain ⟨⟨Fvy98, hcvy98, hnvy98, hFvy98⟩, ⟨tvy98, htvy98⟩, hfvy98⟩ := hvy98
          have hovy98 : Fvy95 51 = F 51 + 3 := hqvy95
          have hqvy98 : Fvy98 51 = F 51 + 4 := by omega
          clear hnvy98 hovy98
          refine z_iload_n C 0 dX10_saysNumber_50 rfl ?_
          refine z_bipush (z := 10) C dX10_saysNumber_51 (by decide) ?_
          refine z_idiv C dX10_saysNumber_53 (by decide) (by decide) (by decide) ?_
          rw [show (1 : Int).tdiv 10 = 0 by decide]
          refine z_istore_n (lv' := [(3, .int (zI (0))), (2, .int (zI (vy71))), (0, .ref (ad i)), (1, .int (zI (z)))]) C dX10_saysNumber_54 rfl (by decide) rfl ?_
          refine z_goto (tgt := 33) C dX10_saysNumber_55 (by decide) ?_
          refine z_iload_n C 0 dX10_saysNumber_33 rfl ?_
          refine z_if_le (tgt := 58) C dX10_saysNumber_34 (by decide) (by omega) (fun _ => ?_) (fun h => absurd h (by omega))
          have hFy100 : ∀ f, f ≠ 51 → Fvy98 f = F f := fun f n51 => ((hFvy98 f n51).trans ((hFvy95 f n51).trans ((hFvy92 f n51).trans (hFvy69 f n51))))
          have hey101 : Fvy98 51 = F 51 + 4 := hqvy98
          exact z_vret C hr hlk dX10_saysNumber_58 (by decide) (by decide) ⟨rfl, rfl, rfl, ⟨_, hcvy98, by omega, hFy100⟩, ⟨_, htvy98⟩, fun j j1 j2 => by rw [hfvy98 _ (by omega) (by omega)]; rw [hfvy95 _ (by omega) (by omega)]; rw [hfvy92 _ (by omega) (by omega)]; rw [hfvy69 _ (by omega) (by omega)]⟩
        · refine z_iload_n C 0 dX10_saysNumber_25 rfl ?_
          refine z_bipush (z := 10) C dX10_saysNumber_26 (by decide) ?_
          refine z_imul C dX10_saysNumber_28 ?_
          rw [show (100 : Int) * 10 = 1000 by decide]
          refine z_istore_n (lv' := [(3, .int (zI (1000))), (2, .int (zI (vy71))), (0, .ref (ad i)), (1, .int (zI (z)))]) C dX10_saysNumber_29 rfl (by decide) rfl ?_
          refine z_goto (tgt := 17) C dX10_saysNumber_30 (by decide) ?_
          refine z_iload_n C 1 dX10_saysNumber_17 rfl ?_
          refine z_iload_n C 0 dX10_saysNumber_18 rfl ?_
          refine z_idiv C dX10_saysNumber_19 (by omega) (by omega) (by omega) ?_
          obtain ⟨xy102, exy102, hxy102⟩ : ∃ x9, (vy71).tdiv 1000 = x9 ∧ (0 ≤ vy71 → 0 ≤ x9 ∧ 1000 * x9 ≤ vy71 ∧ vy71 < 1000 * x9 + 1000) ∧ (vy71 ≤ 0 → x9 ≤ 0 ∧ vy71 ≤ 1000 * x9 ∧ 1000 * x9 < vy71 + 1000) := tdk 1000 (by decide)
          rw [exy102]
          refine z_bipush (z := 9) C dX10_saysNumber_20 (by decide) ?_
          refine z_icmp_le (tgt := 33) C dX10_saysNumber_22 (by decide) (by omega) (by omega) (fun hby103 => ?_) (fun hby103 => ?_)
          · refine z_iload_n C 0 dX10_saysNumber_33 rfl ?_
            refine z_if_le (tgt := 58) C dX10_saysNumber_34 (by decide) (by omega) (fun h => absurd h (by omega)) (fun _ => ?_)
            refine z_aload_n C 2 dX10_saysNumber_37 rfl ?_
            refine z_bipush (z := 48) C dX10_saysNumber_38 (by decide) ?_
            refine z_iload_n C 1 dX10_saysNumber_40 rfl ?_
            refine z_iload_n C 0 dX10_saysNumber_41 rfl ?_
            refine z_idiv C dX10_saysNumber_42 (by omega) (by omega) (by omega) ?_
            obtain ⟨xy104, exy104, hxy104⟩ : ∃ x9, (vy71).tdiv 1000 = x9 ∧ (0 ≤ vy71 → 0 ≤ x9 ∧ 1000 * x9 ≤ vy71 ∧ vy71 < 1000 * x9 + 1000) ∧ (vy71 ≤ 0 → x9 ≤ 0 ∧ vy71 ≤ 1000 * x9 ∧ 1000 * x9 < vy71 + 1000) := tdk 1000 (by decide)
            rw [exy104]
            refine z_bipush (z := 10) C dX10_saysNumber_43 (by decide) ?_
            refine z_irem C dX10_saysNumber_45 (by omega) (by omega) (by omega) ?_
            refine z_iadd C dX10_saysNumber_46 ?_
            have hey106 : Fvy69 51 = F 51 + 1 := hqvy69
            refine z_cV (As := [.int (zI (48 + (xy104.tmod 10)))]) (rest := []) (ci := 12) C (c_X10_says l D A cs tt N ad _ i hN _ hcvy69 _ htvy69 (by omega) (48 + (xy104.tmod 10))) (by omega) hay1 hcvy69 rfl rfl mv_yX10_says q_1850 hd_yX10_says (by decide) (Nat.le_of_ble_eq_true rfl) (by decide) dX10_saysNumber_47 rfl (kV0 fun gvy105 hvy105 => ?_)
            obtain ⟨⟨Fvy105, hcvy105, hnvy105, hFvy105⟩, ⟨tvy105, htvy105⟩, hfvy105⟩ := hvy105
            have hovy105 : Fvy69 51 = F 51 + 1 := hqvy69
            have hqvy105 : Fvy105 51 = F 51 + 2 := by omega
            clear hnvy105 hovy105
            refine z_iload_n C 0 dX10_saysNumber_50 rfl ?_
            refine z_bipush (z := 10) C dX10_saysNumber_51 (by decide) ?_
            refine z_idiv C dX10_saysNumber_53 (by decide) (by decide) (by decide) ?_
            rw [show (1000 : Int).tdiv 10 = 100 by decide]
            refine z_istore_n (lv' := [(3, .int (zI (100))), (2, .int (zI (vy71))), (0, .ref (ad i)), (1, .int (zI (z)))]) C dX10_saysNumber_54 rfl (by decide) rfl ?_
            refine z_goto (tgt := 33) C dX10_saysNumber_55 (by decide) ?_
            refine z_iload_n C 0 dX10_saysNumber_33 rfl ?_
            refine z_if_le (tgt := 58) C dX10_saysNumber_34 (by decide) (by omega) (fun h => absurd h (by omega)) (fun _ => ?_)
            refine z_aload_n C 2 dX10_saysNumber_37 rfl ?_
            refine z_bipush (z := 48) C dX10_saysNumber_38 (by decide) ?_
            refine z_iload_n C 1 dX10_saysNumber_40 rfl ?_
            refine z_iload_n C 0 dX10_saysNumber_41 rfl ?_
            refine z_idiv C dX10_saysNumber_42 (by omega) (by omega) (by omega) ?_
            obtain ⟨xy107, exy107, hxy107⟩ : ∃ x9, (vy71).tdiv 100 = x9 ∧ (0 ≤ vy71 → 0 ≤ x9 ∧ 100 * x9 ≤ vy71 ∧ vy71 < 100 * x9 + 100) ∧ (vy71 ≤ 0 → x9 ≤ 0 ∧ vy71 ≤ 100 * x9 ∧ 100 * x9 < vy71 + 100) := tdk 100 (by decide)
            rw [exy107]
            refine z_bipush (z := 10) C dX10_saysNumber_43 (by decide) ?_
            refine z_irem C dX10_saysNumber_45 (by omega) (by omega) (by omega) ?_
            refine z_iadd C dX10_saysNumber_46 ?_
            have hey109 : Fvy105 51 = F 51 + 2 := hqvy105
            refine z_cV (As := [.int (zI (48 + (xy107.tmod 10)))]) (rest := []) (ci := 12) C (c_X10_says l D A cs tt N ad _ i hN _ hcvy105 _ htvy105 (by omega) (48 + (xy107.tmod 10))) (by omega) hay1 hcvy105 rfl rfl mv_yX10_says q_1850 hd_yX10_says (by decide) (Nat.le_of_ble_eq_true rfl) (by decide) dX10_saysNumber_47 rfl (kV0 fun gvy108 hvy108 => ?_)
            obtain ⟨⟨Fvy108, hcvy108, hnvy108, hFvy108⟩, ⟨tvy108, htvy108⟩, hfvy108⟩ := hvy108
            have hovy108 : Fvy105 51 = F 51 + 2 := hqvy105
            have hqvy108 : Fvy108 51 = F 51 + 3 := by omega
            clear hnvy108 hovy108
            refine z_iload_n C 0 dX10_saysNumber_50 rfl ?_
            refine z_bipush (z := 10) C dX10_saysNumber_51 (by decide) ?_
            refine z_idiv C dX10_saysNumber_53 (by decide) (by decide) (by decide) ?_
            rw [show (100 : Int).tdiv 10 = 10 by decide]
            refine z_istore_n (lv' := [(3, .int (zI (10))), (2, .int (zI (vy71))), (0, .ref (ad i)), (1, .int (zI (z)))]) C dX10_saysNumber_54 rfl (by decide) rfl ?_
            refine z_goto (tgt := 33) C dX10_saysNumber_55 (by decide) ?_
            refine z_iload_n C 0 dX10_saysNumber_33 rfl ?_
            refine z_if_le (tgt := 58) C dX10_saysNumber_34 (by decide) (by omega) (fun h => absurd h (by omega)) (fun _ => ?_)
            refine z_aload_n C 2 dX10_saysNumber_37 rfl ?_
            refine z_bipush (z := 48) C dX10_saysNumber_38 (by decide) ?_
            refine z_iload_n C 1 dX10_saysNumber_40 rfl ?_
            refine z_iload_n C 0 dX10_saysNumber_41 rfl ?_
            refine z_idiv C dX10_saysNumber_42 (by omega) (by omega) (by omega) ?_
            obtain ⟨xy110, exy110, hxy110⟩ : ∃ x9, (vy71).tdiv 10 = x9 ∧ (0 ≤ vy71 → 0 ≤ x9 ∧ 10 * x9 ≤ vy71 ∧ vy71 < 10 * x9 + 10) ∧ (vy71 ≤ 0 → x9 ≤ 0 ∧ vy71 ≤ 10 * x9 ∧ 10 * x9 < vy71 + 10) := tdk 10 (by decide)
            rw [exy110]
            refine z_bipush (z := 10) C dX10_saysNumber_43 (by decide) ?_
            refine z_irem C dX10_saysNumber_45 (by omega) (by omega) (by omega) ?_
            refine z_iadd C dX10_saysNumber_46 ?_
            have hey112 : Fvy108 51 = F 51 + 3 := hqvy108
            refine z_cV (As := [.int (zI (48 + (xy110.tmod 10)))]) (rest := []) (ci := 12) C (c_X10_says l D A cs tt N ad _ i hN _ hcvy108 _ htvy108 (by omega) (48 + (xy110.tmod 10))) (by omega) hay1 hcvy108 rfl rfl mv_yX10_says q_1850 hd_yX10_says (by decide) (Nat.le_of_ble_eq_true rfl) (by decide) dX10_saysNumber_47 rfl (kV0 fun gvy111 hvy111 => ?_)
            obtain ⟨⟨Fvy111, hcvy111, hnvy111, hFvy111⟩, ⟨tvy111, htvy111⟩, hfvy111⟩ := hvy111
            have hovy111 : Fvy108 51 = F 51 + 3 := hqvy108
            have hqvy111 : Fvy111 51 = F 51 + 4 := by omega
            clear hnvy111 hovy111
            refine z_iload_n C 0 dX10_saysNumber_50 rfl ?_
            refine z_bipush (z := 10) C dX10_saysNumber_51 (by decide) ?_
            refine z_idiv C dX10_saysNumber_53 (by decide) (by decide) (by decide) ?_
            rw [show (10 : Int).tdiv 10 = 1 by decide]
            refine z_istore_n (lv' := [(3, .int (zI (1))), (2, .int (zI (vy71))), (0, .ref (ad i)), (1, .int (zI (z)))]) C dX10_saysNumber_54 rfl (by decide) rfl ?_
            refine z_goto (tgt := 33) C dX10_saysNumber_55 (by decide) ?_
            refine z_iload_n C 0 dX10_saysNumber_33 rfl ?_
            refine z_if_le (tgt := 58) C dX10_saysNumber_34 (by decide) (by omega) (fun h => absurd h (by omega)) (fun _ => ?_)
            refine z_aload_n C 2 dX10_saysNumber_37 rfl ?_
            refine z_bipush (z := 48) C dX10_saysNumber_38 (by decide) ?_
            refine z_iload_n C 1 dX10_saysNumber_40 rfl ?_
            refine z_iload_n C 0 dX10_saysNumber_41 rfl ?_
            refine z_idiv C dX10_saysNumber_42 (by omega) (by omega) (by omega) ?_
            obtain ⟨xy113, exy113, hxy113⟩ : ∃ x9, (vy71).tdiv 1 = x9 ∧ (0 ≤ vy71 → 0 ≤ x9 ∧ 1 * x9 ≤ vy71 ∧ vy71 < 1 * x9 + 1) ∧ (vy71 ≤ 0 → x9 ≤ 0 ∧ vy71 ≤ 1 * x9 ∧ 1 * x9 < vy71 + 1) := tdk 1 (by decide)
            rw [exy113]
            refine z_bipush (z := 10) C dX10_saysNumber_43 (by decide) ?_
            refine z_irem C dX10_saysNumber_45 (by omega) (by omega) (by omega) ?_
            refine z_iadd C dX10_saysNumber_46 ?_
            have hey115 : Fvy111 51 = F 51 + 4 := hqvy111
            refine z_cV (As := [.int (zI (48 + (xy113.tmod 10)))]) (rest := []) (ci := 12) C (c_X10_says l D A cs tt N ad _ i hN _ hcvy111 _ htvy111 (by omega) (48 + (xy113.tmod 10))) (by omega) hay1 hcvy111 rfl rfl mv_yX10_says q_1850 hd_yX10_says (by decide) (Nat.le_of_ble_eq_true rfl) (by decide) dX10_saysNumber_47 rfl (kV0 fun gvy114 hvy114 => ?_)
            obtain ⟨⟨Fvy114, hcvy114, hnvy114, hFvy114⟩, ⟨tvy114, htvy114⟩, hfvy114⟩ := hvy114
            have hovy114 : Fvy111 51 = F 51 + 4 := hqvy111
            have hqvy114 : Fvy114 51 = F 51 + 5 := by omega
            clear hnvy114 hovy114
            refine z_iload_n C 0 dX10_saysNumber_50 rfl ?_
            refine z_bipush (z := 10) C dX10_saysNumber_51 (by decide) ?_
            refine z_idiv C dX10_saysNumber_53 (by decide) (by decide) (by decide) ?_
            rw [show (1 : Int).tdiv 10 = 0 by decide]
            refine z_istore_n (lv' := [(3, .int (zI (0))), (2, .int (zI (vy71))), (0, .ref (ad i)), (1, .int (zI (z)))]) C dX10_saysNumber_54 rfl (by decide) rfl ?_
            refine z_goto (tgt := 33) C dX10_saysNumber_55 (by decide) ?_
            refine z_iload_n C 0 dX10_saysNumber_33 rfl ?_
            refine z_if_le (tgt := 58) C dX10_saysNumber_34 (by decide) (by omega) (fun _ => ?_) (fun h => absurd h (by omega))
            have hFy116 : ∀ f, f ≠ 51 → Fvy114 f = F f := fun f n51 => ((hFvy114 f n51).trans ((hFvy111 f n51).trans ((hFvy108 f n51).trans ((hFvy105 f n51).trans (hFvy69 f n51)))))
            have hey117 : Fvy114 51 = F 51 + 5 := hqvy114
            exact z_vret C hr hlk dX10_saysNumber_58 (by decide) (by decide) ⟨rfl, rfl, rfl, ⟨_, hcvy114, by omega, hFy116⟩, ⟨_, htvy114⟩, fun j j1 j2 => by rw [hfvy114 _ (by omega) (by omega)]; rw [hfvy111 _ (by omega) (by omega)]; rw [hfvy108 _ (by omega) (by omega)]; rw [hfvy105 _ (by omega) (by omega)]; rw [hfvy69 _ (by omega) (by omega)]⟩
          · refine z_iload_n C 0 dX10_saysNumber_25 rfl ?_
            refine z_bipush (z := 10) C dX10_saysNumber_26 (by decide) ?_
            refine z_imul C dX10_saysNumber_28 ?_
            rw [show (1000 : Int) * 10 = 10000 by decide]
            refine z_istore_n (lv' := [(3, .int (zI (10000))), (2, .int (zI (vy71))), (0, .ref (ad i)), (1, .int (zI (z)))]) C dX10_saysNumber_29 rfl (by decide) rfl ?_
            refine z_goto (tgt := 17) C dX10_saysNumber_30 (by decide) ?_
            refine z_iload_n C 1 dX10_saysNumber_17 rfl ?_
            refine z_iload_n C 0 dX10_saysNumber_18 rfl ?_
            refine z_idiv C dX10_saysNumber_19 (by omega) (by omega) (by omega) ?_
            obtain ⟨xy118, exy118, hxy118⟩ : ∃ x9, (vy71).tdiv 10000 = x9 ∧ (0 ≤ vy71 → 0 ≤ x9 ∧ 10000 * x9 ≤ vy71 ∧ vy71 < 10000 * x9 + 10000) ∧ (vy71 ≤ 0 → x9 ≤ 0 ∧ vy71 ≤ 10000 * x9 ∧ 10000 * x9 < vy71 + 10000) := tdk 10000 (by decide)
            rw [exy118]
            refine z_bipush (z := 9) C dX10_saysNumber_20 (by decide) ?_
            refine z_icmp_le (tgt := 33) C dX10_saysNumber_22 (by decide) (by omega) (by omega) (fun _ => ?_) (fun h => absurd h (by omega))
            refine z_iload_n C 0 dX10_saysNumber_33 rfl ?_
            refine z_if_le (tgt := 58) C dX10_saysNumber_34 (by decide) (by omega) (fun h => absurd h (by omega)) (fun _ => ?_)
            refine z_aload_n C 2 dX10_saysNumber_37 rfl ?_
            refine z_bipush (z := 48) C dX10_saysNumber_38 (by decide) ?_
            refine z_iload_n C 1 dX10_saysNumber_40 rfl ?_
            refine z_iload_n C 0 dX10_saysNumber_41 rfl ?_
            refine z_idiv C dX10_saysNumber_42 (by omega) (by omega) (by omega) ?_
            obtain ⟨xy119, exy119, hxy119⟩ : ∃ x9, (vy71).tdiv 10000 = x9 ∧ (0 ≤ vy71 → 0 ≤ x9 ∧ 10000 * x9 ≤ vy71 ∧ vy71 < 10000 * x9 + 10000) ∧ (vy71 ≤ 0 → x9 ≤ 0 ∧ vy71 ≤ 10000 * x9 ∧ 10000 * x9 < vy71 + 10000) := tdk 10000 (by decide)
            rw [exy119]
            refine z_bipush (z := 10) C dX10_saysNumber_43 (by decide) ?_
            refine z_irem C dX10_saysNumber_45 (by omega) (by omega) (by omega) ?_
            refine z_iadd C dX10_saysNumber_46 ?_
            have hey121 : Fvy69 51 = F 51 + 1 := hqvy69
            refine z_cV (As := [.int (zI (48 + (xy119.tmod 10)))]) (rest := []) (ci := 12) C (c_X10_says l D A cs tt N ad _ i hN _ hcvy69 _ htvy69 (by omega) (48 + (xy119.tmod 10))) (by omega) hay1 hcvy69 rfl rfl mv_yX10_says q_1850 hd_yX10_says (by decide) (Nat.le_of_ble_eq_true rfl) (by decide) dX10_saysNumber_47 rfl (kV0 fun gvy120 hvy120 => ?_)
            obtain ⟨⟨Fvy120, hcvy120, hnvy120, hFvy120⟩, ⟨tvy120, htvy120⟩, hfvy120⟩ := hvy120
            have hovy120 : Fvy69 51 = F 51 + 1 := hqvy69
            have hqvy120 : Fvy120 51 = F 51 + 2 := by omega
            clear hnvy120 hovy120
            refine z_iload_n C 0 dX10_saysNumber_50 rfl ?_
            refine z_bipush (z := 10) C dX10_saysNumber_51 (by decide) ?_
            refine z_idiv C dX10_saysNumber_53 (by decide) (by decide) (by decide) ?_
            rw [show (10000 : Int).tdiv 10 = 1000 by decide]
            refine z_istore_n (lv' := [(3, .int (zI (1000))), (2, .int (zI (vy71))), (0, .ref (ad i)), (1, .int (zI (z)))]) C dX10_saysNumber_54 rfl (by decide) rfl ?_
            refine z_goto (tgt := 33) C dX10_saysNumber_55 (by decide) ?_
            refine z_iload_n C 0 dX10_saysNumber_33 rfl ?_
            refine z_if_le (tgt := 58) C dX10_saysNumber_34 (by decide) (by omega) (fun h => absurd h (by omega)) (fun _ => ?_)
            refine z_aload_n C 2 dX10_saysNumber_37 rfl ?_
            refine z_bipush (z := 48) C dX10_saysNumber_38 (by decide) ?_
            refine z_iload_n C 1 dX10_saysNumber_40 rfl ?_
            refine z_iload_n C 0 dX10_saysNumber_41 rfl ?_
            refine z_idiv C dX10_saysNumber_42 (by omega) (by omega) (by omega) ?_
            obtain ⟨xy122, exy122, hxy122⟩ : ∃ x9, (vy71).tdiv 1000 = x9 ∧ (0 ≤ vy71 → 0 ≤ x9 ∧ 1000 * x9 ≤ vy71 ∧ vy71 < 1000 * x9 + 1000) ∧ (vy71 ≤ 0 → x9 ≤ 0 ∧ vy71 ≤ 1000 * x9 ∧ 1000 * x9 < vy71 + 1000) := tdk 1000 (by decide)
            rw [exy122]
            refine z_bipush (z := 10) C dX10_saysNumber_43 (by decide) ?_
            refine z_irem C dX10_saysNumber_45 (by omega) (by omega) (by omega) ?_
            refine z_iadd C dX10_saysNumber_46 ?_
            have hey124 : Fvy120 51 = F 51 + 2 := hqvy120
            refine z_cV (As := [.int (zI (48 + (xy122.tmod 10)))]) (rest := []) (ci := 12) C (c_X10_says l D A cs tt N ad _ i hN _ hcvy120 _ htvy120 (by omega) (48 + (xy122.tmod 10))) (by omega) hay1 hcvy120 rfl rfl mv_yX10_says q_1850 hd_yX10_says (by decide) (Nat.le_of_ble_eq_true rfl) (by decide) dX10_saysNumber_47 rfl (kV0 fun gvy123 hvy123 => ?_)
            obtain ⟨⟨Fvy123, hcvy123, hnvy123, hFvy123⟩, ⟨tvy123, htvy123⟩, hfvy123⟩ := hvy123
            have hovy123 : Fvy120 51 = F 51 + 2 := hqvy120
            have hqvy123 : Fvy123 51 = F 51 + 3 := by omega
            clear hnvy123 hovy123
            refine z_iload_n C 0 dX10_saysNumber_50 rfl ?_
            refine z_bipush (z := 10) C dX10_saysNumber_51 (by decide) ?_
            refine z_idiv C dX10_saysNumber_53 (by decide) (by decide) (by decide) ?_
            rw [show (1000 : Int).tdiv 10 = 100 by decide]
            refine z_istore_n (lv' := [(3, .int (zI (100))), (2, .int (zI (vy71))), (0, .ref (ad i)), (1, .int (zI (z)))]) C dX10_saysNumber_54 rfl (by decide) rfl ?_
            refine z_goto (tgt := 33) C dX10_saysNumber_55 (by decide) ?_
            refine z_iload_n C 0 dX10_saysNumber_33 rfl ?_
            refine z_if_le (tgt := 58) C dX10_saysNumber_34 (by decide) (by omega) (fun h => absurd h (by omega)) (fun _ => ?_)
            refine z_aload_n C 2 dX10_saysNumber_37 rfl ?_
            refine z_bipush (z := 48) C dX10_saysNumber_38 (by decide) ?_
            refine z_iload_n C 1 dX10_saysNumber_40 rfl ?_
            refine z_iload_n C 0 dX10_saysNumber_41 rfl ?_
            refine z_idiv C dX10_saysNumber_42 (by omega) (by omega) (by omega) ?_
            obtain ⟨xy125, exy125, hxy125⟩ : ∃ x9, (vy71).tdiv 100 = x9 ∧ (0 ≤ vy71 → 0 ≤ x9 ∧ 100 * x9 ≤ vy71 ∧ vy71 < 100 * x9 + 100) ∧ (vy71 ≤ 0 → x9 ≤ 0 ∧ vy71 ≤ 100 * x9 ∧ 100 * x9 < vy71 + 100) := tdk 100 (by decide)
            rw [exy125]
            refine z_bipush (z := 10) C dX10_saysNumber_43 (by decide) ?_
            refine z_irem C dX10_saysNumber_45 (by omega) (by omega) (by omega) ?_
            refine z_iadd C dX10_saysNumber_46 ?_
            have hey127 : Fvy123 51 = F 51 + 3 := hqvy123
            refine z_cV (As := [.int (zI (48 + (xy125.tmod 10)))]) (rest := []) (ci := 12) C (c_X10_says l D A cs tt N ad _ i hN _ hcvy123 _ htvy123 (by omega) (48 + (xy125.tmod 10))) (by omega) hay1 hcvy123 rfl rfl mv_yX10_says q_1850 hd_yX10_says (by decide) (Nat.le_of_ble_eq_true rfl) (by decide) dX10_saysNumber_47 rfl (kV0 fun gvy126 hvy126 => ?_)
            obtain ⟨⟨Fvy126, hcvy126, hnvy126, hFvy126⟩, ⟨tvy126, htvy126⟩, hfvy126⟩ := hvy126
            have hovy126 : Fvy123 51 = F 51 + 3 := hqvy123
            have hqvy126 : Fvy126 51 = F 51 + 4 := by omega
            clear hnvy126 hovy126
            refine z_iload_n C 0 dX10_saysNumber_50 rfl ?_
            refine z_bipush (z := 10) C dX10_saysNumber_51 (by decide) ?_
            refine z_idiv C dX10_saysNumber_53 (by decide) (by decide) (by decide) ?_
            rw [show (100 : Int).tdiv 10 = 10 by decide]
            refine z_istore_n (lv' := [(3, .int (zI (10))), (2, .int (zI (vy71))), (0, .ref (ad i)), (1, .int (zI (z)))]) C dX10_saysNumber_54 rfl (by decide) rfl ?_
            refine z_goto (tgt := 33) C dX10_saysNumber_55 (by decide) ?_
            refine z_iload_n C 0 dX10_saysNumber_33 rfl ?_
            refine z_if_le (tgt := 58) C dX10_saysNumber_34 (by decide) (by omega) (fun h => absurd h (by omega)) (fun _ => ?_)
            refine z_aload_n C 2 dX10_saysNumber_37 rfl ?_
            refine z_bipush (z := 48) C dX10_saysNumber_38 (by decide) ?_
            refine z_iload_n C 1 dX10_saysNumber_40 rfl ?_
            refine z_iload_n C 0 dX10_saysNumber_41 rfl ?_
            refine z_idiv C dX10_saysNumber_42 (by omega) (by omega) (by omega) ?_
            obtain ⟨xy128, exy128, hxy128⟩ : ∃ x9, (vy71).tdiv 10 = x9 ∧ (0 ≤ vy71 → 0 ≤ x9 ∧ 10 * x9 ≤ vy71 ∧ vy71 < 10 * x9 + 10) ∧ (vy71 ≤ 0 → x9 ≤ 0 ∧ vy71 ≤ 10 * x9 ∧ 10 * x9 < vy71 + 10) := tdk 10 (by decide)
            rw [exy128]
            refine z_bipush (z := 10) C dX10_saysNumber_43 (by decide) ?_
            refine z_irem C dX10_saysNumber_45 (by omega) (by omega) (by omega) ?_
            refine z_iadd C dX10_saysNumber_46 ?_
            have hey130 : Fvy126 51 = F 51 + 4 := hqvy126
            refine z_cV (As := [.int (zI (48 + (xy128.tmod 10)))]) (rest := []) (ci := 12) C (c_X10_says l D A cs tt N ad _ i hN _ hcvy126 _ htvy126 (by omega) (48 + (xy128.tmod 10))) (by omega) hay1 hcvy126 rfl rfl mv_yX10_says q_1850 hd_yX10_says (by decide) (Nat.le_of_ble_eq_true rfl) (by decide) dX10_saysNumber_47 rfl (kV0 fun gvy129 hvy129 => ?_)
            obtain ⟨⟨Fvy129, hcvy129, hnvy129, hFvy129⟩, ⟨tvy129, htvy129⟩, hfvy129⟩ := hvy129
            have hovy129 : Fvy126 51 = F 51 + 4 := hqvy126
            have hqvy129 : Fvy129 51 = F 51 + 5 := by omega
            clear hnvy129 hovy129
            refine z_iload_n C 0 dX10_saysNumber_50 rfl ?_
            refine z_bipush (z := 10) C dX10_saysNumber_51 (by decide) ?_
            refine z_idiv C dX10_saysNumber_53 (by decide) (by decide) (by decide) ?_
            rw [show (10 : Int).tdiv 10 = 1 by decide]
            refine z_istore_n (lv' := [(3, .int (zI (1))), (2, .int (zI (vy71))), (0, .ref (ad i)), (1, .int (zI (z)))]) C dX10_saysNumber_54 rfl (by decide) rfl ?_
            refine z_goto (tgt := 33) C dX10_saysNumber_55 (by decide) ?_
            refine z_iload_n C 0 dX10_saysNumber_33 rfl ?_
            refine z_if_le (tgt := 58) C dX10_saysNumber_34 (by decide) (by omega) (fun h => absurd h (by omega)) (fun _ => ?_)
            refine z_aload_n C 2 dX10_saysNumber_37 rfl ?_
            refine z_bipush (z := 48) C dX10_saysNumber_38 (by decide) ?_
            refine z_iload_n C 1 dX10_saysNumber_40 rfl ?_
            refine z_iload_n C 0 dX10_saysNumber_41 rfl ?_
            refine z_idiv C dX10_saysNumber_42 (by omega) (by omega) (by omega) ?_
            obtain ⟨xy131, exy131, hxy131⟩ : ∃ x9, (vy71).tdiv 1 = x9 ∧ (0 ≤ vy71 → 0 ≤ x9 ∧ 1 * x9 ≤ vy71 ∧ vy71 < 1 * x9 + 1) ∧ (vy71 ≤ 0 → x9 ≤ 0 ∧ vy71 ≤ 1 * x9 ∧ 1 * x9 < vy71 + 1) := tdk 1 (by decide)
            rw [exy131]
            refine z_bipush (z := 10) C dX10_saysNumber_43 (by decide) ?_
            refine z_irem C dX10_saysNumber_45 (by omega) (by omega) (by omega) ?_
            refine z_iadd C dX10_saysNumber_46 ?_
            have hey133 : Fvy129 51 = F 51 + 5 := hqvy129
            refine z_cV (As := [.int (zI (48 + (xy131.tmod 10)))]) (rest := []) (ci := 12) C (c_X10_says l D A cs tt N ad _ i hN _ hcvy129 _ htvy129 (by omega) (48 + (xy131.tmod 10))) (by omega) hay1 hcvy129 rfl rfl mv_yX10_says q_1850 hd_yX10_says (by decide) (Nat.le_of_ble_eq_true rfl) (by decide) dX10_saysNumber_47 rfl (kV0 fun gvy132 hvy132 => ?_)
            obtain ⟨⟨Fvy132, hcvy132, hnvy132, hFvy132⟩, ⟨tvy132, htvy132⟩, hfvy132⟩ := hvy132
            have hovy132 : Fvy129 51 = F 51 + 5 := hqvy129
            have hqvy132 : Fvy132 51 = F 51 + 6 := by omega
            clear hnvy132 hovy132
            refine z_iload_n C 0 dX10_saysNumber_50 rfl ?_
            refine z_bipush (z := 10) C dX10_saysNumber_51 (by decide) ?_
            refine z_idiv C dX10_saysNumber_53 (by decide) (by decide) (by decide) ?_
            rw [show (1 : Int).tdiv 10 = 0 by decide]
            refine z_istore_n (lv' := [(3, .int (zI (0))), (2, .int (zI (vy71))), (0, .ref (ad i)), (1, .int (zI (z)))]) C dX10_saysNumber_54 rfl (by decide) rfl ?_
            refine z_goto (tgt := 33) C dX10_saysNumber_55 (by decide) ?_
            refine z_iload_n C 0 dX10_saysNumber_33 rfl ?_
            refine z_if_le (tgt := 58) C dX10_saysNumber_34 (by decide) (by omega) (fun _ => ?_) (fun h => absurd h (by omega))
            have hFy134 : ∀ f, f ≠ 51 → Fvy132 f = F f := fun f n51 => ((hFvy132 f n51).trans ((hFvy129 f n51).trans ((hFvy126 f n51).trans ((hFvy123 f n51).trans ((hFvy120 f n51).trans (hFvy69 f n51))))))
            have hey135 : Fvy132 51 = F 51 + 6 := hqvy132
            exact z_vret C hr hlk dX10_saysNumber_58 (by decide) (by decide) ⟨rfl, rfl, rfl, ⟨_, hcvy132, by omega, hFy134⟩, ⟨_, htvy132⟩, fun j j1 j2 => by rw [hfvy132 _ (by omega) (by omega)]; rw [hfvy129 _ (by omega) (by omega)]; rw [hfvy126 _ (by omega) (by omega)]; rw [hfvy123 _ (by omega) (by omega)]; rw [hfvy120 _ (by omega) (by omega)]; rw [hfvy69 _ (by omega) (by omega)]⟩

set_option maxRecDepth 100000 in
set_option maxHeartbeats 4000000 in
theorem c_X10_saysWord (l : Launch) (D : va_G) (A : Nat → Prop) (cs : Nat → ClassId) (tt : Nat) (N : Nat) (ad : Nat → Nat) (g : Nat → va_E) (i : Nat) (hN : i + 30 ≤ N) (F : Nat → Int) (hg : g i = mC ad i F) (li : Nat → Int) (ha24 : g (i + 24) = iA cs 64 li) (h51 : 0 ≤ F 51 ∧ F 51 + 4 ≤ 64) (z z1 : Int) : zM l yX10_saysWord cX10_saysWord 3 none ({ frames := 2, cells := 0, slots := 0, locals := 120 } : Room) D A cs tt N ad g [.ref (ad i), .int (zI (z)), .int (zI (z1))] (rV0 N ad fun g' => (∃ F' : Nat → Int, g' i = mC ad i F' ∧ F' 51 = F 51 + 4 ∧ (∀ f, f ≠ 51 → F' f = F f)) ∧ (∃ t' : Nat → Int, g' (i + 24) = iA cs 64 t') ∧ ∀ j, j ≠ i → j ≠ i + 24 → g' j = g j) := by
  have hay1 : zAt ad (i) (ad i) := rfl
  have hay2 : zAt ad (i + 24) (ad (i + 24)) := rfl
  refine z_of (by decide) (Nat.le_of_ble_eq_true rfl) ?_
  intro pZ eZ sZ mZ below meth cZ C hr hlk hnm
  refine z_lv (lv' := [(0, .ref (ad i)), (1, .int (zI (z))), (2, .int (zI (z1)))]) [0, 1, 2] rfl ?_
  refine z_aload_n C 0 dX10_saysWord_0 rfl ?_
  refine z_bipush (z := 32) C dX10_saysWord_1 (by decide) ?_
  have hey4 : F 51 = F 51 := rfl
  refine z_cV (As := [.int (zI (32))]) (rest := []) (ci := 12) C (c_X10_says l D A cs tt N ad _ i hN _ hg _ ha24 (by omega) (32)) (by omega) hay1 hg rfl rfl mv_yX10_says q_1850 hd_yX10_says (by decide) (Nat.le_of_ble_eq_true rfl) (by decide) dX10_saysWord_3 rfl (kV0 fun gvy3 hvy3 => ?_)
  obtain ⟨⟨Fvy3, hcvy3, hnvy3, hFvy3⟩, ⟨tvy3, htvy3⟩, hfvy3⟩ := hvy3
  have hovy3 : F 51 = F 51 := rfl
  have hqvy3 : Fvy3 51 = F 51 + 1 := by omega
  clear hnvy3 hovy3
  refine z_aload_n C 0 dX10_saysWord_6 rfl ?_
  refine z_iload_n C 1 dX10_saysWord_7 rfl ?_
  have hey6 : Fvy3 51 = F 51 + 1 := hqvy3
  refine z_cV (As := [.int (zI (z))]) (rest := []) (ci := 12) C (c_X10_says l D A cs tt N ad _ i hN _ hcvy3 _ htvy3 (by omega) (z)) (by omega) hay1 hcvy3 rfl rfl mv_yX10_says q_1850 hd_yX10_says (by decide) (Nat.le_of_ble_eq_true rfl) (by decide) dX10_saysWord_8 rfl (kV0 fun gvy5 hvy5 => ?_)
  obtain ⟨⟨Fvy5, hcvy5, hnvy5, hFvy5⟩, ⟨tvy5, htvy5⟩, hfvy5⟩ := hvy5
  have hovy5 : Fvy3 51 = F 51 + 1 := hqvy3
  have hqvy5 : Fvy5 51 = F 51 + 2 := by omega
  clear hnvy5 hovy5
  refine z_aload_n C 0 dX10_saysWord_11 rfl ?_
  refine z_iload_n C 2 dX10_saysWord_12 rfl ?_
  have hey8 : Fvy5 51 = F 51 + 2 := hqvy5
  refine z_cV (As := [.int (zI (z1))]) (rest := []) (ci := 12) C (c_X10_says l D A cs tt N ad _ i hN _ hcvy5 _ htvy5 (by omega) (z1)) (by omega) hay1 hcvy5 rfl rfl mv_yX10_says q_1850 hd_yX10_says (by decide) (Nat.le_of_ble_eq_true rfl) (by decide) dX10_saysWord_13 rfl (kV0 fun gvy7 hvy7 => ?_)
  obtain ⟨⟨Fvy7, hcvy7, hnvy7, hFvy7⟩, ⟨tvy7, htvy7⟩, hfvy7⟩ := hvy7
  have hovy7 : Fvy5 51 = F 51 + 2 := hqvy5
  have hqvy7 : Fvy7 51 = F 51 + 3 := by omega
  clear hnvy7 hovy7
  refine z_aload_n C 0 dX10_saysWord_16 rfl ?_
  refine z_bipush (z := 32) C dX10_saysWord_17 (by decide) ?_
  have hey10 : Fvy7 51 = F 51 + 3 := hqvy7
  refine z_cV (As := [.int (zI (32))]) (rest := []) (ci := 12) C (c_X10_says l D A cs tt N ad _ i hN _ hcvy7 _ htvy7 (by omega) (32)) (by omega) hay1 hcvy7 rfl rfl mv_yX10_says q_1850 hd_yX10_says (by decide) (Nat.le_of_ble_eq_true rfl) (by decide) dX10_saysWord_19 rfl (kV0 fun gvy9 hvy9 => ?_)
  obtain ⟨⟨Fvy9, hcvy9, hnvy9, hFvy9⟩, ⟨tvy9, htvy9⟩, hfvy9⟩ := hvy9
  have hovy9 : Fvy7 51 = F 51 + 3 := hqvy7
  have hqvy9 : Fvy9 51 = F 51 + 4 := by omega
  clear hnvy9 hovy9
  have hFy11 : ∀ f, f ≠ 51 → Fvy9 f = F f := fun f n51 => ((hFvy9 f n51).trans ((hFvy7 f n51).trans ((hFvy5 f n51).trans (hFvy3 f n51))))
  have hey12 : Fvy9 51 = F 51 + 4 := hqvy9
  exact z_vret C hr hlk dX10_saysWord_22 (by decide) (by decide) ⟨rfl, rfl, rfl, ⟨_, hcvy9, by omega, hFy11⟩, ⟨_, htvy9⟩, fun j j1 j2 => by rw [hfvy9 _ (by omega) (by omega)]; rw [hfvy7 _ (by omega) (by omega)]; rw [hfvy5 _ (by omega) (by omega)]; rw [hfvy3 _ (by omega) (by omega)]⟩

set_option maxRecDepth 100000 in
set_option maxHeartbeats 4000000 in
theorem c_X10_saysKind (l : Launch) (D : va_G) (A : Nat → Prop) (cs : Nat → ClassId) (tt : Nat) (N : Nat) (ad : Nat → Nat) (g : Nat → va_E) (i : Nat) (hN : i + 30 ≤ N) (F : Nat → Int) (hg : g i = mC ad i F) (li : Nat → Int) (ha24 : g (i + 24) = iA cs 64 li) (h51 : 0 ≤ F 51 ∧ F 51 + 6 ≤ 64) (z : Int) (hz : 0 ≤ z ∧ z ≤ 4) : zM l yX10_saysKind cX10_saysKind 5 none ({ frames := 2, cells := 0, slots := 0, locals := 120 } : Room) D A cs tt N ad g [.ref (ad i), .int (zI (z))] (rV0 N ad fun g' => (∃ F' : Nat → Int, g' i = mC ad i F' ∧ (F 51 ≤ F' 51 ∧ F' 51 ≤ F 51 + 6) ∧ (∀ f, f ≠ 51 → F' f = F f)) ∧ (∃ t' : Nat → Int, g' (i + 24) = iA cs 64 t') ∧ ∀ j, j ≠ i → j ≠ i + 24 → g' j = g j) := by
  have hay1 : zAt ad (i) (ad i) := rfl
  have hay2 : zAt ad (i + 24) (ad (i + 24)) := rfl
  refine z_of (by decide) (Nat.le_of_ble_eq_true rfl) ?_
  intro pZ eZ sZ mZ below meth cZ C hr hlk hnm
  refine z_lv (lv' := [(0, .ref (ad i)), (1, .int (zI (z)))]) [0, 1] rfl ?_
  have lpL : ∀ (n9 : Nat) (at : Int) (ww : Int) (nl : Int) (F9 : Nat → Int) (t9 : Nat → Int) (g1 : Nat → va_E), (78 - at).toNat = n9 → (g1 i = mC ad i F9) → (g1 (i + 24) = iA cs 64 t9) → (∀ j, j ≠ i → j ≠ i + 24 → g1 j = g j) → (F9 51 = nl) → (∀ f, f ≠ 51 → F9 f = F f) → (((ww = 5 ∧ 27 ≤ at ∧ at ≤ 31 ∧ nl = F 51 + at - 27) ∨ (ww = 9 ∧ 51 ≤ at ∧ at ≤ 57 ∧ nl = F 51 + at - 51) ∨ (ww = 10 ∧ 58 ≤ at ∧ at ≤ 64 ∧ nl = F 51 + at - 58) ∨ (ww = 11 ∧ 65 ≤ at ∧ at ≤ 71 ∧ nl = F 51 + at - 65) ∨ (ww = 12 ∧ 72 ≤ at ∧ at ≤ 77 ∧ nl = F 51 + at - 72))) → zV pZ l eZ ({ frames := 2, cells := 0, slots := 0, locals := 120 } : Room) sZ mZ ([.ref (ad i), .int (zI (z))] : List Value).toArray below meth cZ (MQ below (zPost D A (rV0 N ad fun g' => (∃ F' : Nat → Int, g' i = mC ad i F' ∧ (F 51 ≤ F' 51 ∧ F' 51 ≤ F 51 + 6) ∧ (∀ f, f ≠ 51 → F' f = F f)) ∧ (∃ t' : Nat → Int, g' (i + 24) = iA cs 64 t') ∧ ∀ j, j ≠ i → j ≠ i + 24 → g' j = g j)) ([.ref (ad i), .int (zI (z))] : List Value).toArray sZ ({ frames := 2, cells := 0, slots := 0, locals := 120 } : Room).cells ({ frames := 2, cells := 0, slots := 0, locals := 120 } : Room).slots A) D A 5 (N) ad g1 (0) (0) 50 [(0, .ref (ad i)), (3, .int (zI (at))), (2, .int (zI (ww)))] [] := by
    intro n9
    induction n9 using Nat.strongRecOn with
    | ind n9 ih_lpL =>
      intro at ww nl F9 t9 g1 hm9 f2 f2t f3 fx0 f4 hv
      have hay3 : zAt ad (i) (ad i) := rfl
      have hay4 : zAt ad (i + 24) (ad (i + 24)) := rfl
      refine z_getSt C stm0 q_1667 dX10_saysKind_50 ?_
      refine z_iload_n C 1 dX10_saysKind_53 rfl ?_
      obtain ⟨yy5, eyy5, hyy5⟩ := zI_of (sq0.2.2.2.getD ((at).toNat) 0)
      have hkyy5 := kn32 (j := (at).toNat) (by omega) eyy5 hyy5
      refine z_stbald (y := yy5) C stm0 ((at).toNat) (by omega) (by rw [stl0]; omega) (by rw [stl0]; decide) eyy5 dX10_saysKind_54 ?_
      refine z_bipush (z := 32) C dX10_saysKind_55 (by decide) ?_
      refine z_icmp_eq (tgt := 75) C dX10_saysKind_57 (by decide) (by omega) (by omega) (fun hby6 => ?_) (fun hby6 => ?_)
      · have hFy7 : ∀ f, f ≠ 51 → F9 f = F f := fun f n51 => (f4 f n51)
        have hey8 : F9 51 = nl := fx0
        exact z_vret C hr hlk dX10_saysKind_75 (by decide) (by decide) ⟨rfl, rfl, rfl, ⟨_, f2, by omega, hFy7⟩, ⟨_, f2t⟩, fun j j1 j2 => by exact f3 j j1 j2⟩
      · refine z_aload_n C 0 dX10_saysKind_60 rfl ?_
        refine z_getSt C stm0 q_1667 dX10_saysKind_61 ?_
        refine z_iload_n C 1 dX10_saysKind_64 rfl ?_
        obtain ⟨yy9, eyy9, hyy9⟩ := zI_of (sq0.2.2.2.getD ((at).toNat) 0)
        have hkyy9 := kn32 (j := (at).toNat) (by omega) eyy9 hyy9
        refine z_stbald (y := yy9) C stm0 ((at).toNat) (by omega) (by rw [stl0]; omega) (by rw [stl0]; decide) eyy9 dX10_saysKind_65 ?_
        have hey11 : F9 51 = nl := fx0
        refine z_cV (As := [.int (zI (yy9))]) (rest := []) (ci := 12) C (c_X10_says l D A cs tt N ad _ i hN _ f2 _ f2t (by omega) (yy9)) (by omega) hay3 f2 rfl rfl mv_yX10_says q_1850 hd_yX10_says (by decide) (Nat.le_of_ble_eq_true rfl) (by decide) dX10_saysKind_66 rfl (kV0 fun gvy10 hvy10 => ?_)
        obtain ⟨⟨Fvy10, hcvy10, hnvy10, hFvy10⟩, ⟨tvy10, htvy10⟩, hfvy10⟩ := hvy10
        have hovy10 : F9 51 = nl := fx0
        have hqvy10 : Fvy10 51 = nl + 1 := by omega
        clear hnvy10 hovy10
        refine z_iinc (z := at + 1) (lv' := [(3, .int (zI (at + 1))), (0, .ref (ad i)), (2, .int (zI (ww)))]) (j := 1) C dX10_saysKind_69 rfl rfl (by decide) rfl ?_
        refine z_goto (tgt := 50) C dX10_saysKind_72 (by decide) ?_
        have hFy12 : ∀ f, f ≠ 51 → Fvy10 f = F f := fun f n51 => ((hFvy10 f n51).trans (f4 f n51))
        have hey13 : Fvy10 51 = nl + 1 := hqvy10
        refine z_lv (lv' := [(0, .ref (ad i)), (3, .int (zI (at + 1))), (2, .int (zI (ww)))]) [1, 0, 2] rfl ?_
        exact ih_lpL _ (by omega) (at + 1) (ww) (nl + 1) _ _ gvy10 rfl hcvy10 htvy10 (fun j j1 j2 => by rw [hfvy10 _ (by omega) (by omega)]; exact f3 j j1 j2) hqvy10 hFy12 (by omega)
  have lpO : ∀ (n9 : Nat) (ww : Int) (at : Int) (ii : Int) (g1 : Nat → va_E), (13 - ii).toNat = n9 → (g = g1) → ((ww = 5 ∨ ww = 9 ∨ ww = 10 ∨ ww = 11 ∨ ww = 12)) → (0 ≤ ii ∧ ii ≤ ww ∧ ((ii = 0 ∧ at = 0) ∨ (ii = 1 ∧ at = 6) ∨ (ii = 2 ∧ at = 12) ∨ (ii = 3 ∧ at = 17) ∨ (ii = 4 ∧ at = 22) ∨ (ii = 5 ∧ at = 27) ∨ (ii = 6 ∧ at = 32) ∨ (ii = 7 ∧ at = 39) ∨ (ii = 8 ∧ at = 45) ∨ (ii = 9 ∧ at = 51) ∨ (ii = 10 ∧ at = 58) ∨ (ii = 11 ∧ at = 65) ∨ (ii = 12 ∧ at = 72))) → zV pZ l eZ ({ frames := 2, cells := 0, slots := 0, locals := 120 } : Room) sZ mZ ([.ref (ad i), .int (zI (z))] : List Value).toArray below meth cZ (MQ below (zPost D A (rV0 N ad fun g' => (∃ F' : Nat → Int, g' i = mC ad i F' ∧ (F 51 ≤ F' 51 ∧ F' 51 ≤ F 51 + 6) ∧ (∀ f, f ≠ 51 → F' f = F f)) ∧ (∃ t' : Nat → Int, g' (i + 24) = iA cs 64 t') ∧ ∀ j, j ≠ i → j ≠ i + 24 → g' j = g j)) ([.ref (ad i), .int (zI (z))] : List Value).toArray sZ ({ frames := 2, cells := 0, slots := 0, locals := 120 } : Room).cells ({ frames := 2, cells := 0, slots := 0, locals := 120 } : Room).slots A) D A 5 (N) ad g1 (0) (0) 19 [(0, .ref (ad i)), (2, .int (zI (ww))), (3, .int (zI (at))), (4, .int (zI (ii)))] [] := by
    intro n9
    induction n9 using Nat.strongRecOn with
    | ind n9 ih_lpO =>
      intro ww at ii g1 hm9 hg1 hw hs
      subst hg1
      refine z_iload C 3 dX10_saysKind_19 rfl ?_
      refine z_iload_n C 1 dX10_saysKind_21 rfl ?_
      refine z_icmp_ge (tgt := 50) C dX10_saysKind_22 (by decide) (by omega) (by omega) (fun hby14 => ?_) (fun hby14 => ?_)
      · have hFy15 : ∀ f, f ≠ 51 → F f = F f := fun f n51 => rfl
        have hey16 : F 51 = F 51 := rfl
        refine z_lv (lv' := [(0, .ref (ad i)), (3, .int (zI (at))), (2, .int (zI (ww)))]) [0, 2, 1] rfl ?_
        exact lpL _ (at) (ww) (F 51) _ _ g rfl hg ha24 (fun j j1 j2 => by rfl) rfl hFy15 (by omega)
      · have lpI : ∀ (n9 : Nat) (at : Int) (g1 : Nat → va_E), (78 - at).toNat = n9 → (g = g1) → (((ii = 0 ∧ 0 ≤ at ∧ at ≤ 5) ∨ (ii = 1 ∧ 6 ≤ at ∧ at ≤ 11) ∨ (ii = 2 ∧ 12 ≤ at ∧ at ≤ 16) ∨ (ii = 3 ∧ 17 ≤ at ∧ at ≤ 21) ∨ (ii = 4 ∧ 22 ≤ at ∧ at ≤ 26) ∨ (ii = 5 ∧ 27 ≤ at ∧ at ≤ 31) ∨ (ii = 6 ∧ 32 ≤ at ∧ at ≤ 38) ∨ (ii = 7 ∧ 39 ≤ at ∧ at ≤ 44) ∨ (ii = 8 ∧ 45 ≤ at ∧ at ≤ 50) ∨ (ii = 9 ∧ 51 ≤ at ∧ at ≤ 57) ∨ (ii = 10 ∧ 58 ≤ at ∧ at ≤ 64) ∨ (ii = 11 ∧ 65 ≤ at ∧ at ≤ 71) ∨ (ii = 12 ∧ 72 ≤ at ∧ at ≤ 77))) → zV pZ l eZ ({ frames := 2, cells := 0, slots := 0, locals := 120 } : Room) sZ mZ ([.ref (ad i), .int (zI (z))] : List Value).toArray below meth cZ (MQ below (zPost D A (rV0 N ad fun g' => (∃ F' : Nat → Int, g' i = mC ad i F' ∧ (F 51 ≤ F' 51 ∧ F' 51 ≤ F 51 + 6) ∧ (∀ f, f ≠ 51 → F' f = F f)) ∧ (∃ t' : Nat → Int, g' (i + 24) = iA cs 64 t') ∧ ∀ j, j ≠ i → j ≠ i + 24 → g' j = g j)) ([.ref (ad i), .int (zI (z))] : List Value).toArray sZ ({ frames := 2, cells := 0, slots := 0, locals := 120 } : Room).cells ({ frames := 2, cells := 0, slots := 0, locals := 120 } : Room).slots A) D A 5 (N) ad g1 (0) (0) 25 [(0, .ref (ad i)), (2, .int (zI (ww))), (3, .int (zI (at))), (4, .int (zI (ii)))] [] := by
          intro n9
          induction n9 using Nat.strongRecOn with
          | ind n9 ih_lpI =>
            intro at g1 hm9 hg2 hw2
            subst hg2
            refine z_getSt C stm0 q_1667 dX10_saysKind_25 ?_
            refine z_iload_n C 2 dX10_saysKind_28 rfl ?_
            obtain ⟨yy17, eyy17, hyy17⟩ := zI_of (sq0.2.2.2.getD ((at).toNat) 0)
            have hkyy17 := kn32 (j := (at).toNat) (by omega) eyy17 hyy17
            refine z_stbald (y := yy17) C stm0 ((at).toNat) (by omega) (by rw [stl0]; omega) (by rw [stl0]; decide) eyy17 dX10_saysKind_29 ?_
            refine z_bipush (z := 32) C dX10_saysKind_30 (by decide) ?_
            refine z_icmp_eq (tgt := 41) C dX10_saysKind_32 (by decide) (by omega) (by omega) (fun hby18 => ?_) (fun hby18 => ?_)
            · refine z_iinc (z := at + 1) (lv' := [(3, .int (zI (at + 1))), (0, .ref (ad i)), (2, .int (zI (ww))), (4, .int (zI (ii)))]) (j := 2) C dX10_saysKind_41 rfl rfl (by decide) rfl ?_
              refine z_iinc (z := ii + 1) (lv' := [(4, .int (zI (ii + 1))), (3, .int (zI (at + 1))), (0, .ref (ad i)), (2, .int (zI (ww)))]) (j := 3) C dX10_saysKind_44 rfl rfl (by decide) rfl ?_
              refine z_goto (tgt := 19) C dX10_saysKind_47 (by decide) ?_
              refine z_lv (lv' := [(0, .ref (ad i)), (2, .int (zI (ww))), (3, .int (zI (at + 1))), (4, .int (zI (ii + 1)))]) [2, 3, 1, 0] rfl ?_
              exact ih_lpO _ (by omega) (ww) (at + 1) (ii + 1) _ rfl rfl (by omega) (by omega)
            · refine z_iinc (z := at + 1) (lv' := [(3, .int (zI (at + 1))), (0, .ref (ad i)), (2, .int (zI (ww))), (4, .int (zI (ii)))]) (j := 2) C dX10_saysKind_35 rfl rfl (by decide) rfl ?_
              refine z_goto (tgt := 25) C dX10_saysKind_38 (by decide) ?_
              refine z_lv (lv' := [(0, .ref (ad i)), (2, .int (zI (ww))), (3, .int (zI (at + 1))), (4, .int (zI (ii)))]) [1, 2, 0, 3] rfl ?_
              exact ih_lpI _ (by omega) (at + 1) _ rfl rfl (by omega)
        refine z_lv (lv' := [(0, .ref (ad i)), (2, .int (zI (ww))), (3, .int (zI (at))), (4, .int (zI (ii)))]) [0, 1, 2, 3] rfl ?_
        exact lpI _ (at) _ rfl rfl (by omega)
  refine z_iload_n C 1 dX10_saysKind_0 rfl ?_
  refine z_iconst (z := 4) C dX10_saysKind_1 rfl ?_
  refine z_icmp_ne (tgt := 9) C dX10_saysKind_2 (by decide) (by omega) (by omega) (fun hby19 => ?_) (fun hby19 => ?_)
  · refine z_bipush (z := 9) C dX10_saysKind_9 (by decide) ?_
    refine z_iload_n C 1 dX10_saysKind_11 rfl ?_
    refine z_iadd C dX10_saysKind_12 ?_
    refine z_istore_n (lv' := [(2, .int (zI (9 + z))), (0, .ref (ad i)), (1, .int (zI (z)))]) C dX10_saysKind_13 rfl (by decide) rfl ?_
    refine z_iconst (z := 0) C dX10_saysKind_14 rfl ?_
    refine z_istore_n (lv' := [(3, .int (zI (0))), (2, .int (zI (9 + z))), (0, .ref (ad i)), (1, .int (zI (z)))]) C dX10_saysKind_15 rfl (by decide) rfl ?_
    refine z_iconst (z := 0) C dX10_saysKind_16 rfl ?_
    refine z_istore (lv' := [(4, .int (zI (0))), (3, .int (zI (0))), (2, .int (zI (9 + z))), (0, .ref (ad i)), (1, .int (zI (z)))]) C dX10_saysKind_17 (by decide) rfl ?_
    refine z_lv (lv' := [(0, .ref (ad i)), (2, .int (zI (9 + z))), (3, .int (zI (0))), (4, .int (zI (0)))]) [3, 2, 1, 0] rfl ?_
    exact lpO _ (9 + z) (0) (0) _ rfl rfl (by omega) (by omega)
  · refine z_iconst (z := 5) C dX10_saysKind_5 rfl ?_
    refine z_goto (tgt := 13) C dX10_saysKind_6 (by decide) ?_
    refine z_istore_n (lv' := [(2, .int (zI (5))), (0, .ref (ad i)), (1, .int (zI (z)))]) C dX10_saysKind_13 rfl (by decide) rfl ?_
    refine z_iconst (z := 0) C dX10_saysKind_14 rfl ?_
    refine z_istore_n (lv' := [(3, .int (zI (0))), (2, .int (zI (5))), (0, .ref (ad i)), (1, .int (zI (z)))]) C dX10_saysKind_15 rfl (by decide) rfl ?_
    refine z_iconst (z := 0) C dX10_saysKind_16 rfl ?_
    refine z_istore (lv' := [(4, .int (zI (0))), (3, .int (zI (0))), (2, .int (zI (5))), (0, .ref (ad i)), (1, .int (zI (z)))]) C dX10_saysKind_17 (by decide) rfl ?_
    refine z_lv (lv' := [(0, .ref (ad i)), (2, .int (zI (5))), (3, .int (zI (0))), (4, .int (zI (0)))]) [3, 2, 1, 0] rfl ?_
    exact lpO _ (5) (0) (0) _ rfl rfl (by omega) (by omega)

set_option maxRecDepth 100000 in
set_option maxHeartbeats 4000000 in
theorem c_X10_told_a (l : Launch) (D : va_G) (A : Nat → Prop) (cs : Nat → ClassId) (tt : Nat) (N : Nat) (ad : Nat → Nat) (g : Nat → va_E) (i : Nat) (hN : i + 30 ≤ N) (x : Int) (hx : 0 ≤ x ∧ x ≤ 512) (F r : Nat → Int) (hM : okMr cs ad g i x F r) (n : Nat) (hn4 : n < 4) (z1 : Int) (hz1 : -2147483648 ≤ z1 ∧ z1 ≤ 2147483647) (z2 : Int) (hz2 : -2147483648 ≤ z2 ∧ z2 ≤ 2147483647) : zM l yX10_told cX10_told 4 (some .int) ({ frames := 4, cells := 0, slots := 0, locals := 240 } : Room) D A cs tt N ad g [.ref (ad i), .int (zI ((n : Int))), .int (zI (z1)), .int (zI (z2))] (rI0 N ad fun q g' => (-2147483648 ≤ q ∧ q ≤ 2147483647) ∧ (∃ F' r' : Nat → Int, okMr cs ad g' i (x + 1) F' r' ∧ F' 23 = F 23) ∧ ∀ j, j < i ∨ i + 30 ≤ j → g' j = g j) := by
  obtain ⟨hg, ⟨⟨e13, e14, e25, e27, e29⟩, k15, k16, k17, k18, k19, k20, k23⟩, hRD, hTx, hA, st, op, ai, fa, mu, tb, ns, nh, nd, rf, pi, tp, te, ki, li, ok1, ok2, fo, dd, dps, ⟨ha1, ha2, ha3, ha4, ha5, ha6, ha7, ha8, ha9, ha10, ha11, ha12, ha13, ha14, ha15, ha24, ha25, ha26, ha27, ha28, ha29⟩, hEv, hPt, hns, htp⟩ := id hM
  obtain ⟨-, hop, hai, hfa, hT, hT1⟩ := id hEv
  have hay1 : zAt ad (i) (ad i) := rfl
  have hay2 : zAt ad (i + 1) (ad (i + 1)) := rfl
  have hay3 : zAt ad (i + 2) (ad (i + 2)) := rfl
  have hay4 : zAt ad (i + 3) (ad (i + 3)) := rfl
  have hay5 : zAt ad (i + 4) (ad (i + 4)) := rfl
  have hay6 : zAt ad (i + 5) (ad (i + 5)) := rfl
  have hay7 : zAt ad (i + 6) (ad (i + 6)) := rfl
  have hay8 : zAt ad (i + 7) (ad (i + 7)) := rfl
  have hay9 : zAt ad (i + 8) (ad (i + 8)) := rfl
  have hay10 : zAt ad (i + 9) (ad (i + 9)) := rfl
  have hay11 : zAt ad (i + 10) (ad (i + 10)) := rfl
  have hay12 : zAt ad (i + 11) (ad (i + 11)) := rfl
  have hay13 : zAt ad (i + 12) (ad (i + 12)) := rfl
  have hay14 : zAt ad (i + 13) (ad (i + 13)) := rfl
  have hay15 : zAt ad (i + 14) (ad (i + 14)) := rfl
  have hay16 : zAt ad (i + 15) (ad (i + 15)) := rfl
  have hay17 : zAt ad (i + 24) (ad (i + 24)) := rfl
  have hay18 : zAt ad (i + 25) (ad (i + 25)) := rfl
  have hay19 : zAt ad (i + 26) (ad (i + 26)) := rfl
  have hay20 : zAt ad (i + 27) (ad (i + 27)) := rfl
  have hay21 : zAt ad (i + 28) (ad (i + 28)) := rfl
  have hay22 : zAt ad (i + 29) (ad (i + 29)) := rfl
  obtain ⟨⟨hsyy23, htyy23, hnyy23, hpyy23⟩, hlyy23⟩ := okA.at0 hA
  simp only [Nat.zero_add] at hsyy23 hnyy23 hpyy23
  have hmn : ∀ s, s < 4 → 0 ≤ r (6 + 86 * s) ∧ r (6 + 86 * s) ≤ 12 := fun s hs => (hsyy23 s hs).1
  have h5 : 0 ≤ r 5 ∧ r 5 ≤ 6 := hpyy23
  refine z_of (by decide) (Nat.le_of_ble_eq_true rfl) ?_
  intro pZ eZ sZ mZ below meth cZ C hr hlk hnm
  refine z_lv (lv' := [(0, .ref (ad i)), (1, .int (zI ((n : Int)))), (2, .int (zI (z1))), (3, .int (zI (z2)))]) [0, 1, 2, 3] rfl ?_
  refine z_aload_n C 0 dX10_told_0 rfl ?_
  refine z_iconst (z := 0) C dX10_told_1 rfl ?_
  refine z_put (fs' := mF ad (i) (uZ F 12 (0))) C (by omega) hay1 hg tyX10 tyX10_ok nmX10 rfl inA_X10 12 (by decide) q_1471 rfl rfl rfl rfl (Nat.le_of_ble_eq_true rfl) rfl dX10_told_2 (fun gy24 egy25 => ?_)
  have hgy26 := up_s egy25
  refine z_aload_n C 0 dX10_told_5 rfl ?_
  refine z_iload_n C 1 dX10_told_6 rfl ?_
  refine z_iload_n C 2 dX10_told_7 rfl ?_
  have hgy27 := up_n egy25 ha1 (ne_o (i := i) (c := 1) (d := 0) rfl)
  have h13vy28 : (uZ F 12 (0)) 13 = F 13 := (fn rfl (by decide))
  have hey29 : (uZ F 12 (0)) 12 = 0 := (uZ_s _ _ _)
  obtain ⟨py30, hpy30⟩ : ∃ p9 : Nat, 0 + 6 + 86 * n = p9 := ⟨_, rfl⟩
  refine z_cV (As := [.int (zI ((n : Int))), .int (zI (z1))]) (rest := []) (ci := 12) C (c_X10_isLayer_a l D A cs tt N ad _ i hN _ hgy26 _ hgy27 hmn (by omega) (by omega) n py30 (by omega) (by omega) (z1) (by omega)) (by omega) hay1 hgy26 rfl rfl mv_yX10_isLayer q_1819 hd_yX10_isLayer (by decide) (Nat.le_of_ble_eq_true rfl) (by decide) dX10_told_8 rfl (kI0 fun vy28 gvy28 hvy28 => ?_)
  rw [h13vy28] at hvy28
  obtain ⟨hrvy28, ⟨Fvy28, hcvy28, htvy28, hFvy28⟩, hfvy28⟩ := hvy28
  rcases (show vy28 = 1 ∨ vy28 = 0 by omega) with rfl | rfl
  · have hxvy28 := hrvy28.2 rfl
    have hmpy30 := hmn n (by omega)
    rw [show 6 + 86 * n = py30 by omega] at hmpy30
    refine z_if_ne (tgt := 16) C dX10_told_11 (by decide) (by omega) (fun _ => ?_) (fun h => absurd h (by omega))
    refine z_aload_n C 0 dX10_told_16 rfl ?_
    refine z_iconst (z := 0) C dX10_told_17 rfl ?_
    refine z_put (fs' := mF ad (i) (uZ Fvy28 51 (0))) C (by omega) hay1 hcvy28 tyX10 tyX10_ok nmX10 rfl inA_X10 51 (by decide) q_1510 rfl rfl rfl rfl (Nat.le_of_ble_eq_true rfl) rfl dX10_told_18 (fun gy31 egy32 => ?_)
    have hgy33 := up_s egy32
    refine z_aload_n C 0 dX10_told_21 rfl ?_
    refine z_aload_n C 0 dX10_told_22 rfl ?_
    refine z_iconst (z := 0) C dX10_told_23 rfl ?_
    refine z_iload_n C 1 dX10_told_24 rfl ?_
    refine z_iload_n C 2 dX10_told_25 rfl ?_
    refine z_bipush (z := 6) C dX10_told_26 (by decide) ?_
    have hSy34 := ((okA.at0 hA).1.1 n (by omega)).of (p2 := py30) (by omega)
    obtain ⟨b1hSy34, b2hSy34, b3hSy34, b4hSy34⟩ := mBb (t := r 0 + x) (by omega)
    have hmky35 := hSy34.1
    obtain ⟨ky36, hky36⟩ : ∃ k9 : Nat, (z1) = (k9 : Int) := ⟨((z1) : Int).toNat, by omega⟩
    obtain ⟨qy37, hqy37⟩ : ∃ q9 : Nat, py30 + 2 + 7 * ky36 = q9 := ⟨_, rfl⟩
    obtain ⟨⟨hKzy38, hIzy38, hWzy38, hDzy38, hTzy38, hnzy38⟩, hmzy38, hdzy38⟩ := okS.layer hSy34 (k := ky36) (by omega) hqy37
    have hgy39 := (hfvy28 (i + 1) (ne_o (i := i) (c := 1) (d := 0) rfl)).trans hgy27
    have hgy40 := up_n egy32 hgy39 (ne_o (i := i) (c := 1) (d := 0) rfl)
    refine z_cV (As := [.int (zI (0)), .int (zI ((n : Int))), .int (zI (z1)), .int (zI (6))]) (rest := [.ref (ad i)]) (ci := 12) C (c_X10_of l D A cs tt N ad _ i hN _ hgy33 _ hgy40 0 n py30 hpy30 (by omega) (by omega) (z1) (6) (qy37 + 6) (by omega) (by omega) (by omega)) (by omega) hay1 hgy33 rfl rfl mv_yX10_of q_1749 hd_yX10_of (by decide) (Nat.le_of_ble_eq_true rfl) (by decide) dX10_told_28 rfl (kI0 fun vy41 gvy41 hvy41 => ?_)
    obtain ⟨rfl, rfl⟩ := hvy41
    have hgy42 := up_n egy25 ha24 (ne_o (i := i) (c := 24) (d := 0) rfl)
    have hgy43 := (hfvy28 (i + 24) (ne_o (i := i) (c := 24) (d := 0) rfl)).trans hgy42
    have hgy44 := up_n egy32 hgy43 (ne_o (i := i) (c := 24) (d := 0) rfl)
    have hey46 : (uZ Fvy28 51 (0)) 51 = 0 := (uZ_s _ _ _)
    refine z_cV (As := [.int (zI (r (qy37 + 6)))]) (rest := []) (ci := 12) C (c_X10_saysNumber5 l D A cs tt N ad _ i hN _ hgy33 _ hgy44 (by omega) (r (qy37 + 6)) (by omega)) (by omega) hay1 hgy33 rfl rfl mv_yX10_saysNumber q_1846 hd_yX10_saysNumber (by decide) (Nat.le_of_ble_eq_true rfl) (by decide) dX10_told_31 rfl (kV0 fun gvy45 hvy45 => ?_)
    obtain ⟨⟨Fvy45, hcvy45, hnvy45, hFvy45⟩, ⟨tvy45, htvy45⟩, hfvy45⟩ := hvy45
    have hovy45 : (uZ Fvy28 51 (0)) 51 = 0 := (uZ_s _ _ _)
    refine z_aload_n C 0 dX10_told_34 rfl ?_
    refine z_bipush (z := 32) C dX10_told_35 (by decide) ?_
    have hey48 : Fvy45 51 = Fvy45 51 := rfl
    refine z_cV (As := [.int (zI (32))]) (rest := []) (ci := 12) C (c_X10_says l D A cs tt N ad _ i hN _ hcvy45 _ htvy45 (by omega) (32)) (by omega) hay1 hcvy45 rfl rfl mv_yX10_says q_1850 hd_yX10_says (by decide) (Nat.le_of_ble_eq_true rfl) (by decide) dX10_told_37 rfl (kV0 fun gvy47 hvy47 => ?_)
    obtain ⟨⟨Fvy47, hcvy47, hnvy47, hFvy47⟩, ⟨tvy47, htvy47⟩, hfvy47⟩ := hvy47
    have hovy47 : Fvy45 51 = Fvy45 51 := rfl
    have hqvy47 : Fvy47 51 = Fvy45 51 + 1 := by omega
    clear hnvy47 hovy47
    refine z_aload_n C 0 dX10_told_40 rfl ?_
    refine z_aload_n C 0 dX10_told_41 rfl ?_
    refine z_iconst (z := 0) C dX10_told_42 rfl ?_
    refine z_iload_n C 1 dX10_told_43 rfl ?_
    refine z_iload_n C 2 dX10_told_44 rfl ?_
    refine z_iconst (z := 0) C dX10_told_45 rfl ?_
    have hgy49 := (hfvy45 (i + 1) (ne_o (i := i) (c := 1) (d := 0) rfl) (ne_o (i := i) (c := 1) (d := 24) rfl)).trans hgy40
    have hgy50 := (hfvy47 (i + 1) (ne_o (i := i) (c := 1) (d := 0) rfl) (ne_o (i := i) (c := 1) (d := 24) rfl)).trans hgy49
    refine z_cV (As := [.int (zI (0)), .int (zI ((n : Int))), .int (zI (z1)), .int (zI (0))]) (rest := [.ref (ad i)]) (ci := 12) C (c_X10_of l D A cs tt N ad _ i hN _ hcvy47 _ hgy50 0 n py30 hpy30 (by omega) (by omega) (z1) (0) (qy37) (by omega) (by omega) (by omega)) (by omega) hay1 hcvy47 rfl rfl mv_yX10_of q_1749 hd_yX10_of (by decide) (Nat.le_of_ble_eq_true rfl) (by decide) dX10_told_46 rfl (kI0 fun vy51 gvy51 hvy51 => ?_)
    obtain ⟨rfl, rfl⟩ := hvy51
    have hey53 : Fvy47 51 = Fvy45 51 + 1 := hqvy47
    refine z_cV (As := [.int (zI (r (qy37)))]) (rest := []) (ci := 12) C (c_X10_saysKind l D A cs tt N ad _ i hN _ hcvy47 _ htvy47 (by omega) (r (qy37)) (by omega)) (by omega) hay1 hcvy47 rfl rfl mv_yX10_saysKind q_1854 hd_yX10_saysKind (by decide) (Nat.le_of_ble_eq_true rfl) (by decide) dX10_told_49 rfl (kV0 fun gvy52 hvy52 => ?_)
    obtain ⟨⟨Fvy52, hcvy52, hnvy52, hFvy52⟩, ⟨tvy52, htvy52⟩, hfvy52⟩ := hvy52
    have hovy52 : Fvy47 51 = Fvy45 51 + 1 := hqvy47
    refine z_aload_n C 0 dX10_told_52 rfl ?_
    refine z_bipush (z := 111) C dX10_told_53 (by decide) ?_
    refine z_bipush (z := 102) C dX10_told_55 (by decide) ?_
    have hey55 : Fvy52 51 = Fvy52 51 := rfl
    refine z_cV (As := [.int (zI (111)), .int (zI (102))]) (rest := []) (ci := 12) C (c_X10_saysWord l D A cs tt N ad _ i hN _ hcvy52 _ htvy52 (by omega) (111) (102)) (by omega) hay1 hcvy52 rfl rfl mv_yX10_saysWord q_1858 hd_yX10_saysWord (by decide) (Nat.le_of_ble_eq_true rfl) (by decide) dX10_told_57 rfl (kV0 fun gvy54 hvy54 => ?_)
    obtain ⟨⟨Fvy54, hcvy54, hnvy54, hFvy54⟩, ⟨tvy54, htvy54⟩, hfvy54⟩ := hvy54
    have hovy54 : Fvy52 51 = Fvy52 51 := rfl
    have hqvy54 : Fvy54 51 = Fvy52 51 + 4 := by omega
    clear hnvy54 hovy54
    refine z_aload_n C 0 dX10_told_60 rfl ?_
    refine z_aload_n C 0 dX10_told_61 rfl ?_
    refine z_iconst (z := 0) C dX10_told_62 rfl ?_
    refine z_iload_n C 1 dX10_told_63 rfl ?_
    refine z_iload_n C 2 dX10_told_64 rfl ?_
    refine z_iconst (z := 1) C dX10_told_65 rfl ?_
    have hgy56 := (hfvy52 (i + 1) (ne_o (i := i) (c := 1) (d := 0) rfl) (ne_o (i := i) (c := 1) (d := 24) rfl)).trans hgy50
    have hgy57 := (hfvy54 (i + 1) (ne_o (i := i) (c := 1) (d := 0) rfl) (ne_o (i := i) (c := 1) (d := 24) rfl)).trans hgy56
    refine z_cV (As := [.int (zI (0)), .int (zI ((n : Int))), .int (zI (z1)), .int (zI (1))]) (rest := [.ref (ad i)]) (ci := 12) C (c_X10_of l D A cs tt N ad _ i hN _ hcvy54 _ hgy57 0 n py30 hpy30 (by omega) (by omega) (z1) (1) (qy37 + 1) (by omega) (by omega) (by omega)) (by omega) hay1 hcvy54 rfl rfl mv_yX10_of q_1749 hd_yX10_of (by decide) (Nat.le_of_ble_eq_true rfl) (by decide) dX10_told_66 rfl (kI0 fun vy58 gvy58 hvy58 => ?_)
    obtain ⟨rfl, rfl⟩ := hvy58
    have hey60 : Fvy54 51 = Fvy52 51 + 4 := hqvy54
    refine z_cV (As := [.int (zI (r (qy37 + 1)))]) (rest := []) (ci := 12) C (c_X10_saysNumber9 l D A cs tt N ad _ i hN _ hcvy54 _ htvy54 (by omega) (r (qy37 + 1)) (by omega)) (by omega) hay1 hcvy54 rfl rfl mv_yX10_saysNumber q_1846 hd_yX10_saysNumber (by decide) (Nat.le_of_ble_eq_true rfl) (by decide) dX10_told_69 rfl (kV0 fun gvy59 hvy59 => ?_)
    obtain ⟨⟨Fvy59, hcvy59, hnvy59, hFvy59⟩, ⟨tvy59, htvy59⟩, hfvy59⟩ := hvy59
    have hovy59 : Fvy54 51 = Fvy52 51 + 4 := hqvy54
    refine z_aload_n C 0 dX10_told_72 rfl ?_
    refine z_iconst (z := 0) C dX10_told_73 rfl ?_
    refine z_iload_n C 1 dX10_told_74 rfl ?_
    refine z_iload_n C 2 dX10_told_75 rfl ?_
    refine z_iconst (z := 2) C dX10_told_76 rfl ?_
    have hgy61 := (hfvy59 (i + 1) (ne_o (i := i) (c := 1) (d := 0) rfl) (ne_o (i := i) (c := 1) (d := 24) rfl)).trans hgy57
    refine z_cV (As := [.int (zI (0)), .int (zI ((n : Int))), .int (zI (z1)), .int (zI (2))]) (rest := []) (ci := 12) C (c_X10_of l D A cs tt N ad _ i hN _ hcvy59 _ hgy61 0 n py30 hpy30 (by omega) (by omega) (z1) (2) (qy37 + 2) (by omega) (by omega) (by omega)) (by omega) hay1 hcvy59 rfl rfl mv_yX10_of q_1749 hd_yX10_of (by decide) (Nat.le_of_ble_eq_true rfl) (by decide) dX10_told_77 rfl (kI0 fun vy62 gvy62 hvy62 => ?_)
    obtain ⟨rfl, rfl⟩ := hvy62
    refine z_if_le (tgt := 125) C dX10_told_80 (by decide) (by omega) (fun hby63 => ?_) (fun hby63 => ?_)
    · refine z_aload_n C 0 dX10_told_125 rfl ?_
      refine z_bipush (z := 105) C dX10_told_126 (by decide) ?_
      refine z_bipush (z := 110) C dX10_told_128 (by decide) ?_
      have hey65 : Fvy59 51 = Fvy59 51 := rfl
      refine z_cV (As := [.int (zI (105)), .int (zI (110))]) (rest := []) (ci := 12) C (c_X10_saysWord l D A cs tt N ad _ i hN _ hcvy59 _ htvy59 (by omega) (105) (110)) (by omega) hay1 hcvy59 rfl rfl mv_yX10_saysWord q_1858 hd_yX10_saysWord (by decide) (Nat.le_of_ble_eq_true rfl) (by decide) dX10_told_130 rfl (kV0 fun gvy64 hvy64 => ?_)
      obtain ⟨⟨Fvy64, hcvy64, hnvy64, hFvy64⟩, ⟨tvy64, htvy64⟩, hfvy64⟩ := hvy64
      have hovy64 : Fvy59 51 = Fvy59 51 := rfl
      have hqvy64 : Fvy64 51 = Fvy59 51 + 4 := by omega
      clear hnvy64 hovy64
      refine z_aload_n C 0 dX10_told_133 rfl ?_
      refine z_aload_n C 0 dX10_told_134 rfl ?_
      refine z_iconst (z := 0) C dX10_told_135 rfl ?_
      refine z_iload_n C 1 dX10_told_136 rfl ?_
      refine z_iload_n C 2 dX10_told_137 rfl ?_
      refine z_iconst (z := 3) C dX10_told_138 rfl ?_
      have hgy66 := (hfvy64 (i + 1) (ne_o (i := i) (c := 1) (d := 0) rfl) (ne_o (i := i) (c := 1) (d := 24) rfl)).trans hgy61
      refine z_cV (As := [.int (zI (0)), .int (zI ((n : Int))), .int (zI (z1)), .int (zI (3))]) (rest := [.ref (ad i)]) (ci := 12) C (c_X10_of l D A cs tt N ad _ i hN _ hcvy64 _ hgy66 0 n py30 hpy30 (by omega) (by omega) (z1) (3) (qy37 + 3) (by omega) (by omega) (by omega)) (by omega) hay1 hcvy64 rfl rfl mv_yX10_of q_1749 hd_yX10_of (by decide) (Nat.le_of_ble_eq_true rfl) (by decide) dX10_told_139 rfl (kI0 fun vy67 gvy67 hvy67 => ?_)
      obtain ⟨rfl, rfl⟩ := hvy67
      have hey69 : Fvy64 51 = Fvy59 51 + 4 := hqvy64
      refine z_cV (As := [.int (zI (r (qy37 + 3)))]) (rest := []) (ci := 12) C (c_X10_saysNumber9 l D A cs tt N ad _ i hN _ hcvy64 _ htvy64 (by omega) (r (qy37 + 3)) (by omega)) (by omega) hay1 hcvy64 rfl rfl mv_yX10_saysNumber q_1846 hd_yX10_saysNumber (by decide) (Nat.le_of_ble_eq_true rfl) (by decide) dX10_told_142 rfl (kV0 fun gvy68 hvy68 => ?_)
      obtain ⟨⟨Fvy68, hcvy68, hnvy68, hFvy68⟩, ⟨tvy68, htvy68⟩, hfvy68⟩ := hvy68
      have hovy68 : Fvy64 51 = Fvy59 51 + 4 := hqvy64
      refine z_aload_n C 0 dX10_told_145 rfl ?_
      refine z_bipush (z := 97) C dX10_told_146 (by decide) ?_
      refine z_bipush (z := 116) C dX10_told_148 (by decide) ?_
      have hey71 : Fvy68 51 = Fvy68 51 := rfl
      refine z_cV (As := [.int (zI (97)), .int (zI (116))]) (rest := []) (ci := 12) C (c_X10_saysWord l D A cs tt N ad _ i hN _ hcvy68 _ htvy68 (by omega) (97) (116)) (by omega) hay1 hcvy68 rfl rfl mv_yX10_saysWord q_1858 hd_yX10_saysWord (by decide) (Nat.le_of_ble_eq_true rfl) (by decide) dX10_told_150 rfl (kV0 fun gvy70 hvy70 => ?_)
      obtain ⟨⟨Fvy70, hcvy70, hnvy70, hFvy70⟩, ⟨tvy70, htvy70⟩, hfvy70⟩ := hvy70
      have hovy70 : Fvy68 51 = Fvy68 51 := rfl
      have hqvy70 : Fvy70 51 = Fvy68 51 + 4 := by omega
      clear hnvy70 hovy70
      refine z_aload_n C 0 dX10_told_153 rfl ?_
      refine z_aload_n C 0 dX10_told_154 rfl ?_
      refine z_iconst (z := 0) C dX10_told_155 rfl ?_
      refine z_iload_n C 1 dX10_told_156 rfl ?_
      refine z_iload_n C 2 dX10_told_157 rfl ?_
      refine z_iconst (z := 4) C dX10_told_158 rfl ?_
      have hgy72 := (hfvy68 (i + 1) (ne_o (i := i) (c := 1) (d := 0) rfl) (ne_o (i := i) (c := 1) (d := 24) rfl)).trans hgy66
      have hgy73 := (hfvy70 (i + 1) (ne_o (i := i) (c := 1) (d := 0) rfl) (ne_o (i := i) (c := 1) (d := 24) rfl)).trans hgy72
      refine z_cV (As := [.int (zI (0)), .int (zI ((n : Int))), .int (zI (z1)), .int (zI (4))]) (rest := [.ref (ad i)]) (ci := 12) C (c_X10_of l D A cs tt N ad _ i hN _ hcvy70 _ hgy73 0 n py30 hpy30 (by omega) (by omega) (z1) (4) (qy37 + 4) (by omega) (by omega) (by omega)) (by omega) hay1 hcvy70 rfl rfl mv_yX10_of q_1749 hd_yX10_of (by decide) (Nat.le_of_ble_eq_true rfl) (by decide) dX10_told_159 rfl (kI0 fun vy74 gvy74 hvy74 => ?_)
      obtain ⟨rfl, rfl⟩ := hvy74
      have hey76 : Fvy70 51 = Fvy68 51 + 4 := hqvy70
      refine z_cV (As := [.int (zI (r (qy37 + 4)))]) (rest := []) (ci := 12) C (c_X10_saysNumber5 l D A cs tt N ad _ i hN _ hcvy70 _ htvy70 (by omega) (r (qy37 + 4)) (by omega)) (by omega) hay1 hcvy70 rfl rfl mv_yX10_saysNumber q_1846 hd_yX10_saysNumber (by decide) (Nat.le_of_ble_eq_true rfl) (by decide) dX10_told_162 rfl (kV0 fun gvy75 hvy75 => ?_)
      obtain ⟨⟨Fvy75, hcvy75, hnvy75, hFvy75⟩, ⟨tvy75, htvy75⟩, hfvy75⟩ := hvy75
      have hovy75 : Fvy70 51 = Fvy68 51 + 4 := hqvy70
      refine z_aload_n C 0 dX10_told_165 rfl ?_
      refine z_bipush (z := 59) C dX10_told_166 (by decide) ?_
      have hey78 : Fvy75 51 = Fvy75 51 := rfl
      refine z_cV (As := [.int (zI (59))]) (rest := []) (ci := 12) C (c_X10_says l D A cs tt N ad _ i hN _ hcvy75 _ htvy75 (by omega) (59)) (by omega) hay1 hcvy75 rfl rfl mv_yX10_says q_1850 hd_yX10_says (by decide) (Nat.le_of_ble_eq_true rfl) (by decide) dX10_told_168 rfl (kV0 fun gvy77 hvy77 => ?_)
      obtain ⟨⟨Fvy77, hcvy77, hnvy77, hFvy77⟩, ⟨tvy77, htvy77⟩, hfvy77⟩ := hvy77
      have hovy77 : Fvy75 51 = Fvy75 51 := rfl
      have hqvy77 : Fvy77 51 = Fvy75 51 + 1 := by omega
      clear hnvy77 hovy77
      refine z_iload_n C 3 dX10_told_171 rfl ?_
      refine z_iconst (z := -1) C dX10_told_172 rfl ?_
      refine z_icmp_ne (tgt := 181) C dX10_told_173 (by decide) (by omega) (by omega) (fun hby79 => ?_) (fun hby79 => ?_)
      · refine z_aload_n C 0 dX10_told_181 rfl ?_
        refine z_iload_n C 3 dX10_told_182 rfl ?_
        refine z_iconst (z := 0) C dX10_told_183 rfl ?_
        refine z_aload_n C 0 dX10_told_184 rfl ?_
        refine z_get (v := .int (zI (Fvy75 51 + 1))) C (by omega) hay1 hcvy77 rfl inA_X10 51 (by decide) q_1510 rfl (fv (F := Fvy77) (f := 51) hqvy77) dX10_told_185 ?_
        refine z_iconst (z := 1) C dX10_told_188 rfl ?_
        refine z_isub C dX10_told_189 ?_
        refine z_cS (As := [.int (zI (z2)), .int (zI (0)), .int (zI ((Fvy75 51 + 1) - 1))]) (rest := [.ref (ad i)]) C (c_X10_within l D A cs tt N ad _ (z2) (by omega) (0) (by omega) ((Fvy75 51 + 1) - 1) (by omega)) ms_yX10_within q_1686 hd_yX10_within (by decide) (Nat.le_of_ble_eq_true rfl) (by decide) dX10_told_190 rfl (kI0 fun vy80 gvy80 hvy80 => ?_)
        obtain ⟨hvy80, rfl⟩ := hvy80
        rcases hvy80 with ⟨rfl, hxvy80⟩ | ⟨rfl, hxvy80⟩
        · refine z_iconst (z := 1) C dX10_told_193 rfl ?_
          have hey82 : Fvy77 12 = Fvy28 12 := ((hFvy77 12 (by decide)).trans ((hFvy75 12 (by decide)).trans ((hFvy70 12 (by decide)).trans ((hFvy68 12 (by decide)).trans ((hFvy64 12 (by decide)).trans ((hFvy59 12 (by decide)).trans ((hFvy54 12 (by decide)).trans ((hFvy52 12 (by decide)).trans ((hFvy47 12 (by decide)).trans ((hFvy45 12 (by decide)).trans (fn rfl (by decide))))))))))))
          refine z_cV (As := [.int (zI (1)), .int (zI (1))]) (rest := []) (ci := 12) C (c_X10_right l D A cs tt N ad _ i hN _ hcvy77 (by omega) (1) (by omega) (1) (by omega)) (by omega) hay1 hcvy77 rfl rfl mv_yX10_right q_1648 hd_yX10_right (by decide) (Nat.le_of_ble_eq_true rfl) (by decide) dX10_told_194 rfl (kI0 fun vy81 gvy81 hvy81 => ?_)
          obtain ⟨hrvy81, ⟨Fvy81, hcvy81, htvy81, hFvy81⟩, hfvy81⟩ := hvy81
          rcases (show vy81 = 1 ∨ vy81 = 0 by omega) with rfl | rfl
          · refine z_if_eq (tgt := 209) C dX10_told_197 (by decide) (by omega) (fun h => absurd h (by omega)) (fun _ => ?_)
            refine z_aload_n C 0 dX10_told_200 rfl ?_
            refine z_get (v := .ref (ad (i + 24))) C (by omega) hay1 hcvy81 rfl inA_X10 50 (by decide) q_1509 rfl rfl dX10_told_201 ?_
            refine z_iload_n C 3 dX10_told_204 rfl ?_
            have hgy83 := (hfvy81 (i + 24) (ne_o (i := i) (c := 24) (d := 0) rfl)).trans htvy77
            refine z_iald C (by omega) hay17 hgy83 ((z2).toNat) (by omega) (by omega) (by decide) dX10_told_205 ?_
            refine z_goto (tgt := 210) C dX10_told_206 (by decide) ?_
            obtain ⟨xy84, exy85, hxy86⟩ := zI_of (zI (tvy77 ((z2).toNat)))
            rw [exy85]
            have hgy87 := (hfvy75 (i + 1) (ne_o (i := i) (c := 1) (d := 0) rfl) (ne_o (i := i) (c := 1) (d := 24) rfl)).trans hgy73
            have hgy88 := (hfvy77 (i + 1) (ne_o (i := i) (c := 1) (d := 0) rfl) (ne_o (i := i) (c := 1) (d := 24) rfl)).trans hgy87
            have hgy89 := (hfvy81 (i + 1) (ne_o (i := i) (c := 1) (d := 0) rfl)).trans hgy88
            have hFy90 : ∀ f, f ≠ 12 → f ≠ 51 → Fvy81 f = F f := fun f n12 n51 => ((hFvy81 f n12).trans ((hFvy77 f n51).trans ((hFvy75 f n51).trans ((hFvy70 f n51).trans ((hFvy68 f n51).trans ((hFvy64 f n51).trans ((hFvy59 f n51).trans ((hFvy54 f n51).trans ((hFvy52 f n51).trans ((hFvy47 f n51).trans ((hFvy45 f n51).trans ((uZ_n _ _ n51).trans ((hFvy28 f n12).trans ((uZ_n _ _ n12).trans rfl))))))))))))))
            have hey91 : Fvy81 13 = F 13 := ((hFvy81 13 (by decide)).trans ((hFvy77 13 (by decide)).trans ((hFvy75 13 (by decide)).trans ((hFvy70 13 (by decide)).trans ((hFvy68 13 (by decide)).trans ((hFvy64 13 (by decide)).trans ((hFvy59 13 (by decide)).trans ((hFvy54 13 (by decide)).trans ((hFvy52 13 (by decide)).trans ((hFvy47 13 (by decide)).trans ((hFvy45 13 (by decide)).trans (fn ((hFvy28 13 (by decide)).trans (fn rfl (by decide))) (by decide)))))))))))))
            have hey92 : Fvy81 14 = F 14 := ((hFvy81 14 (by decide)).trans ((hFvy77 14 (by decide)).trans ((hFvy75 14 (by decide)).trans ((hFvy70 14 (by decide)).trans ((hFvy68 14 (by decide)).trans ((hFvy64 14 (by decide)).trans ((hFvy59 14 (by decide)).trans ((hFvy54 14 (by decide)).trans ((hFvy52 14 (by decide)).trans ((hFvy47 14 (by decide)).trans ((hFvy45 14 (by decide)).trans (fn ((hFvy28 14 (by decide)).trans (fn rfl (by decide))) (by decide)))))))))))))
            have hey93 : Fvy81 15 = F 15 := ((hFvy81 15 (by decide)).trans ((hFvy77 15 (by decide)).trans ((hFvy75 15 (by decide)).trans ((hFvy70 15 (by decide)).trans ((hFvy68 15 (by decide)).trans ((hFvy64 15 (by decide)).trans ((hFvy59 15 (by decide)).trans ((hFvy54 15 (by decide)).trans ((hFvy52 15 (by decide)).trans ((hFvy47 15 (by decide)).trans ((hFvy45 15 (by decide)).trans (fn ((hFvy28 15 (by decide)).trans (fn rfl (by decide))) (by decide)))))))))))))
            have hey94 : Fvy81 16 = F 16 := ((hFvy81 16 (by decide)).trans ((hFvy77 16 (by decide)).trans ((hFvy75 16 (by decide)).trans ((hFvy70 16 (by decide)).trans ((hFvy68 16 (by decide)).trans ((hFvy64 16 (by decide)).trans ((hFvy59 16 (by decide)).trans ((hFvy54 16 (by decide)).trans ((hFvy52 16 (by decide)).trans ((hFvy47 16 (by decide)).trans ((hFvy45 16 (by decide)).trans (fn ((hFvy28 16 (by decide)).trans (fn rfl (by decide))) (by decide)))))))))))))
            have hey95 : Fvy81 17 = F 17 := ((hFvy81 17 (by decide)).trans ((hFvy77 17 (by decide)).trans ((hFvy75 17 (by decide)).trans ((hFvy70 17 (by decide)).trans ((hFvy68 17 (by decide)).trans ((hFvy64 17 (by decide)).trans ((hFvy59 17 (by decide)).trans ((hFvy54 17 (by decide)).trans ((hFvy52 17 (by decide)).trans ((hFvy47 17 (by decide)).trans ((hFvy45 17 (by decide)).trans (fn ((hFvy28 17 (by decide)).trans (fn rfl (by decide))) (by decide)))))))))))))
            have hey96 : Fvy81 18 = F 18 := ((hFvy81 18 (by decide)).trans ((hFvy77 18 (by decide)).trans ((hFvy75 18 (by decide)).trans ((hFvy70 18 (by decide)).trans ((hFvy68 18 (by decide)).trans ((hFvy64 18 (by decide)).trans ((hFvy59 18 (by decide)).trans ((hFvy54 18 (by decide)).trans ((hFvy52 18 (by decide)).trans ((hFvy47 18 (by decide)).trans ((hFvy45 18 (by decide)).trans (fn ((hFvy28 18 (by decide)).trans (fn rfl (by decide))) (by decide)))))))))))))
            have hey97 : Fvy81 19 = F 19 := ((hFvy81 19 (by decide)).trans ((hFvy77 19 (by decide)).trans ((hFvy75 19 (by decide)).trans ((hFvy70 19 (by decide)).trans ((hFvy68 19 (by decide)).trans ((hFvy64 19 (by decide)).trans ((hFvy59 19 (by decide)).trans ((hFvy54 19 (by decide)).trans ((hFvy52 19 (by decide)).trans ((hFvy47 19 (by decide)).trans ((hFvy45 19 (by decide)).trans (fn ((hFvy28 19 (by decide)).trans (fn rfl (by decide))) (by decide)))))))))))))
            have hey98 : Fvy81 20 = F 20 := ((hFvy81 20 (by decide)).trans ((hFvy77 20 (by decide)).trans ((hFvy75 20 (by decide)).trans ((hFvy70 20 (by decide)).trans ((hFvy68 20 (by decide)).trans ((hFvy64 20 (by decide)).trans ((hFvy59 20 (by decide)).trans ((hFvy54 20 (by decide)).trans ((hFvy52 20 (by decide)).trans ((hFvy47 20 (by decide)).trans ((hFvy45 20 (by decide)).trans (fn ((hFvy28 20 (by decide)).trans (fn rfl (by decide))) (by decide)))))))))))))
            have hey99 : Fvy81 23 = F 23 := ((hFvy81 23 (by decide)).trans ((hFvy77 23 (by decide)).trans ((hFvy75 23 (by decide)).trans ((hFvy70 23 (by decide)).trans ((hFvy68 23 (by decide)).trans ((hFvy64 23 (by decide)).trans ((hFvy59 23 (by decide)).trans ((hFvy54 23 (by decide)).trans ((hFvy52 23 (by decide)).trans ((hFvy47 23 (by decide)).trans ((hFvy45 23 (by decide)).trans (fn ((hFvy28 23 (by decide)).trans (fn rfl (by decide))) (by decide)))))))))))))
            have hey100 : Fvy81 25 = F 25 := ((hFvy81 25 (by decide)).trans ((hFvy77 25 (by decide)).trans ((hFvy75 25 (by decide)).trans ((hFvy70 25 (by decide)).trans ((hFvy68 25 (by decide)).trans ((hFvy64 25 (by decide)).trans ((hFvy59 25 (by decide)).trans ((hFvy54 25 (by decide)).trans ((hFvy52 25 (by decide)).trans ((hFvy47 25 (by decide)).trans ((hFvy45 25 (by decide)).trans (fn ((hFvy28 25 (by decide)).trans (fn rfl (by decide))) (by decide)))))))))))))
            have hey101 : Fvy81 27 = F 27 := ((hFvy81 27 (by decide)).trans ((hFvy77 27 (by decide)).trans ((hFvy75 27 (by decide)).trans ((hFvy70 27 (by decide)).trans ((hFvy68 27 (by decide)).trans ((hFvy64 27 (by decide)).trans ((hFvy59 27 (by decide)).trans ((hFvy54 27 (by decide)).trans ((hFvy52 27 (by decide)).trans ((hFvy47 27 (by decide)).trans ((hFvy45 27 (by decide)).trans (fn ((hFvy28 27 (by decide)).trans (fn rfl (by decide))) (by decide)))))))))))))
            have hey102 : Fvy81 28 = F 28 := ((hFvy81 28 (by decide)).trans ((hFvy77 28 (by decide)).trans ((hFvy75 28 (by decide)).trans ((hFvy70 28 (by decide)).trans ((hFvy68 28 (by decide)).trans ((hFvy64 28 (by decide)).trans ((hFvy59 28 (by decide)).trans ((hFvy54 28 (by decide)).trans ((hFvy52 28 (by decide)).trans ((hFvy47 28 (by decide)).trans ((hFvy45 28 (by decide)).trans (fn ((hFvy28 28 (by decide)).trans (fn rfl (by decide))) (by decide)))))))))))))
            have hey103 : Fvy81 29 = F 29 := ((hFvy81 29 (by decide)).trans ((hFvy77 29 (by decide)).trans ((hFvy75 29 (by decide)).trans ((hFvy70 29 (by decide)).trans ((hFvy68 29 (by decide)).trans ((hFvy64 29 (by decide)).trans ((hFvy59 29 (by decide)).trans ((hFvy54 29 (by decide)).trans ((hFvy52 29 (by decide)).trans ((hFvy47 29 (by decide)).trans ((hFvy45 29 (by decide)).trans (fn ((hFvy28 29 (by decide)).trans (fn rfl (by decide))) (by decide)))))))))))))
            have hKy104 : okF Fvy81 := by unfold okF; omega
            have hMy105 : okMr cs ad gvy81 i (x + 1) Fvy81 r := okMr.upd hM hcvy81 hKy104 (fun f a => hFy90 f (by omega) (by omega)) hgy89 (hA.mono (by omega)) (fun j a b => by
                by_cases e0 : j = i + 24
                · exact Or.inr ⟨24, _, e0, lsP.l (by decide), by rw [e0]; exact hgy83⟩
                exact Or.inl (by rw [hfvy81 _ (by omega)]; rw [hfvy77 _ (by omega) (by omega)]; rw [hfvy75 _ (by omega) (by omega)]; rw [hfvy70 _ (by omega) (by omega)]; rw [hfvy68 _ (by omega) (by omega)]; rw [hfvy64 _ (by omega) (by omega)]; rw [hfvy59 _ (by omega) (by omega)]; rw [hfvy54 _ (by omega) (by omega)]; rw [hfvy52 _ (by omega) (by omega)]; rw [hfvy47 _ (by omega) (by omega)]; rw [hfvy45 _ (by omega) (by omega)]; rw [egy32, va_up_ne _ _ (by omega)]; rw [hfvy28 _ (by omega)]; rw [egy25, va_up_ne _ _ (by omega)]))
            have h23 : Fvy81 23 = F 23 := ((hFvy81 23 (by decide)).trans ((hFvy77 23 (by decide)).trans ((hFvy75 23 (by decide)).trans ((hFvy70 23 (by decide)).trans ((hFvy68 23 (by decide)).trans ((hFvy64 23 (by decide)).trans ((hFvy59 23 (by decide)).trans ((hFvy54 23 (by decide)).trans ((hFvy52 23 (by decide)).trans ((hFvy47 23 (by decide)).trans ((hFvy45 23 (by decide)).trans (fn ((hFvy28 23 (by decide)).trans (fn rfl (by decide))) (by decide)))))))))))))
            exact z_iret C hr hlk dX10_told_210 (by decide) (by decide) ⟨xy84, rfl, rfl, rfl, by omega, ⟨_, _, hMy105, by omega⟩, fun j j1 => by rw [hfvy81 _ (by omega)]; rw [hfvy77 _ (by omega) (by omega)]; rw [hfvy75 _ (by omega) (by omega)]; rw [hfvy70 _ (by omega) (by omega)]; rw [hfvy68 _ (by omega) (by omega)]; rw [hfvy64 _ (by omega) (by omega)]; rw [hfvy59 _ (by omega) (by omega)]; rw [hfvy54 _ (by omega) (by omega)]; rw [hfvy52 _ (by omega) (by omega)]; rw [hfvy47 _ (by omega) (by omega)]; rw [hfvy45 _ (by omega) (by omega)]; rw [egy32, va_up_ne _ _ (by omega)]; rw [hfvy28 _ (by omega)]; rw [egy25, va_up_ne _ _ (by omega)]⟩
          · refine z_if_eq (tgt := 209) C dX10_told_197 (by decide) (by omega) (fun _ => ?_) (fun h => absurd h (by omega))
            refine z_iconst (z := 0) C dX10_told_209 rfl ?_
            have hgy106 := (hfvy75 (i + 1) (ne_o (i := i) (c := 1) (d := 0) rfl) (ne_o (i := i) (c := 1) (d := 24) rfl)).trans hgy73
            have hgy107 := (hfvy77 (i + 1) (ne_o (i := i) (c := 1) (d := 0) rfl) (ne_o (i := i) (c := 1) (d := 24) rfl)).trans hgy106
            have hgy108 := (hfvy81 (i + 1) (ne_o (i := i) (c := 1) (d := 0) rfl)).trans hgy107
            have hFy109 : ∀ f, f ≠ 12 → f ≠ 51 → Fvy81 f = F f := fun f n12 n51 => ((hFvy81 f n12).trans ((hFvy77 f n51).trans ((hFvy75 f n51).trans ((hFvy70 f n51).trans ((hFvy68 f n51).trans ((hFvy64 f n51).trans ((hFvy59 f n51).trans ((hFvy54 f n51).trans ((hFvy52 f n51).trans ((hFvy47 f n51).trans ((hFvy45 f n51).trans ((uZ_n _ _ n51).trans ((hFvy28 f n12).trans ((uZ_n _ _ n12).trans rfl))))))))))))))
            have hey110 : Fvy81 13 = F 13 := ((hFvy81 13 (by decide)).trans ((hFvy77 13 (by decide)).trans ((hFvy75 13 (by decide)).trans ((hFvy70 13 (by decide)).trans ((hFvy68 13 (by decide)).trans ((hFvy64 13 (by decide)).trans ((hFvy59 13 (by decide)).trans ((hFvy54 13 (by decide)).trans ((hFvy52 13 (by decide)).trans ((hFvy47 13 (by decide)).trans ((hFvy45 13 (by decide)).trans (fn ((hFvy28 13 (by decide)).trans (fn rfl (by decide))) (by decide)))))))))))))
            have hey111 : Fvy81 14 = F 14 := ((hFvy81 14 (by decide)).trans ((hFvy77 14 (by decide)).trans ((hFvy75 14 (by decide)).trans ((hFvy70 14 (by decide)).trans ((hFvy68 14 (by decide)).trans ((hFvy64 14 (by decide)).trans ((hFvy59 14 (by decide)).trans ((hFvy54 14 (by decide)).trans ((hFvy52 14 (by decide)).trans ((hFvy47 14 (by decide)).trans ((hFvy45 14 (by decide)).trans (fn ((hFvy28 14 (by decide)).trans (fn rfl (by decide))) (by decide)))))))))))))
            have hey112 : Fvy81 15 = F 15 := ((hFvy81 15 (by decide)).trans ((hFvy77 15 (by decide)).trans ((hFvy75 15 (by decide)).trans ((hFvy70 15 (by decide)).trans ((hFvy68 15 (by decide)).trans ((hFvy64 15 (by decide)).trans ((hFvy59 15 (by decide)).trans ((hFvy54 15 (by decide)).trans ((hFvy52 15 (by decide)).trans ((hFvy47 15 (by decide)).trans ((hFvy45 15 (by decide)).trans (fn ((hFvy28 15 (by decide)).trans (fn rfl (by decide))) (by decide)))))))))))))
            have hey113 : Fvy81 16 = F 16 := ((hFvy81 16 (by decide)).trans ((hFvy77 16 (by decide)).trans ((hFvy75 16 (by decide)).trans ((hFvy70 16 (by decide)).trans ((hFvy68 16 (by decide)).trans ((hFvy64 16 (by decide)).trans ((hFvy59 16 (by decide)).trans ((hFvy54 16 (by decide)).trans ((hFvy52 16 (by decide)).trans ((hFvy47 16 (by decide)).trans ((hFvy45 16 (by decide)).trans (fn ((hFvy28 16 (by decide)).trans (fn rfl (by decide))) (by decide)))))))))))))
            have hey114 : Fvy81 17 = F 17 := ((hFvy81 17 (by decide)).trans ((hFvy77 17 (by decide)).trans ((hFvy75 17 (by decide)).trans ((hFvy70 17 (by decide)).trans ((hFvy68 17 (by decide)).trans ((hFvy64 17 (by decide)).trans ((hFvy59 17 (by decide)).trans ((hFvy54 17 (by decide)).trans ((hFvy52 17 (by decide)).trans ((hFvy47 17 (by decide)).trans ((hFvy45 17 (by decide)).trans (fn ((hFvy28 17 (by decide)).trans (fn rfl (by decide))) (by decide)))))))))))))
            have hey115 : Fvy81 18 = F 18 := ((hFvy81 18 (by decide)).trans ((hFvy77 18 (by decide)).trans ((hFvy75 18 (by decide)).trans ((hFvy70 18 (by decide)).trans ((hFvy68 18 (by decide)).trans ((hFvy64 18 (by decide)).trans ((hFvy59 18 (by decide)).trans ((hFvy54 18 (by decide)).trans ((hFvy52 18 (by decide)).trans ((hFvy47 18 (by decide)).trans ((hFvy45 18 (by decide)).trans (fn ((hFvy28 18 (by decide)).trans (fn rfl (by decide))) (by decide)))))))))))))
            have hey116 : Fvy81 19 = F 19 := ((hFvy81 19 (by decide)).trans ((hFvy77 19 (by decide)).trans ((hFvy75 19 (by decide)).trans ((hFvy70 19 (by decide)).trans ((hFvy68 19 (by decide)).trans ((hFvy64 19 (by decide)).trans ((hFvy59 19 (by decide)).trans ((hFvy54 19 (by decide)).trans ((hFvy52 19 (by decide)).trans ((hFvy47 19 (by decide)).trans ((hFvy45 19 (by decide)).trans (fn ((hFvy28 19 (by decide)).trans (fn rfl (by decide))) (by decide)))))))))))))
            have hey117 : Fvy81 20 = F 20 := ((hFvy81 20 (by decide)).trans ((hFvy77 20 (by decide)).trans ((hFvy75 20 (by decide)).trans ((hFvy70 20 (by decide)).trans ((hFvy68 20 (by decide)).trans ((hFvy64 20 (by decide)).trans ((hFvy59 20 (by decide)).trans ((hFvy54 20 (by decide)).trans ((hFvy52 20 (by decide)).trans ((hFvy47 20 (by decide)).trans ((hFvy45 20 (by decide)).trans (fn ((hFvy28 20 (by decide)).trans (fn rfl (by decide))) (by decide)))))))))))))
            have hey118 : Fvy81 23 = F 23 := ((hFvy81 23 (by decide)).trans ((hFvy77 23 (by decide)).trans ((hFvy75 23 (by decide)).trans ((hFvy70 23 (by decide)).trans ((hFvy68 23 (by decide)).trans ((hFvy64 23 (by decide)).trans ((hFvy59 23 (by decide)).trans ((hFvy54 23 (by decide)).trans ((hFvy52 23 (by decide)).trans ((hFvy47 23 (by decide)).trans ((hFvy45 23 (by decide)).trans (fn ((hFvy28 23 (by decide)).trans (fn rfl (by decide))) (by decide)))))))))))))
            have hey119 : Fvy81 25 = F 25 := ((hFvy81 25 (by decide)).trans ((hFvy77 25 (by decide)).trans ((hFvy75 25 (by decide)).trans ((hFvy70 25 (by decide)).trans ((hFvy68 25 (by decide)).trans ((hFvy64 25 (by decide)).trans ((hFvy59 25 (by decide)).trans ((hFvy54 25 (by decide)).trans ((hFvy52 25 (by decide)).trans ((hFvy47 25 (by decide)).trans ((hFvy45 25 (by decide)).trans (fn ((hFvy28 25 (by decide)).trans (fn rfl (by decide))) (by decide)))))))))))))
            have hey120 : Fvy81 27 = F 27 := ((hFvy81 27 (by decide)).trans ((hFvy77 27 (by decide)).trans ((hFvy75 27 (by decide)).trans ((hFvy70 27 (by decide)).trans ((hFvy68 27 (by decide)).trans ((hFvy64 27 (by decide)).trans ((hFvy59 27 (by decide)).trans ((hFvy54 27 (by decide)).trans ((hFvy52 27 (by decide)).trans ((hFvy47 27 (by decide)).trans ((hFvy45 27 (by decide)).trans (fn ((hFvy28 27 (by decide)).trans (fn rfl (by decide))) (by decide)))))))))))))
            have hey121 : Fvy81 28 = F 28 := ((hFvy81 28 (by decide)).trans ((hFvy77 28 (by decide)).trans ((hFvy75 28 (by decide)).trans ((hFvy70 28 (by decide)).trans ((hFvy68 28 (by decide)).trans ((hFvy64 28 (by decide)).trans ((hFvy59 28 (by decide)).trans ((hFvy54 28 (by decide)).trans ((hFvy52 28 (by decide)).trans ((hFvy47 28 (by decide)).trans ((hFvy45 28 (by decide)).trans (fn ((hFvy28 28 (by decide)).trans (fn rfl (by decide))) (by decide)))))))))))))
            have hey122 : Fvy81 29 = F 29 := ((hFvy81 29 (by decide)).trans ((hFvy77 29 (by decide)).trans ((hFvy75 29 (by decide)).trans ((hFvy70 29 (by decide)).trans ((hFvy68 29 (by decide)).trans ((hFvy64 29 (by decide)).trans ((hFvy59 29 (by decide)).trans ((hFvy54 29 (by decide)).trans ((hFvy52 29 (by decide)).trans ((hFvy47 29 (by decide)).trans ((hFvy45 29 (by decide)).trans (fn ((hFvy28 29 (by decide)).trans (fn rfl (by decide))) (by decide)))))))))))))
            have hKy123 : okF Fvy81 := by unfold okF; omega
            have hgy125 := (hfvy81 (i + 24) (ne_o (i := i) (c := 24) (d := 0) rfl)).trans htvy77
            have hMy124 : okMr cs ad gvy81 i (x + 1) Fvy81 r := okMr.upd hM hcvy81 hKy123 (fun f a => hFy109 f (by omega) (by omega)) hgy108 (hA.mono (by omega)) (fun j a b => by
                by_cases e0 : j = i + 24
                · exact Or.inr ⟨24, _, e0, lsP.l (by decide), by rw [e0]; exact hgy125⟩
                exact Or.inl (by rw [hfvy81 _ (by omega)]; rw [hfvy77 _ (by omega) (by omega)]; rw [hfvy75 _ (by omega) (by omega)]; rw [hfvy70 _ (by omega) (by omega)]; rw [hfvy68 _ (by omega) (by omega)]; rw [hfvy64 _ (by omega) (by omega)]; rw [hfvy59 _ (by omega) (by omega)]; rw [hfvy54 _ (by omega) (by omega)]; rw [hfvy52 _ (by omega) (by omega)]; rw [hfvy47 _ (by omega) (by omega)]; rw [hfvy45 _ (by omega) (by omega)]; rw [egy32, va_up_ne _ _ (by omega)]; rw [hfvy28 _ (by omega)]; rw [egy25, va_up_ne _ _ (by omega)]))
            have h23 : Fvy81 23 = F 23 := ((hFvy81 23 (by decide)).trans ((hFvy77 23 (by decide)).trans ((hFvy75 23 (by decide)).trans ((hFvy70 23 (by decide)).trans ((hFvy68 23 (by decide)).trans ((hFvy64 23 (by decide)).trans ((hFvy59 23 (by decide)).trans ((hFvy54 23 (by decide)).trans ((hFvy52 23 (by decide)).trans ((hFvy47 23 (by decide)).trans ((hFvy45 23 (by decide)).trans (fn ((hFvy28 23 (by decide)).trans (fn rfl (by decide))) (by decide)))))))))))))
            exact z_iret C hr hlk dX10_told_210 (by decide) (by decide) ⟨0, rfl, rfl, rfl, by omega, ⟨_, _, hMy124, by omega⟩, fun j j1 => by rw [hfvy81 _ (by omega)]; rw [hfvy77 _ (by omega) (by omega)]; rw [hfvy75 _ (by omega) (by omega)]; rw [hfvy70 _ (by omega) (by omega)]; rw [hfvy68 _ (by omega) (by omega)]; rw [hfvy64 _ (by omega) (by omega)]; rw [hfvy59 _ (by omega) (by omega)]; rw [hfvy54 _ (by omega) (by omega)]; rw [hfvy52 _ (by omega) (by omega)]; rw [hfvy47 _ (by omega) (by omega)]; rw [hfvy45 _ (by omega) (by omega)]; rw [egy32, va_up_ne _ _ (by omega)]; rw [hfvy28 _ (by omega)]; rw [egy25, va_up_ne _ _ (by omega)]⟩
        · refine z_iconst (z := 1) C dX10_told_193 rfl ?_
          have hey127 : Fvy77 12 = Fvy28 12 := ((hFvy77 12 (by decide)).trans ((hFvy75 12 (by decide)).trans ((hFvy70 12 (by decide)).trans ((hFvy68 12 (by decide)).trans ((hFvy64 12 (by decide)).trans ((hFvy59 12 (by decide)).trans ((hFvy54 12 (by decide)).trans ((hFvy52 12 (by decide)).trans ((hFvy47 12 (by decide)).trans ((hFvy45 12 (by decide)).trans (fn rfl (by decide))))))))))))
          refine z_cV (As := [.int (zI (0)), .int (zI (1))]) (rest := []) (ci := 12) C (c_X10_right l D A cs tt N ad _ i hN _ hcvy77 (by omega) (0) (by omega) (1) (by omega)) (by omega) hay1 hcvy77 rfl rfl mv_yX10_right q_1648 hd_yX10_right (by decide) (Nat.le_of_ble_eq_true rfl) (by decide) dX10_told_194 rfl (kI0 fun vy126 gvy126 hvy126 => ?_)
          obtain ⟨hrvy126, ⟨Fvy126, hcvy126, htvy126, hFvy126⟩, hfvy126⟩ := hvy126
          obtain rfl : vy126 = 0 := by omega
          refine z_if_eq (tgt := 209) C dX10_told_197 (by decide) (by omega) (fun _ => ?_) (fun h => absurd h (by omega))
          refine z_iconst (z := 0) C dX10_told_209 rfl ?_
          have hgy128 := (hfvy75 (i + 1) (ne_o (i := i) (c := 1) (d := 0) rfl) (ne_o (i := i) (c := 1) (d := 24) rfl)).trans hgy73
          have hgy129 := (hfvy77 (i + 1) (ne_o (i := i) (c := 1) (d := 0) rfl) (ne_o (i := i) (c := 1) (d := 24) rfl)).trans hgy128
          have hgy130 := (hfvy126 (i + 1) (ne_o (i := i) (c := 1) (d := 0) rfl)).trans hgy129
          have hFy131 : ∀ f, f ≠ 12 → f ≠ 51 → Fvy126 f = F f := fun f n12 n51 => ((hFvy126 f n12).trans ((hFvy77 f n51).trans ((hFvy75 f n51).trans ((hFvy70 f n51).trans ((hFvy68 f n51).trans ((hFvy64 f n51).trans ((hFvy59 f n51).trans ((hFvy54 f n51).trans ((hFvy52 f n51).trans ((hFvy47 f n51).trans ((hFvy45 f n51).trans ((uZ_n _ _ n51).trans ((hFvy28 f n12).trans ((uZ_n _ _ n12).trans rfl))))))))))))))
          have hey132 : Fvy126 13 = F 13 := ((hFvy126 13 (by decide)).trans ((hFvy77 13 (by decide)).trans ((hFvy75 13 (by decide)).trans ((hFvy70 13 (by decide)).trans ((hFvy68 13 (by decide)).trans ((hFvy64 13 (by decide)).trans ((hFvy59 13 (by decide)).trans ((hFvy54 13 (by decide)).trans ((hFvy52 13 (by decide)).trans ((hFvy47 13 (by decide)).trans ((hFvy45 13 (by decide)).trans (fn ((hFvy28 13 (by decide)).trans (fn rfl (by decide))) (by decide)))))))))))))
          have hey133 : Fvy126 14 = F 14 := ((hFvy126 14 (by decide)).trans ((hFvy77 14 (by decide)).trans ((hFvy75 14 (by decide)).trans ((hFvy70 14 (by decide)).trans ((hFvy68 14 (by decide)).trans ((hFvy64 14 (by decide)).trans ((hFvy59 14 (by decide)).trans ((hFvy54 14 (by decide)).trans ((hFvy52 14 (by decide)).trans ((hFvy47 14 (by decide)).trans ((hFvy45 14 (by decide)).trans (fn ((hFvy28 14 (by decide)).trans (fn rfl (by decide))) (by decide)))))))))))))
          have hey134 : Fvy126 15 = F 15 := ((hFvy126 15 (by decide)).trans ((hFvy77 15 (by decide)).trans ((hFvy75 15 (by decide)).trans ((hFvy70 15 (by decide)).trans ((hFvy68 15 (by decide)).trans ((hFvy64 15 (by decide)).trans ((hFvy59 15 (by decide)).trans ((hFvy54 15 (by decide)).trans ((hFvy52 15 (by decide)).trans ((hFvy47 15 (by decide)).trans ((hFvy45 15 (by decide)).trans (fn ((hFvy28 15 (by decide)).trans (fn rfl (by decide))) (by decide)))))))))))))
          have hey135 : Fvy126 16 = F 16 := ((hFvy126 16 (by decide)).trans ((hFvy77 16 (by decide)).trans ((hFvy75 16 (by decide)).trans ((hFvy70 16 (by decide)).trans ((hFvy68 16 (by decide)).trans ((hFvy64 16 (by decide)).trans ((hFvy59 16 (by decide)).trans ((hFvy54 16 (by decide)).trans ((hFvy52 16 (by decide)).trans ((hFvy47 16 (by decide)).trans ((hFvy45 16 (by decide)).trans (fn ((hFvy28 16 (by decide)).trans (fn rfl (by decide))) (by decide)))))))))))))
          have hey136 : Fvy126 17 = F 17 := ((hFvy126 17 (by decide)).trans ((hFvy77 17 (by decide)).trans ((hFvy75 17 (by decide)).trans ((hFvy70 17 (by decide)).trans ((hFvy68 17 (by decide)).trans ((hFvy64 17 (by decide)).trans ((hFvy59 17 (by decide)).trans ((hFvy54 17 (by decide)).trans ((hFvy52 17 (by decide)).trans ((hFvy47 17 (by decide)).trans ((hFvy45 17 (by decide)).trans (fn ((hFvy28 17 (by decide)).trans (fn rfl (by decide))) (by decide)))))))))))))
          have hey137 : Fvy126 18 = F 18 := ((hFvy126 18 (by decide)).trans ((hFvy77 18 (by decide)).trans ((hFvy75 18 (by decide)).trans ((hFvy70 18 (by decide)).trans ((hFvy68 18 (by decide)).trans ((hFvy64 18 (by decide)).trans ((hFvy59 18 (by decide)).trans ((hFvy54 18 (by decide)).trans ((hFvy52 18 (by decide)).trans ((hFvy47 18 (by decide)).trans ((hFvy45 18 (by decide)).trans (fn ((hFvy28 18 (by decide)).trans (fn rfl (by decide))) (by decide)))))))))))))
          have hey138 : Fvy126 19 = F 19 := ((hFvy126 19 (by decide)).trans ((hFvy77 19 (by decide)).trans ((hFvy75 19 (by decide)).trans ((hFvy70 19 (by decide)).trans ((hFvy68 19 (by decide)).trans ((hFvy64 19 (by decide)).trans ((hFvy59 19 (by decide)).trans ((hFvy54 19 (by decide)).trans ((hFvy52 19 (by decide)).trans ((hFvy47 19 (by decide)).trans ((hFvy45 19 (by decide)).trans (fn ((hFvy28 19 (by decide)).trans (fn rfl (by decide))) (by decide)))))))))))))
          have hey139 : Fvy126 20 = F 20 := ((hFvy126 20 (by decide)).trans ((hFvy77 20 (by decide)).trans ((hFvy75 20 (by decide)).trans ((hFvy70 20 (by decide)).trans ((hFvy68 20 (by decide)).trans ((hFvy64 20 (by decide)).trans ((hFvy59 20 (by decide)).trans ((hFvy54 20 (by decide)).trans ((hFvy52 20 (by decide)).trans ((hFvy47 20 (by decide)).trans ((hFvy45 20 (by decide)).trans (fn ((hFvy28 20 (by decide)).trans (fn rfl (by decide))) (by decide)))))))))))))
          have hey140 : Fvy126 23 = F 23 := ((hFvy126 23 (by decide)).trans ((hFvy77 23 (by decide)).trans ((hFvy75 23 (by decide)).trans ((hFvy70 23 (by decide)).trans ((hFvy68 23 (by decide)).trans ((hFvy64 23 (by decide)).trans ((hFvy59 23 (by decide)).trans ((hFvy54 23 (by decide)).trans ((hFvy52 23 (by decide)).trans ((hFvy47 23 (by decide)).trans ((hFvy45 23 (by decide)).trans (fn ((hFvy28 23 (by decide)).trans (fn rfl (by decide))) (by decide)))))))))))))
          have hey141 : Fvy126 25 = F 25 := ((hFvy126 25 (by decide)).trans ((hFvy77 25 (by decide)).trans ((hFvy75 25 (by decide)).trans ((hFvy70 25 (by decide)).trans ((hFvy68 25 (by decide)).trans ((hFvy64 25 (by decide)).trans ((hFvy59 25 (by decide)).trans ((hFvy54 25 (by decide)).trans ((hFvy52 25 (by decide)).trans ((hFvy47 25 (by decide)).trans ((hFvy45 25 (by decide)).trans (fn ((hFvy28 25 (by decide)).trans (fn rfl (by decide))) (by decide)))))))))))))
          have hey142 : Fvy126 27 = F 27 := ((hFvy126 27 (by decide)).trans ((hFvy77 27 (by decide)).trans ((hFvy75 27 (by decide)).trans ((hFvy70 27 (by decide)).trans ((hFvy68 27 (by decide)).trans ((hFvy64 27 (by decide)).trans ((hFvy59 27 (by decide)).trans ((hFvy54 27 (by decide)).trans ((hFvy52 27 (by decide)).trans ((hFvy47 27 (by decide)).trans ((hFvy45 27 (by decide)).trans (fn ((hFvy28 27 (by decide)).trans (fn rfl (by decide))) (by decide)))))))))))))
          have hey143 : Fvy126 28 = F 28 := ((hFvy126 28 (by decide)).trans ((hFvy77 28 (by decide)).trans ((hFvy75 28 (by decide)).trans ((hFvy70 28 (by decide)).trans ((hFvy68 28 (by decide)).trans ((hFvy64 28 (by decide)).trans ((hFvy59 28 (by decide)).trans ((hFvy54 28 (by decide)).trans ((hFvy52 28 (by decide)).trans ((hFvy47 28 (by decide)).trans ((hFvy45 28 (by decide)).trans (fn ((hFvy28 28 (by decide)).trans (fn rfl (by decide))) (by decide)))))))))))))
          have hey144 : Fvy126 29 = F 29 := ((hFvy126 29 (by decide)).trans ((hFvy77 29 (by decide)).trans ((hFvy75 29 (by decide)).trans ((hFvy70 29 (by decide)).trans ((hFvy68 29 (by decide)).trans ((hFvy64 29 (by decide)).trans ((hFvy59 29 (by decide)).trans ((hFvy54 29 (by decide)).trans ((hFvy52 29 (by decide)).trans ((hFvy47 29 (by decide)).trans ((hFvy45 29 (by decide)).trans (fn ((hFvy28 29 (by decide)).trans (fn rfl (by decide))) (by decide)))))))))))))
          have hKy145 : okF Fvy126 := by unfold okF; omega
          have hgy147 := (hfvy126 (i + 24) (ne_o (i := i) (c := 24) (d := 0) rfl)).trans htvy77
          have hMy146 : okMr cs ad gvy126 i (x + 1) Fvy126 r := okMr.upd hM hcvy126 hKy145 (fun f a => hFy131 f (by omega) (by omega)) hgy130 (hA.mono (by omega)) (fun j a b => by
              by_cases e0 : j = i + 24
              · exact Or.inr ⟨24, _, e0, lsP.l (by decide), by rw [e0]; exact hgy147⟩
              exact Or.inl (by rw [hfvy126 _ (by omega)]; rw [hfvy77 _ (by omega) (by omega)]; rw [hfvy75 _ (by omega) (by omega)]; rw [hfvy70 _ (by omega) (by omega)]; rw [hfvy68 _ (by omega) (by omega)]; rw [hfvy64 _ (by omega) (by omega)]; rw [hfvy59 _ (by omega) (by omega)]; rw [hfvy54 _ (by omega) (by omega)]; rw [hfvy52 _ (by omega) (by omega)]; rw [hfvy47 _ (by omega) (by omega)]; rw [hfvy45 _ (by omega) (by omega)]; rw [egy32, va_up_ne _ _ (by omega)]; rw [hfvy28 _ (by omega)]; rw [egy25, va_up_ne _ _ (by omega)]))
          have h23 : Fvy126 23 = F 23 := ((hFvy126 23 (by decide)).trans ((hFvy77 23 (by decide)).trans ((hFvy75 23 (by decide)).trans ((hFvy70 23 (by decide)).trans ((hFvy68 23 (by decide)).trans ((hFvy64 23 (by decide)).trans ((hFvy59 23 (by decide)).trans ((hFvy54 23 (by decide)).trans ((hFvy52 23 (by decide)).trans ((hFvy47 23 (by decide)).trans ((hFvy45 23 (by decide)).trans (fn ((hFvy28 23 (by decide)).trans (fn rfl (by decide))) (by decide)))))))))))))
          exact z_iret C hr hlk dX10_told_210 (by decide) (by decide) ⟨0, rfl, rfl, rfl, by omega, ⟨_, _, hMy146, by omega⟩, fun j j1 => by rw [hfvy126 _ (by omega)]; rw [hfvy77 _ (by omega) (by omega)]; rw [hfvy75 _ (by omega) (by omega)]; rw [hfvy70 _ (by omega) (by omega)]; rw [hfvy68 _ (by omega) (by omega)]; rw [hfvy64 _ (by omega) (by omega)]; rw [hfvy59 _ (by omega) (by omega)]; rw [hfvy54 _ (by omega) (by omega)]; rw [hfvy52 _ (by omega) (by omega)]; rw [hfvy47 _ (by omega) (by omega)]; rw [hfvy45 _ (by omega) (by omega)]; rw [egy32, va_up_ne _ _ (by omega)]; rw [hfvy28 _ (by omega)]; rw [egy25, va_up_ne _ _ (by omega)]⟩
      · refine z_aload_n C 0 dX10_told_176 rfl ?_
        refine z_get (v := .int (zI (Fvy75 51 + 1))) C (by omega) hay1 hcvy77 rfl inA_X10 51 (by decide) q_1510 rfl (fv (F := Fvy77) (f := 51) hqvy77) dX10_told_177 ?_
        have hgy148 := (hfvy75 (i + 1) (ne_o (i := i) (c := 1) (d := 0) rfl) (ne_o (i := i) (c := 1) (d := 24) rfl)).trans hgy73
        have hgy149 := (hfvy77 (i + 1) (ne_o (i := i) (c := 1) (d := 0) rfl) (ne_o (i := i) (c := 1) (d := 24) rfl)).trans hgy148
        have hFy150 : ∀ f, f ≠ 12 → f ≠ 51 → Fvy77 f = F f := fun f n12 n51 => ((hFvy77 f n51).trans ((hFvy75 f n51).trans ((hFvy70 f n51).trans ((hFvy68 f n51).trans ((hFvy64 f n51).trans ((hFvy59 f n51).trans ((hFvy54 f n51).trans ((hFvy52 f n51).trans ((hFvy47 f n51).trans ((hFvy45 f n51).trans ((uZ_n _ _ n51).trans ((hFvy28 f n12).trans ((uZ_n _ _ n12).trans rfl)))))))))))))
        have hey151 : Fvy77 13 = F 13 := ((hFvy77 13 (by decide)).trans ((hFvy75 13 (by decide)).trans ((hFvy70 13 (by decide)).trans ((hFvy68 13 (by decide)).trans ((hFvy64 13 (by decide)).trans ((hFvy59 13 (by decide)).trans ((hFvy54 13 (by decide)).trans ((hFvy52 13 (by decide)).trans ((hFvy47 13 (by decide)).trans ((hFvy45 13 (by decide)).trans (fn ((hFvy28 13 (by decide)).trans (fn rfl (by decide))) (by decide))))))))))))
        have hey152 : Fvy77 14 = F 14 := ((hFvy77 14 (by decide)).trans ((hFvy75 14 (by decide)).trans ((hFvy70 14 (by decide)).trans ((hFvy68 14 (by decide)).trans ((hFvy64 14 (by decide)).trans ((hFvy59 14 (by decide)).trans ((hFvy54 14 (by decide)).trans ((hFvy52 14 (by decide)).trans ((hFvy47 14 (by decide)).trans ((hFvy45 14 (by decide)).trans (fn ((hFvy28 14 (by decide)).trans (fn rfl (by decide))) (by decide))))))))))))
        have hey153 : Fvy77 15 = F 15 := ((hFvy77 15 (by decide)).trans ((hFvy75 15 (by decide)).trans ((hFvy70 15 (by decide)).trans ((hFvy68 15 (by decide)).trans ((hFvy64 15 (by decide)).trans ((hFvy59 15 (by decide)).trans ((hFvy54 15 (by decide)).trans ((hFvy52 15 (by decide)).trans ((hFvy47 15 (by decide)).trans ((hFvy45 15 (by decide)).trans (fn ((hFvy28 15 (by decide)).trans (fn rfl (by decide))) (by decide))))))))))))
        have hey154 : Fvy77 16 = F 16 := ((hFvy77 16 (by decide)).trans ((hFvy75 16 (by decide)).trans ((hFvy70 16 (by decide)).trans ((hFvy68 16 (by decide)).trans ((hFvy64 16 (by decide)).trans ((hFvy59 16 (by decide)).trans ((hFvy54 16 (by decide)).trans ((hFvy52 16 (by decide)).trans ((hFvy47 16 (by decide)).trans ((hFvy45 16 (by decide)).trans (fn ((hFvy28 16 (by decide)).trans (fn rfl (by decide))) (by decide))))))))))))
        have hey155 : Fvy77 17 = F 17 := ((hFvy77 17 (by decide)).trans ((hFvy75 17 (by decide)).trans ((hFvy70 17 (by decide)).trans ((hFvy68 17 (by decide)).trans ((hFvy64 17 (by decide)).trans ((hFvy59 17 (by decide)).trans ((hFvy54 17 (by decide)).trans ((hFvy52 17 (by decide)).trans ((hFvy47 17 (by decide)).trans ((hFvy45 17 (by decide)).trans (fn ((hFvy28 17 (by decide)).trans (fn rfl (by decide))) (by decide))))))))))))
        have hey156 : Fvy77 18 = F 18 := ((hFvy77 18 (by decide)).trans ((hFvy75 18 (by decide)).trans ((hFvy70 18 (by decide)).trans ((hFvy68 18 (by decide)).trans ((hFvy64 18 (by decide)).trans ((hFvy59 18 (by decide)).trans ((hFvy54 18 (by decide)).trans ((hFvy52 18 (by decide)).trans ((hFvy47 18 (by decide)).trans ((hFvy45 18 (by decide)).trans (fn ((hFvy28 18 (by decide)).trans (fn rfl (by decide))) (by decide))))))))))))
        have hey157 : Fvy77 19 = F 19 := ((hFvy77 19 (by decide)).trans ((hFvy75 19 (by decide)).trans ((hFvy70 19 (by decide)).trans ((hFvy68 19 (by decide)).trans ((hFvy64 19 (by decide)).trans ((hFvy59 19 (by decide)).trans ((hFvy54 19 (by decide)).trans ((hFvy52 19 (by decide)).trans ((hFvy47 19 (by decide)).trans ((hFvy45 19 (by decide)).trans (fn ((hFvy28 19 (by decide)).trans (fn rfl (by decide))) (by decide))))))))))))
        have hey158 : Fvy77 20 = F 20 := ((hFvy77 20 (by decide)).trans ((hFvy75 20 (by decide)).trans ((hFvy70 20 (by decide)).trans ((hFvy68 20 (by decide)).trans ((hFvy64 20 (by decide)).trans ((hFvy59 20 (by decide)).trans ((hFvy54 20 (by decide)).trans ((hFvy52 20 (by decide)).trans ((hFvy47 20 (by decide)).trans ((hFvy45 20 (by decide)).trans (fn ((hFvy28 20 (by decide)).trans (fn rfl (by decide))) (by decide))))))))))))
        have hey159 : Fvy77 23 = F 23 := ((hFvy77 23 (by decide)).trans ((hFvy75 23 (by decide)).trans ((hFvy70 23 (by decide)).trans ((hFvy68 23 (by decide)).trans ((hFvy64 23 (by decide)).trans ((hFvy59 23 (by decide)).trans ((hFvy54 23 (by decide)).trans ((hFvy52 23 (by decide)).trans ((hFvy47 23 (by decide)).trans ((hFvy45 23 (by decide)).trans (fn ((hFvy28 23 (by decide)).trans (fn rfl (by decide))) (by decide))))))))))))
        have hey160 : Fvy77 25 = F 25 := ((hFvy77 25 (by decide)).trans ((hFvy75 25 (by decide)).trans ((hFvy70 25 (by decide)).trans ((hFvy68 25 (by decide)).trans ((hFvy64 25 (by decide)).trans ((hFvy59 25 (by decide)).trans ((hFvy54 25 (by decide)).trans ((hFvy52 25 (by decide)).trans ((hFvy47 25 (by decide)).trans ((hFvy45 25 (by decide)).trans (fn ((hFvy28 25 (by decide)).trans (fn rfl (by decide))) (by decide))))))))))))
        have hey161 : Fvy77 27 = F 27 := ((hFvy77 27 (by decide)).trans ((hFvy75 27 (by decide)).trans ((hFvy70 27 (by decide)).trans ((hFvy68 27 (by decide)).trans ((hFvy64 27 (by decide)).trans ((hFvy59 27 (by decide)).trans ((hFvy54 27 (by decide)).trans ((hFvy52 27 (by decide)).trans ((hFvy47 27 (by decide)).trans ((hFvy45 27 (by decide)).trans (fn ((hFvy28 27 (by decide)).trans (fn rfl (by decide))) (by decide))))))))))))
        have hey162 : Fvy77 28 = F 28 := ((hFvy77 28 (by decide)).trans ((hFvy75 28 (by decide)).trans ((hFvy70 28 (by decide)).trans ((hFvy68 28 (by decide)).trans ((hFvy64 28 (by decide)).trans ((hFvy59 28 (by decide)).trans ((hFvy54 28 (by decide)).trans ((hFvy52 28 (by decide)).trans ((hFvy47 28 (by decide)).trans ((hFvy45 28 (by decide)).trans (fn ((hFvy28 28 (by decide)).trans (fn rfl (by decide))) (by decide))))))))))))
        have hey163 : Fvy77 29 = F 29 := ((hFvy77 29 (by decide)).trans ((hFvy75 29 (by decide)).trans ((hFvy70 29 (by decide)).trans ((hFvy68 29 (by decide)).trans ((hFvy64 29 (by decide)).trans ((hFvy59 29 (by decide)).trans ((hFvy54 29 (by decide)).trans ((hFvy52 29 (by decide)).trans ((hFvy47 29 (by decide)).trans ((hFvy45 29 (by decide)).trans (fn ((hFvy28 29 (by decide)).trans (fn rfl (by decide))) (by decide))))))))))))
        have hKy164 : okF Fvy77 := by unfold okF; omega
        have hMy165 : okMr cs ad gvy77 i (x + 1) Fvy77 r := okMr.upd hM hcvy77 hKy164 (fun f a => hFy150 f (by omega) (by omega)) hgy149 (hA.mono (by omega)) (fun j a b => by
            by_cases e0 : j = i + 24
            · exact Or.inr ⟨24, _, e0, lsP.l (by decide), by rw [e0]; exact htvy77⟩
            exact Or.inl (by rw [hfvy77 _ (by omega) (by omega)]; rw [hfvy75 _ (by omega) (by omega)]; rw [hfvy70 _ (by omega) (by omega)]; rw [hfvy68 _ (by omega) (by omega)]; rw [hfvy64 _ (by omega) (by omega)]; rw [hfvy59 _ (by omega) (by omega)]; rw [hfvy54 _ (by omega) (by omega)]; rw [hfvy52 _ (by omega) (by omega)]; rw [hfvy47 _ (by omega) (by omega)]; rw [hfvy45 _ (by omega) (by omega)]; rw [egy32, va_up_ne _ _ (by omega)]; rw [hfvy28 _ (by omega)]; rw [egy25, va_up_ne _ _ (by omega)]))
        have h23 : Fvy77 23 = F 23 := ((hFvy77 23 (by decide)).trans ((hFvy75 23 (by decide)).trans ((hFvy70 23 (by decide)).trans ((hFvy68 23 (by decide)).trans ((hFvy64 23 (by decide)).trans ((hFvy59 23 (by decide)).trans ((hFvy54 23 (by decide)).trans ((hFvy52 23 (by decide)).trans ((hFvy47 23 (by decide)).trans ((hFvy45 23 (by decide)).trans (fn ((hFvy28 23 (by decide)).trans (fn rfl (by decide))) (by decide))))))))))))
        exact z_iret C hr hlk dX10_told_180 (by decide) (by decide) ⟨Fvy75 51 + 1, rfl, rfl, rfl, by omega, ⟨_, _, hMy165, by omega⟩, fun j j1 => by rw [hfvy77 _ (by omega) (by omega)]; rw [hfvy75 _ (by omega) (by omega)]; rw [hfvy70 _ (by omega) (by omega)]; rw [hfvy68 _ (by omega) (by omega)]; rw [hfvy64 _ (by omega) (by omega)]; rw [hfvy59 _ (by omega) (by omega)]; rw [hfvy54 _ (by omega) (by omega)]; rw [hfvy52 _ (by omega) (by omega)]; rw [hfvy47 _ (by omega) (by omega)]; rw [hfvy45 _ (by omega) (by omega)]; rw [egy32, va_up_ne _ _ (by omega)]; rw [hfvy28 _ (by omega)]; rw [egy25, va_up_ne _ _ (by omega)]⟩
    · refine z_aload_n C 0 dX10_told_83 rfl ?_
      refine z_bipush (z := 32) C dX10_told_84 (by decide) ?_
      have hey167 : Fvy59 51 = Fvy59 51 := rfl
      refine z_cV (As := [.int (zI (32))]) (rest := []) (ci := 12) C (c_X10_says l D A cs tt N ad _ i hN _ hcvy59 _ htvy59 (by omega) (32)) (by omega) hay1 hcvy59 rfl rfl mv_yX10_says q_1850 hd_yX10_says (by decide) (Nat.le_of_ble_eq_true rfl) (by decide) dX10_told_86 rfl (kV0 fun gvy166 hvy166 => ?_)
      obtain ⟨⟨Fvy166, hcvy166, hnvy166, hFvy166⟩, ⟨tvy166, htvy166⟩, hfvy166⟩ := hvy166
      have hovy166 : Fvy59 51 = Fvy59 51 := rfl
      have hqvy166 : Fvy166 51 = Fvy59 51 + 1 := by omega
      clear hnvy166 hovy166
      refine z_aload_n C 0 dX10_told_89 rfl ?_
      refine z_bipush (z := 119) C dX10_told_90 (by decide) ?_
      have hey169 : Fvy166 51 = Fvy59 51 + 1 := hqvy166
      refine z_cV (As := [.int (zI (119))]) (rest := []) (ci := 12) C (c_X10_says l D A cs tt N ad _ i hN _ hcvy166 _ htvy166 (by omega) (119)) (by omega) hay1 hcvy166 rfl rfl mv_yX10_says q_1850 hd_yX10_says (by decide) (Nat.le_of_ble_eq_true rfl) (by decide) dX10_told_92 rfl (kV0 fun gvy168 hvy168 => ?_)
      obtain ⟨⟨Fvy168, hcvy168, hnvy168, hFvy168⟩, ⟨tvy168, htvy168⟩, hfvy168⟩ := hvy168
      have hovy168 : Fvy166 51 = Fvy59 51 + 1 := hqvy166
      have hqvy168 : Fvy168 51 = Fvy59 51 + 2 := by omega
      clear hnvy168 hovy168
      refine z_aload_n C 0 dX10_told_95 rfl ?_
      refine z_bipush (z := 101) C dX10_told_96 (by decide) ?_
      have hey171 : Fvy168 51 = Fvy59 51 + 2 := hqvy168
      refine z_cV (As := [.int (zI (101))]) (rest := []) (ci := 12) C (c_X10_says l D A cs tt N ad _ i hN _ hcvy168 _ htvy168 (by omega) (101)) (by omega) hay1 hcvy168 rfl rfl mv_yX10_says q_1850 hd_yX10_says (by decide) (Nat.le_of_ble_eq_true rfl) (by decide) dX10_told_98 rfl (kV0 fun gvy170 hvy170 => ?_)
      obtain ⟨⟨Fvy170, hcvy170, hnvy170, hFvy170⟩, ⟨tvy170, htvy170⟩, hfvy170⟩ := hvy170
      have hovy170 : Fvy168 51 = Fvy59 51 + 2 := hqvy168
      have hqvy170 : Fvy170 51 = Fvy59 51 + 3 := by omega
      clear hnvy170 hovy170
      refine z_aload_n C 0 dX10_told_101 rfl ?_
      refine z_bipush (z := 116) C dX10_told_102 (by decide) ?_
      have hey173 : Fvy170 51 = Fvy59 51 + 3 := hqvy170
      refine z_cV (As := [.int (zI (116))]) (rest := []) (ci := 12) C (c_X10_says l D A cs tt N ad _ i hN _ hcvy170 _ htvy170 (by omega) (116)) (by omega) hay1 hcvy170 rfl rfl mv_yX10_says q_1850 hd_yX10_says (by decide) (Nat.le_of_ble_eq_true rfl) (by decide) dX10_told_104 rfl (kV0 fun gvy172 hvy172 => ?_)
      obtain ⟨⟨Fvy172, hcvy172, hnvy172, hFvy172⟩, ⟨tvy172, htvy172⟩, hfvy172⟩ := hvy172
      have hovy172 : Fvy170 51 = Fvy59 51 + 3 := hqvy170
      have hqvy172 : Fvy172 51 = Fvy59 51 + 4 := by omega
      clear hnvy172 hovy172
      refine z_aload_n C 0 dX10_told_107 rfl ?_
      refine z_bipush (z := 32) C dX10_told_108 (by decide) ?_
      have hey175 : Fvy172 51 = Fvy59 51 + 4 := hqvy172
      refine z_cV (As := [.int (zI (32))]) (rest := []) (ci := 12) C (c_X10_says l D A cs tt N ad _ i hN _ hcvy172 _ htvy172 (by omega) (32)) (by omega) hay1 hcvy172 rfl rfl mv_yX10_says q_1850 hd_yX10_says (by decide) (Nat.le_of_ble_eq_true rfl) (by decide) dX10_told_110 rfl (kV0 fun gvy174 hvy174 => ?_)
      obtain ⟨⟨Fvy174, hcvy174, hnvy174, hFvy174⟩, ⟨tvy174, htvy174⟩, hfvy174⟩ := hvy174
      have hovy174 : Fvy172 51 = Fvy59 51 + 4 := hqvy172
      have hqvy174 : Fvy174 51 = Fvy59 51 + 5 := by omega
      clear hnvy174 hovy174
      refine z_aload_n C 0 dX10_told_113 rfl ?_
      refine z_aload_n C 0 dX10_told_114 rfl ?_
      refine z_iconst (z := 0) C dX10_told_115 rfl ?_
      refine z_iload_n C 1 dX10_told_116 rfl ?_
      refine z_iload_n C 2 dX10_told_117 rfl ?_
      refine z_iconst (z := 2) C dX10_told_118 rfl ?_
      have hgy176 := (hfvy166 (i + 1) (ne_o (i := i) (c := 1) (d := 0) rfl) (ne_o (i := i) (c := 1) (d := 24) rfl)).trans hgy61
      have hgy177 := (hfvy168 (i + 1) (ne_o (i := i) (c := 1) (d := 0) rfl) (ne_o (i := i) (c := 1) (d := 24) rfl)).trans hgy176
      have hgy178 := (hfvy170 (i + 1) (ne_o (i := i) (c := 1) (d := 0) rfl) (ne_o (i := i) (c := 1) (d := 24) rfl)).trans hgy177
      have hgy179 := (hfvy172 (i + 1) (ne_o (i := i) (c := 1) (d := 0) rfl) (ne_o (i := i) (c := 1) (d := 24) rfl)).trans hgy178
      have hgy180 := (hfvy174 (i + 1) (ne_o (i := i) (c := 1) (d := 0) rfl) (ne_o (i := i) (c := 1) (d := 24) rfl)).trans hgy179
      refine z_cV (As := [.int (zI (0)), .int (zI ((n : Int))), .int (zI (z1)), .int (zI (2))]) (rest := [.ref (ad i)]) (ci := 12) C (c_X10_of l D A cs tt N ad _ i hN _ hcvy174 _ hgy180 0 n py30 hpy30 (by omega) (by omega) (z1) (2) (qy37 + 2) (by omega) (by omega) (by omega)) (by omega) hay1 hcvy174 rfl rfl mv_yX10_of q_1749 hd_yX10_of (by decide) (Nat.le_of_ble_eq_true rfl) (by decide) dX10_told_119 rfl (kI0 fun vy181 gvy181 hvy181 => ?_)
      obtain ⟨rfl, rfl⟩ := hvy181
      have hey183 : Fvy174 51 = Fvy59 51 + 5 := hqvy174
      refine z_cV (As := [.int (zI (r (qy37 + 2)))]) (rest := []) (ci := 12) C (c_X10_saysNumber9 l D A cs tt N ad _ i hN _ hcvy174 _ htvy174 (by omega) (r (qy37 + 2)) (by omega)) (by omega) hay1 hcvy174 rfl rfl mv_yX10_saysNumber q_1846 hd_yX10_saysNumber (by decide) (Nat.le_of_ble_eq_true rfl) (by decide) dX10_told_122 rfl (kV0 fun gvy182 hvy182 => ?_)
      obtain ⟨⟨Fvy182, hcvy182, hnvy182, hFvy182⟩, ⟨tvy182, htvy182⟩, hfvy182⟩ := hvy182
      have hovy182 : Fvy174 51 = Fvy59 51 + 5 := hqvy174
      refine z_aload_n C 0 dX10_told_125 rfl ?_
      refine z_bipush (z := 105) C dX10_told_126 (by decide) ?_
      refine z_bipush (z := 110) C dX10_told_128 (by decide) ?_
      have hey185 : Fvy182 51 = Fvy182 51 := rfl
      refine z_cV (As := [.int (zI (105)), .int (zI (110))]) (rest := []) (ci := 12) C (c_X10_saysWord l D A cs tt N ad _ i hN _ hcvy182 _ htvy182 (by omega) (105) (110)) (by omega) hay1 hcvy182 rfl rfl mv_yX10_saysWord q_1858 hd_yX10_saysWord (by decide) (Nat.le_of_ble_eq_true rfl) (by decide) dX10_told_130 rfl (kV0 fun gvy184 hvy184 => ?_)
      obtain ⟨⟨Fvy184, hcvy184, hnvy184, hFvy184⟩, ⟨tvy184, htvy184⟩, hfvy184⟩ := hvy184
      have hovy184 : Fvy182 51 = Fvy182 51 := rfl
      have hqvy184 : Fvy184 51 = Fvy182 51 + 4 := by omega
      clear hnvy184 hovy184
      refine z_aload_n C 0 dX10_told_133 rfl ?_
      refine z_aload_n C 0 dX10_told_134 rfl ?_
      refine z_iconst (z := 0) C dX10_told_135 rfl ?_
      refine z_iload_n C 1 dX10_told_136 rfl ?_
      refine z_iload_n C 2 dX10_told_137 rfl ?_
      refine z_iconst (z := 3) C dX10_told_138 rfl ?_
      have hgy186 := (hfvy182 (i + 1) (ne_o (i := i) (c := 1) (d := 0) rfl) (ne_o (i := i) (c := 1) (d := 24) rfl)).trans hgy180
      have hgy187 := (hfvy184 (i + 1) (ne_o (i := i) (c := 1) (d := 0) rfl) (ne_o (i := i) (c := 1) (d := 24) rfl)).trans hgy186
      refine z_cV (As := [.int (zI (0)), .int (zI ((n : Int))), .int (zI (z1)), .int (zI (3))]) (rest := [.ref (ad i)]) (ci := 12) C (c_X10_of l D A cs tt N ad _ i hN _ hcvy184 _ hgy187 0 n py30 hpy30 (by omega) (by omega) (z1) (3) (qy37 + 3) (by omega) (by omega) (by omega)) (by omega) hay1 hcvy184 rfl rfl mv_yX10_of q_1749 hd_yX10_of (by decide) (Nat.le_of_ble_eq_true rfl) (by decide) dX10_told_139 rfl (kI0 fun vy188 gvy188 hvy188 => ?_)
      obtain ⟨rfl, rfl⟩ := hvy188
      have hey190 : Fvy184 51 = Fvy182 51 + 4 := hqvy184
      refine z_cV (As := [.int (zI (r (qy37 + 3)))]) (rest := []) (ci := 12) C (c_X10_saysNumber9 l D A cs tt N ad _ i hN _ hcvy184 _ htvy184 (by omega) (r (qy37 + 3)) (by omega)) (by omega) hay1 hcvy184 rfl rfl mv_yX10_saysNumber q_1846 hd_yX10_saysNumber (by decide) (Nat.le_of_ble_eq_true rfl) (by decide) dX10_told_142 rfl (kV0 fun gvy189 hvy189 => ?_)
      obtain ⟨⟨Fvy189, hcvy189, hnvy189, hFvy189⟩, ⟨tvy189, htvy189⟩, hfvy189⟩ := hvy189
      have hovy189 : Fvy184 51 = Fvy182 51 + 4 := hqvy184
      refine z_aload_n C 0 dX10_told_145 rfl ?_
      refine z_bipush (z := 97) C dX10_told_146 (by decide) ?_
      refine z_bipush (z := 116) C dX10_told_148 (by decide) ?_
      have hey192 : Fvy189 51 = Fvy189 51 := rfl
      refine z_cV (As := [.int (zI (97)), .int (zI (116))]) (rest := []) (ci := 12) C (c_X10_saysWord l D A cs tt N ad _ i hN _ hcvy189 _ htvy189 (by omega) (97) (116)) (by omega) hay1 hcvy189 rfl rfl mv_yX10_saysWord q_1858 hd_yX10_saysWord (by decide) (Nat.le_of_ble_eq_true rfl) (by decide) dX10_told_150 rfl (kV0 fun gvy191 hvy191 => ?_)
      obtain ⟨⟨Fvy191, hcvy191, hnvy191, hFvy191⟩, ⟨tvy191, htvy191⟩, hfvy191⟩ := hvy191
      have hovy191 : Fvy189 51 = Fvy189 51 := rfl
      have hqvy191 : Fvy191 51 = Fvy189 51 + 4 := by omega
      clear hnvy191 hovy191
      refine z_aload_n C 0 dX10_told_153 rfl ?_
      refine z_aload_n C 0 dX10_told_154 rfl ?_
      refine z_iconst (z := 0) C dX10_told_155 rfl ?_
      refine z_iload_n C 1 dX10_told_156 rfl ?_
      refine z_iload_n C 2 dX10_told_157 rfl ?_
      refine z_iconst (z := 4) C dX10_told_158 rfl ?_
      have hgy193 := (hfvy189 (i + 1) (ne_o (i := i) (c := 1) (d := 0) rfl) (ne_o (i := i) (c := 1) (d := 24) rfl)).trans hgy187
      have hgy194 := (hfvy191 (i + 1) (ne_o (i := i) (c := 1) (d := 0) rfl) (ne_o (i := i) (c := 1) (d := 24) rfl)).trans hgy193
      refine z_cV (As := [.int (zI (0)), .int (zI ((n : Int))), .int (zI (z1)), .int (zI (4))]) (rest := [.ref (ad i)]) (ci := 12) C (c_X10_of l D A cs tt N ad _ i hN _ hcvy191 _ hgy194 0 n py30 hpy30 (by omega) (by omega) (z1) (4) (qy37 + 4) (by omega) (by omega) (by omega)) (by omega) hay1 hcvy191 rfl rfl mv_yX10_of q_1749 hd_yX10_of (by decide) (Nat.le_of_ble_eq_true rfl) (by decide) dX10_told_159 rfl (kI0 fun vy195 gvy195 hvy195 => ?_)
      obtain ⟨rfl, rfl⟩ := hvy195
      have hey197 : Fvy191 51 = Fvy189 51 + 4 := hqvy191
      refine z_cV (As := [.int (zI (r (qy37 + 4)))]) (rest := []) (ci := 12) C (c_X10_saysNumber5 l D A cs tt N ad _ i hN _ hcvy191 _ htvy191 (by omega) (r (qy37 + 4)) (by omega)) (by omega) hay1 hcvy191 rfl rfl mv_yX10_saysNumber q_1846 hd_yX10_saysNumber (by decide) (Nat.le_of_ble_eq_true rfl) (by decide) dX10_told_162 rfl (kV0 fun gvy196 hvy196 => ?_)
      obtain ⟨⟨Fvy196, hcvy196, hnvy196, hFvy196⟩, ⟨tvy196, htvy196⟩, hfvy196⟩ := hvy196
      have hovy196 : Fvy191 51 = Fvy189 51 + 4 := hqvy191
      refine z_aload_n C 0 dX10_told_165 rfl ?_
      refine z_bipush (z := 59) C dX10_told_166 (by decide) ?_
      have hey199 : Fvy196 51 = Fvy196 51 := rfl
      refine z_cV (As := [.int (zI (59))]) (rest := []) (ci := 12) C (c_X10_says l D A cs tt N ad _ i hN _ hcvy196 _ htvy196 (by omega) (59)) (by omega) hay1 hcvy196 rfl rfl mv_yX10_says q_1850 hd_yX10_says (by decide) (Nat.le_of_ble_eq_true rfl) (by decide) dX10_told_168 rfl (kV0 fun gvy198 hvy198 => ?_)
      obtain ⟨⟨Fvy198, hcvy198, hnvy198, hFvy198⟩, ⟨tvy198, htvy198⟩, hfvy198⟩ := hvy198
      have hovy198 : Fvy196 51 = Fvy196 51 := rfl
      have hqvy198 : Fvy198 51 = Fvy196 51 + 1 := by omega
      clear hnvy198 hovy198
      refine z_iload_n C 3 dX10_told_171 rfl ?_
      refine z_iconst (z := -1) C dX10_told_172 rfl ?_
      refine z_icmp_ne (tgt := 181) C dX10_told_173 (by decide) (by omega) (by omega) (fun hby200 => ?_) (fun hby200 => ?_)
      · refine z_aload_n C 0 dX10_told_181 rfl ?_
        refine z_iload_n C 3 dX10_told_182 rfl ?_
        refine z_iconst (z := 0) C dX10_told_183 rfl ?_
        refine z_aload_n C 0 dX10_told_184 rfl ?_
        refine z_get (v := .int (zI (Fvy196 51 + 1))) C (by omega) hay1 hcvy198 rfl inA_X10 51 (by decide) q_1510 rfl (fv (F := Fvy198) (f := 51) hqvy198) dX10_told_185 ?_
        refine z_iconst (z := 1) C dX10_told_188 rfl ?_
        refine z_isub C dX10_told_189 ?_
        refine z_cS (As := [.int (zI (z2)), .int (zI (0)), .int (zI ((Fvy196 51 + 1) - 1))]) (rest := [.ref (ad i)]) C (c_X10_within l D A cs tt N ad _ (z2) (by omega) (0) (by omega) ((Fvy196 51 + 1) - 1) (by omega)) ms_yX10_within q_1686 hd_yX10_within (by decide) (Nat.le_of_ble_eq_true rfl) (by decide) dX10_told_190 rfl (kI0 fun vy201 gvy201 hvy201 => ?_)
        obtain ⟨hvy201, rfl⟩ := hvy201
        rcases hvy201 with ⟨rfl, hxvy201⟩ | ⟨rfl, hxvy201⟩
        · refine z_iconst (z := 1) C dX10_told_193 rfl ?_
          have hey203 : Fvy198 12 = Fvy28 12 := ((hFvy198 12 (by decide)).trans ((hFvy196 12 (by decide)).trans ((hFvy191 12 (by decide)).trans ((hFvy189 12 (by decide)).trans ((hFvy184 12 (by decide)).trans ((hFvy182 12 (by decide)).trans ((hFvy174 12 (by decide)).trans ((hFvy172 12 (by decide)).trans ((hFvy170 12 (by decide)).trans ((hFvy168 12 (by decide)).trans ((hFvy166 12 (by decide)).trans ((hFvy59 12 (by decide)).trans ((hFvy54 12 (by decide)).trans ((hFvy52 12 (by decide)).trans ((hFvy47 12 (by decide)).trans ((hFvy45 12 (by decide)).trans (fn rfl (by decide))))))))))))))))))
          refine z_cV (As := [.int (zI (1)), .int (zI (1))]) (rest := []) (ci := 12) C (c_X10_right l D A cs tt N ad _ i hN _ hcvy198 (by omega) (1) (by omega) (1) (by omega)) (by omega) hay1 hcvy198 rfl rfl mv_yX10_right q_1648 hd_yX10_right (by decide) (Nat.le_of_ble_eq_true rfl) (by decide) dX10_told_194 rfl (kI0 fun vy202 gvy202 hvy202 => ?_)
          obtain ⟨hrvy202, ⟨Fvy202, hcvy202, htvy202, hFvy202⟩, hfvy202⟩ := hvy202
          rcases (show vy202 = 1 ∨ vy202 = 0 by omega) with rfl | rfl
          · refine z_if_eq (tgt := 209) C dX10_told_197 (by decide) (by omega) (fun h => absurd h (by omega)) (fun _ => ?_)
            refine z_aload_n C 0 dX10_told_200 rfl ?_
            refine z_get (v := .ref (ad (i + 24))) C (by omega) hay1 hcvy202 rfl inA_X10 50 (by decide) q_1509 rfl rfl dX10_told_201 ?_
            refine z_iload_n C 3 dX10_told_204 rfl ?_
            have hgy204 := (hfvy202 (i + 24) (ne_o (i := i) (c := 24) (d := 0) rfl)).trans htvy198
            refine z_iald C (by omega) hay17 hgy204 ((z2).toNat) (by omega) (by omega) (by decide) dX10_told_205 ?_
            refine z_goto (tgt := 210) C dX10_told_206 (by decide) ?_
            obtain ⟨xy205, exy206, hxy207⟩ := zI_of (zI (tvy198 ((z2).toNat)))
            rw [exy206]
            have hgy208 := (hfvy196 (i + 1) (ne_o (i := i) (c := 1) (d := 0) rfl) (ne_o (i := i) (c := 1) (d := 24) rfl)).trans hgy194
            have hgy209 := (hfvy198 (i + 1) (ne_o (i := i) (c := 1) (d := 0) rfl) (ne_o (i := i) (c := 1) (d := 24) rfl)).trans hgy208
            have hgy210 := (hfvy202 (i + 1) (ne_o (i := i) (c := 1) (d := 0) rfl)).trans hgy209
            have hFy211 : ∀ f, f ≠ 12 → f ≠ 51 → Fvy202 f = F f := fun f n12 n51 => ((hFvy202 f n12).trans ((hFvy198 f n51).trans ((hFvy196 f n51).trans ((hFvy191 f n51).trans ((hFvy189 f n51).trans ((hFvy184 f n51).trans ((hFvy182 f n51).trans ((hFvy174 f n51).trans ((hFvy172 f n51).trans ((hFvy170 f n51).trans ((hFvy168 f n51).trans ((hFvy166 f n51).trans ((hFvy59 f n51).trans ((hFvy54 f n51).trans ((hFvy52 f n51).trans ((hFvy47 f n51).trans ((hFvy45 f n51).trans ((uZ_n _ _ n51).trans ((hFvy28 f n12).trans ((uZ_n _ _ n12).trans rfl))))))))))))))))))))
            have hey212 : Fvy202 13 = F 13 := ((hFvy202 13 (by decide)).trans ((hFvy198 13 (by decide)).trans ((hFvy196 13 (by decide)).trans ((hFvy191 13 (by decide)).trans ((hFvy189 13 (by decide)).trans ((hFvy184 13 (by decide)).trans ((hFvy182 13 (by decide)).trans ((hFvy174 13 (by decide)).trans ((hFvy172 13 (by decide)).trans ((hFvy170 13 (by decide)).trans ((hFvy168 13 (by decide)).trans ((hFvy166 13 (by decide)).trans ((hFvy59 13 (by decide)).trans ((hFvy54 13 (by decide)).trans ((hFvy52 13 (by decide)).trans ((hFvy47 13 (by decide)).trans ((hFvy45 13 (by decide)).trans (fn ((hFvy28 13 (by decide)).trans (fn rfl (by decide))) (by decide)))))))))))))))))))
            have hey213 : Fvy202 14 = F 14 := ((hFvy202 14 (by decide)).trans ((hFvy198 14 (by decide)).trans ((hFvy196 14 (by decide)).trans ((hFvy191 14 (by decide)).trans ((hFvy189 14 (by decide)).trans ((hFvy184 14 (by decide)).trans ((hFvy182 14 (by decide)).trans ((hFvy174 14 (by decide)).trans ((hFvy172 14 (by decide)).trans ((hFvy170 14 (by decide)).trans ((hFvy168 14 (by decide)).trans ((hFvy166 14 (by decide)).trans ((hFvy59 14 (by decide)).trans ((hFvy54 14 (by decide)).trans ((hFvy52 14 (by decide)).trans ((hFvy47 14 (by decide)).trans ((hFvy45 14 (by decide)).trans (fn ((hFvy28 14 (by decide)).trans (fn rfl (by decide))) (by decide)))))))))))))))))))
            have hey214 : Fvy202 15 = F 15 := ((hFvy202 15 (by decide)).trans ((hFvy198 15 (by decide)).trans ((hFvy196 15 (by decide)).trans ((hFvy191 15 (by decide)).trans ((hFvy189 15 (by decide)).trans ((hFvy184 15 (by decide)).trans ((hFvy182 15 (by decide)).trans ((hFvy174 15 (by decide)).trans ((hFvy172 15 (by decide)).trans ((hFvy170 15 (by decide)).trans ((hFvy168 15 (by decide)).trans ((hFvy166 15 (by decide)).trans ((hFvy59 15 (by decide)).trans ((hFvy54 15 (by decide)).trans ((hFvy52 15 (by decide)).trans ((hFvy47 15 (by decide)).trans ((hFvy45 15 (by decide)).trans (fn ((hFvy28 15 (by decide)).trans (fn rfl (by decide))) (by decide)))))))))))))))))))
            have hey215 : Fvy202 16 = F 16 := ((hFvy202 16 (by decide)).trans ((hFvy198 16 (by decide)).trans ((hFvy196 16 (by decide)).trans ((hFvy191 16 (by decide)).trans ((hFvy189 16 (by decide)).trans ((hFvy184 16 (by decide)).trans ((hFvy182 16 (by decide)).trans ((hFvy174 16 (by decide)).trans ((hFvy172 16 (by decide)).trans ((hFvy170 16 (by decide)).trans ((hFvy168 16 (by decide)).trans ((hFvy166 16 (by decide)).trans ((hFvy59 16 (by decide)).trans ((hFvy54 16 (by decide)).trans ((hFvy52 16 (by decide)).trans ((hFvy47 16 (by decide)).trans ((hFvy45 16 (by decide)).trans (fn ((hFvy28 16 (by decide)).trans (fn rfl (by decide))) (by decide)))))))))))))))))))
            have hey216 : Fvy202 17 = F 17 := ((hFvy202 17 (by decide)).trans ((hFvy198 17 (by decide)).trans ((hFvy196 17 (by decide)).trans ((hFvy191 17 (by decide)).trans ((hFvy189 17 (by decide)).trans ((hFvy184 17 (by decide)).trans ((hFvy182 17 (by decide)).trans ((hFvy174 17 (by decide)).trans ((hFvy172 17 (by decide)).trans ((hFvy170 17 (by decide)).trans ((hFvy168 17 (by decide)).trans ((hFvy166 17 (by decide)).trans ((hFvy59 17 (by decide)).trans ((hFvy54 17 (by decide)).trans ((hFvy52 17 (by decide)).trans ((hFvy47 17 (by decide)).trans ((hFvy45 17 (by decide)).trans (fn ((hFvy28 17 (by decide)).trans (fn rfl (by decide))) (by decide)))))))))))))))))))
            have hey217 : Fvy202 18 = F 18 := ((hFvy202 18 (by decide)).trans ((hFvy198 18 (by decide)).trans ((hFvy196 18 (by decide)).trans ((hFvy191 18 (by decide)).trans ((hFvy189 18 (by decide)).trans ((hFvy184 18 (by decide)).trans ((hFvy182 18 (by decide)).trans ((hFvy174 18 (by decide)).trans ((hFvy172 18 (by decide)).trans ((hFvy170 18 (by decide)).trans ((hFvy168 18 (by decide)).trans ((hFvy166 18 (by decide)).trans ((hFvy59 18 (by decide)).trans ((hFvy54 18 (by decide)).trans ((hFvy52 18 (by decide)).trans ((hFvy47 18 (by decide)).trans ((hFvy45 18 (by decide)).trans (fn ((hFvy28 18 (by decide)).trans (fn rfl (by decide))) (by decide)))))))))))))))))))
            have hey218 : Fvy202 19 = F 19 := ((hFvy202 19 (by decide)).trans ((hFvy198 19 (by decide)).trans ((hFvy196 19 (by decide)).trans ((hFvy191 19 (by decide)).trans ((hFvy189 19 (by decide)).trans ((hFvy184 19 (by decide)).trans ((hFvy182 19 (by decide)).trans ((hFvy174 19 (by decide)).trans ((hFvy172 19 (by decide)).trans ((hFvy170 19 (by decide)).trans ((hFvy168 19 (by decide)).trans ((hFvy166 19 (by decide)).trans ((hFvy59 19 (by decide)).trans ((hFvy54 19 (by decide)).trans ((hFvy52 19 (by decide)).trans ((hFvy47 19 (by decide)).trans ((hFvy45 19 (by decide)).trans (fn ((hFvy28 19 (by decide)).trans (fn rfl (by decide))) (by decide)))))))))))))))))))
            have hey219 : Fvy202 20 = F 20 := ((hFvy202 20 (by decide)).trans ((hFvy198 20 (by decide)).trans ((hFvy196 20 (by decide)).trans ((hFvy191 20 (by decide)).trans ((hFvy189 20 (by decide)).trans ((hFvy184 20 (by decide)).trans ((hFvy182 20 (by decide)).trans ((hFvy174 20 (by decide)).trans ((hFvy172 20 (by decide)).trans ((hFvy170 20 (by decide)).trans ((hFvy168 20 (by decide)).trans ((hFvy166 20 (by decide)).trans ((hFvy59 20 (by decide)).trans ((hFvy54 20 (by decide)).trans ((hFvy52 20 (by decide)).trans ((hFvy47 20 (by decide)).trans ((hFvy45 20 (by decide)).trans (fn ((hFvy28 20 (by decide)).trans (fn rfl (by decide))) (by decide)))))))))))))))))))
            have hey220 : Fvy202 23 = F 23 := ((hFvy202 23 (by decide)).trans ((hFvy198 23 (by decide)).trans ((hFvy196 23 (by decide)).trans ((hFvy191 23 (by decide)).trans ((hFvy189 23 (by decide)).trans ((hFvy184 23 (by decide)).trans ((hFvy182 23 (by decide)).trans ((hFvy174 23 (by decide)).trans ((hFvy172 23 (by decide)).trans ((hFvy170 23 (by decide)).trans ((hFvy168 23 (by decide)).trans ((hFvy166 23 (by decide)).trans ((hFvy59 23 (by decide)).trans ((hFvy54 23 (by decide)).trans ((hFvy52 23 (by decide)).trans ((hFvy47 23 (by decide)).trans ((hFvy45 23 (by decide)).trans (fn ((hFvy28 23 (by decide)).trans (fn rfl (by decide))) (by decide)))))))))))))))))))
            have hey221 : Fvy202 25 = F 25 := ((hFvy202 25 (by decide)).trans ((hFvy198 25 (by decide)).trans ((hFvy196 25 (by decide)).trans ((hFvy191 25 (by decide)).trans ((hFvy189 25 (by decide)).trans ((hFvy184 25 (by decide)).trans ((hFvy182 25 (by decide)).trans ((hFvy174 25 (by decide)).trans ((hFvy172 25 (by decide)).trans ((hFvy170 25 (by decide)).trans ((hFvy168 25 (by decide)).trans ((hFvy166 25 (by decide)).trans ((hFvy59 25 (by decide)).trans ((hFvy54 25 (by decide)).trans ((hFvy52 25 (by decide)).trans ((hFvy47 25 (by decide)).trans ((hFvy45 25 (by decide)).trans (fn ((hFvy28 25 (by decide)).trans (fn rfl (by decide))) (by decide)))))))))))))))))))
            have hey222 : Fvy202 27 = F 27 := ((hFvy202 27 (by decide)).trans ((hFvy198 27 (by decide)).trans ((hFvy196 27 (by decide)).trans ((hFvy191 27 (by decide)).trans ((hFvy189 27 (by decide)).trans ((hFvy184 27 (by decide)).trans ((hFvy182 27 (by decide)).trans ((hFvy174 27 (by decide)).trans ((hFvy172 27 (by decide)).trans ((hFvy170 27 (by decide)).trans ((hFvy168 27 (by decide)).trans ((hFvy166 27 (by decide)).trans ((hFvy59 27 (by decide)).trans ((hFvy54 27 (by decide)).trans ((hFvy52 27 (by decide)).trans ((hFvy47 27 (by decide)).trans ((hFvy45 27 (by decide)).trans (fn ((hFvy28 27 (by decide)).trans (fn rfl (by decide))) (by decide)))))))))))))))))))
            have hey223 : Fvy202 28 = F 28 := ((hFvy202 28 (by decide)).trans ((hFvy198 28 (by decide)).trans ((hFvy196 28 (by decide)).trans ((hFvy191 28 (by decide)).trans ((hFvy189 28 (by decide)).trans ((hFvy184 28 (by decide)).trans ((hFvy182 28 (by decide)).trans ((hFvy174 28 (by decide)).trans ((hFvy172 28 (by decide)).trans ((hFvy170 28 (by decide)).trans ((hFvy168 28 (by decide)).trans ((hFvy166 28 (by decide)).trans ((hFvy59 28 (by decide)).trans ((hFvy54 28 (by decide)).trans ((hFvy52 28 (by decide)).trans ((hFvy47 28 (by decide)).trans ((hFvy45 28 (by decide)).trans (fn ((hFvy28 28 (by decide)).trans (fn rfl (by decide))) (by decide)))))))))))))))))))
            have hey224 : Fvy202 29 = F 29 := ((hFvy202 29 (by decide)).trans ((hFvy198 29 (by decide)).trans ((hFvy196 29 (by decide)).trans ((hFvy191 29 (by decide)).trans ((hFvy189 29 (by decide)).trans ((hFvy184 29 (by decide)).trans ((hFvy182 29 (by decide)).trans ((hFvy174 29 (by decide)).trans ((hFvy172 29 (by decide)).trans ((hFvy170 29 (by decide)).trans ((hFvy168 29 (by decide)).trans ((hFvy166 29 (by decide)).trans ((hFvy59 29 (by decide)).trans ((hFvy54 29 (by decide)).trans ((hFvy52 29 (by decide)).trans ((hFvy47 29 (by decide)).trans ((hFvy45 29 (by decide)).trans (fn ((hFvy28 29 (by decide)).trans (fn rfl (by decide))) (by decide)))))))))))))))))))
            have hKy225 : okF Fvy202 := by unfold okF; omega
            have hMy226 : okMr cs ad gvy202 i (x + 1) Fvy202 r := okMr.upd hM hcvy202 hKy225 (fun f a => hFy211 f (by omega) (by omega)) hgy210 (hA.mono (by omega)) (fun j a b => by
                by_cases e0 : j = i + 24
                · exact Or.inr ⟨24, _, e0, lsP.l (by decide), by rw [e0]; exact hgy204⟩
                exact Or.inl (by rw [hfvy202 _ (by omega)]; rw [hfvy198 _ (by omega) (by omega)]; rw [hfvy196 _ (by omega) (by omega)]; rw [hfvy191 _ (by omega) (by omega)]; rw [hfvy189 _ (by omega) (by omega)]; rw [hfvy184 _ (by omega) (by omega)]; rw [hfvy182 _ (by omega) (by omega)]; rw [hfvy174 _ (by omega) (by omega)]; rw [hfvy172 _ (by omega) (by omega)]; rw [hfvy170 _ (by omega) (by omega)]; rw [hfvy168 _ (by omega) (by omega)]; rw [hfvy166 _ (by omega) (by omega)]; rw [hfvy59 _ (by omega) (by omega)]; rw [hfvy54 _ (by omega) (by omega)]; rw [hfvy52 _ (by omega) (by omega)]; rw [hfvy47 _ (by omega) (by omega)]; rw [hfvy45 _ (by omega) (by omega)]; rw [egy32, va_up_ne _ _ (by omega)]; rw [hfvy28 _ (by omega)]; rw [egy25, va_up_ne _ _ (by omega)]))
            have h23 : Fvy202 23 = F 23 := ((hFvy202 23 (by decide)).trans ((hFvy198 23 (by decide)).trans ((hFvy196 23 (by decide)).trans ((hFvy191 23 (by decide)).trans ((hFvy189 23 (by decide)).trans ((hFvy184 23 (by decide)).trans ((hFvy182 23 (by decide)).trans ((hFvy174 23 (by decide)).trans ((hFvy172 23 (by decide)).trans ((hFvy170 23 (by decide)).trans ((hFvy168 23 (by decide)).trans ((hFvy166 23 (by decide)).trans ((hFvy59 23 (by decide)).trans ((hFvy54 23 (by decide)).trans ((hFvy52 23 (by decide)).trans ((hFvy47 23 (by decide)).trans ((hFvy45 23 (by decide)).trans (fn ((hFvy28 23 (by decide)).trans (fn rfl (by decide))) (by decide)))))))))))))))))))
            exact z_iret C hr hlk dX10_told_210 (by decide) (by decide) ⟨xy205, rfl, rfl, rfl, by omega, ⟨_, _, hMy226, by omega⟩, fun j j1 => by rw [hfvy202 _ (by omega)]; rw [hfvy198 _ (by omega) (by omega)]; rw [hfvy196 _ (by omega) (by omega)]; rw [hfvy191 _ (by omega) (by omega)]; rw [hfvy189 _ (by omega) (by omega)]; rw [hfvy184 _ (by omega) (by omega)]; rw [hfvy182 _ (by omega) (by omega)]; rw [hfvy174 _ (by omega) (by omega)]; rw [hfvy172 _ (by omega) (by omega)]; rw [hfvy170 _ (by omega) (by omega)]; rw [hfvy168 _ (by omega) (by omega)]; rw [hfvy166 _ (by omega) (by omega)]; rw [hfvy59 _ (by omega) (by omega)]; rw [hfvy54 _ (by omega) (by omega)]; rw [hfvy52 _ (by omega) (by omega)]; rw [hfvy47 _ (by omega) (by omega)]; rw [hfvy45 _ (by omega) (by omega)]; rw [egy32, va_up_ne _ _ (by omega)]; rw [hfvy28 _ (by omega)]; rw [egy25, va_up_ne _ _ (by omega)]⟩
          · refine z_if_eq (tgt := 209) C dX10_told_197 (by decide) (by omega) (fun _ => ?_) (fun h => absurd h (by omega))
            refine z_iconst (z := 0) C dX10_told_209 rfl ?_
            have hgy227 := (hfvy196 (i + 1) (ne_o (i := i) (c := 1) (d := 0) rfl) (ne_o (i := i) (c := 1) (d := 24) rfl)).trans hgy194
            have hgy228 := (hfvy198 (i + 1) (ne_o (i := i) (c := 1) (d := 0) rfl) (ne_o (i := i) (c := 1) (d := 24) rfl)).trans hgy227
            have hgy229 := (hfvy202 (i + 1) (ne_o (i := i) (c := 1) (d := 0) rfl)).trans hgy228
            have hFy230 : ∀ f, f ≠ 12 → f ≠ 51 → Fvy202 f = F f := fun f n12 n51 => ((hFvy202 f n12).trans ((hFvy198 f n51).trans ((hFvy196 f n51).trans ((hFvy191 f n51).trans ((hFvy189 f n51).trans ((hFvy184 f n51).trans ((hFvy182 f n51).trans ((hFvy174 f n51).trans ((hFvy172 f n51).trans ((hFvy170 f n51).trans ((hFvy168 f n51).trans ((hFvy166 f n51).trans ((hFvy59 f n51).trans ((hFvy54 f n51).trans ((hFvy52 f n51).trans ((hFvy47 f n51).trans ((hFvy45 f n51).trans ((uZ_n _ _ n51).trans ((hFvy28 f n12).trans ((uZ_n _ _ n12).trans rfl))))))))))))))))))))
            have hey231 : Fvy202 13 = F 13 := ((hFvy202 13 (by decide)).trans ((hFvy198 13 (by decide)).trans ((hFvy196 13 (by decide)).trans ((hFvy191 13 (by decide)).trans ((hFvy189 13 (by decide)).trans ((hFvy184 13 (by decide)).trans ((hFvy182 13 (by decide)).trans ((hFvy174 13 (by decide)).trans ((hFvy172 13 (by decide)).trans ((hFvy170 13 (by decide)).trans ((hFvy168 13 (by decide)).trans ((hFvy166 13 (by decide)).trans ((hFvy59 13 (by decide)).trans ((hFvy54 13 (by decide)).trans ((hFvy52 13 (by decide)).trans ((hFvy47 13 (by decide)).trans ((hFvy45 13 (by decide)).trans (fn ((hFvy28 13 (by decide)).trans (fn rfl (by decide))) (by decide)))))))))))))))))))
            have hey232 : Fvy202 14 = F 14 := ((hFvy202 14 (by decide)).trans ((hFvy198 14 (by decide)).trans ((hFvy196 14 (by decide)).trans ((hFvy191 14 (by decide)).trans ((hFvy189 14 (by decide)).trans ((hFvy184 14 (by decide)).trans ((hFvy182 14 (by decide)).trans ((hFvy174 14 (by decide)).trans ((hFvy172 14 (by decide)).trans ((hFvy170 14 (by decide)).trans ((hFvy168 14 (by decide)).trans ((hFvy166 14 (by decide)).trans ((hFvy59 14 (by decide)).trans ((hFvy54 14 (by decide)).trans ((hFvy52 14 (by decide)).trans ((hFvy47 14 (by decide)).trans ((hFvy45 14 (by decide)).trans (fn ((hFvy28 14 (by decide)).trans (fn rfl (by decide))) (by decide)))))))))))))))))))
            have hey233 : Fvy202 15 = F 15 := ((hFvy202 15 (by decide)).trans ((hFvy198 15 (by decide)).trans ((hFvy196 15 (by decide)).trans ((hFvy191 15 (by decide)).trans ((hFvy189 15 (by decide)).trans ((hFvy184 15 (by decide)).trans ((hFvy182 15 (by decide)).trans ((hFvy174 15 (by decide)).trans ((hFvy172 15 (by decide)).trans ((hFvy170 15 (by decide)).trans ((hFvy168 15 (by decide)).trans ((hFvy166 15 (by decide)).trans ((hFvy59 15 (by decide)).trans ((hFvy54 15 (by decide)).trans ((hFvy52 15 (by decide)).trans ((hFvy47 15 (by decide)).trans ((hFvy45 15 (by decide)).trans (fn ((hFvy28 15 (by decide)).trans (fn rfl (by decide))) (by decide)))))))))))))))))))
            have hey234 : Fvy202 16 = F 16 := ((hFvy202 16 (by decide)).trans ((hFvy198 16 (by decide)).trans ((hFvy196 16 (by decide)).trans ((hFvy191 16 (by decide)).trans ((hFvy189 16 (by decide)).trans ((hFvy184 16 (by decide)).trans ((hFvy182 16 (by decide)).trans ((hFvy174 16 (by decide)).trans ((hFvy172 16 (by decide)).trans ((hFvy170 16 (by decide)).trans ((hFvy168 16 (by decide)).trans ((hFvy166 16 (by decide)).trans ((hFvy59 16 (by decide)).trans ((hFvy54 16 (by decide)).trans ((hFvy52 16 (by decide)).trans ((hFvy47 16 (by decide)).trans ((hFvy45 16 (by decide)).trans (fn ((hFvy28 16 (by decide)).trans (fn rfl (by decide))) (by decide)))))))))))))))))))
            have hey235 : Fvy202 17 = F 17 := ((hFvy202 17 (by decide)).trans ((hFvy198 17 (by decide)).trans ((hFvy196 17 (by decide)).trans ((hFvy191 17 (by decide)).trans ((hFvy189 17 (by decide)).trans ((hFvy184 17 (by decide)).trans ((hFvy182 17 (by decide)).trans ((hFvy174 17 (by decide)).trans ((hFvy172 17 (by decide)).trans ((hFvy170 17 (by decide)).trans ((hFvy168 17 (by decide)).trans ((hFvy166 17 (by decide)).trans ((hFvy59 17 (by decide)).trans ((hFvy54 17 (by decide)).trans ((hFvy52 17 (by decide)).trans ((hFvy47 17 (by decide)).trans ((hFvy45 17 (by decide)).trans (fn ((hFvy28 17 (by decide)).trans (fn rfl (by decide))) (by decide)))))))))))))))))))
            have hey236 : Fvy202 18 = F 18 := ((hFvy202 18 (by decide)).trans ((hFvy198 18 (by decide)).trans ((hFvy196 18 (by decide)).trans ((hFvy191 18 (by decide)).trans ((hFvy189 18 (by decide)).trans ((hFvy184 18 (by decide)).trans ((hFvy182 18 (by decide)).trans ((hFvy174 18 (by decide)).trans ((hFvy172 18 (by decide)).trans ((hFvy170 18 (by decide)).trans ((hFvy168 18 (by decide)).trans ((hFvy166 18 (by decide)).trans ((hFvy59 18 (by decide)).trans ((hFvy54 18 (by decide)).trans ((hFvy52 18 (by decide)).trans ((hFvy47 18 (by decide)).trans ((hFvy45 18 (by decide)).trans (fn ((hFvy28 18 (by decide)).trans (fn rfl (by decide))) (by decide)))))))))))))))))))
            have hey237 : Fvy202 19 = F 19 := ((hFvy202 19 (by decide)).trans ((hFvy198 19 (by decide)).trans ((hFvy196 19 (by decide)).trans ((hFvy191 19 (by decide)).trans ((hFvy189 19 (by decide)).trans ((hFvy184 19 (by decide)).trans ((hFvy182 19 (by decide)).trans ((hFvy174 19 (by decide)).trans ((hFvy172 19 (by decide)).trans ((hFvy170 19 (by decide)).trans ((hFvy168 19 (by decide)).trans ((hFvy166 19 (by decide)).trans ((hFvy59 19 (by decide)).trans ((hFvy54 19 (by decide)).trans ((hFvy52 19 (by decide)).trans ((hFvy47 19 (by decide)).trans ((hFvy45 19 (by decide)).trans (fn ((hFvy28 19 (by decide)).trans (fn rfl (by decide))) (by decide)))))))))))))))))))
            have hey238 : Fvy202 20 = F 20 := ((hFvy202 20 (by decide)).trans ((hFvy198 20 (by decide)).trans ((hFvy196 20 (by decide)).trans ((hFvy191 20 (by decide)).trans ((hFvy189 20 (by decide)).trans ((hFvy184 20 (by decide)).trans ((hFvy182 20 (by decide)).trans ((hFvy174 20 (by decide)).trans ((hFvy172 20 (by decide)).trans ((hFvy170 20 (by decide)).trans ((hFvy168 20 (by decide)).trans ((hFvy166 20 (by decide)).trans ((hFvy59 20 (by decide)).trans ((hFvy54 20 (by decide)).trans ((hFvy52 20 (by decide)).trans ((hFvy47 20 (by decide)).trans ((hFvy45 20 (by decide)).trans (fn ((hFvy28 20 (by decide)).trans (fn rfl (by decide))) (by decide)))))))))))))))))))
            have hey239 : Fvy202 23 = F 23 := ((hFvy202 23 (by decide)).trans ((hFvy198 23 (by decide)).trans ((hFvy196 23 (by decide)).trans ((hFvy191 23 (by decide)).trans ((hFvy189 23 (by decide)).trans ((hFvy184 23 (by decide)).trans ((hFvy182 23 (by decide)).trans ((hFvy174 23 (by decide)).trans ((hFvy172 23 (by decide)).trans ((hFvy170 23 (by decide)).trans ((hFvy168 23 (by decide)).trans ((hFvy166 23 (by decide)).trans ((hFvy59 23 (by decide)).trans ((hFvy54 23 (by decide)).trans ((hFvy52 23 (by decide)).trans ((hFvy47 23 (by decide)).trans ((hFvy45 23 (by decide)).trans (fn ((hFvy28 23 (by decide)).trans (fn rfl (by decide))) (by decide)))))))))))))))))))
            have hey240 : Fvy202 25 = F 25 := ((hFvy202 25 (by decide)).trans ((hFvy198 25 (by decide)).trans ((hFvy196 25 (by decide)).trans ((hFvy191 25 (by decide)).trans ((hFvy189 25 (by decide)).trans ((hFvy184 25 (by decide)).trans ((hFvy182 25 (by decide)).trans ((hFvy174 25 (by decide)).trans ((hFvy172 25 (by decide)).trans ((hFvy170 25 (by decide)).trans ((hFvy168 25 (by decide)).trans ((hFvy166 25 (by decide)).trans ((hFvy59 25 (by decide)).trans ((hFvy54 25 (by decide)).trans ((hFvy52 25 (by decide)).trans ((hFvy47 25 (by decide)).trans ((hFvy45 25 (by decide)).trans (fn ((hFvy28 25 (by decide)).trans (fn rfl (by decide))) (by decide)))))))))))))))))))
            have hey241 : Fvy202 27 = F 27 := ((hFvy202 27 (by decide)).trans ((hFvy198 27 (by decide)).trans ((hFvy196 27 (by decide)).trans ((hFvy191 27 (by decide)).trans ((hFvy189 27 (by decide)).trans ((hFvy184 27 (by decide)).trans ((hFvy182 27 (by decide)).trans ((hFvy174 27 (by decide)).trans ((hFvy172 27 (by decide)).trans ((hFvy170 27 (by decide)).trans ((hFvy168 27 (by decide)).trans ((hFvy166 27 (by decide)).trans ((hFvy59 27 (by decide)).trans ((hFvy54 27 (by decide)).trans ((hFvy52 27 (by decide)).trans ((hFvy47 27 (by decide)).trans ((hFvy45 27 (by decide)).trans (fn ((hFvy28 27 (by decide)).trans (fn rfl (by decide))) (by decide)))))))))))))))))))
            have hey242 : Fvy202 28 = F 28 := ((hFvy202 28 (by decide)).trans ((hFvy198 28 (by decide)).trans ((hFvy196 28 (by decide)).trans ((hFvy191 28 (by decide)).trans ((hFvy189 28 (by decide)).trans ((hFvy184 28 (by decide)).trans ((hFvy182 28 (by decide)).trans ((hFvy174 28 (by decide)).trans ((hFvy172 28 (by decide)).trans ((hFvy170 28 (by decide)).trans ((hFvy168 28 (by decide)).trans ((hFvy166 28 (by decide)).trans ((hFvy59 28 (by decide)).trans ((hFvy54 28 (by decide)).trans ((hFvy52 28 (by decide)).trans ((hFvy47 28 (by decide)).trans ((hFvy45 28 (by decide)).trans (fn ((hFvy28 28 (by decide)).trans (fn rfl (by decide))) (by decide)))))))))))))))))))
            have hey243 : Fvy202 29 = F 29 := ((hFvy202 29 (by decide)).trans ((hFvy198 29 (by decide)).trans ((hFvy196 29 (by decide)).trans ((hFvy191 29 (by decide)).trans ((hFvy189 29 (by decide)).trans ((hFvy184 29 (by decide)).trans ((hFvy182 29 (by decide)).trans ((hFvy174 29 (by decide)).trans ((hFvy172 29 (by decide)).trans ((hFvy170 29 (by decide)).trans ((hFvy168 29 (by decide)).trans ((hFvy166 29 (by decide)).trans ((hFvy59 29 (by decide)).trans ((hFvy54 29 (by decide)).trans ((hFvy52 29 (by decide)).trans ((hFvy47 29 (by decide)).trans ((hFvy45 29 (by decide)).trans (fn ((hFvy28 29 (by decide)).trans (fn rfl (by decide))) (by decide)))))))))))))))))))
            have hKy244 : okF Fvy202 := by unfold okF; omega
            have hgy246 := (hfvy202 (i + 24) (ne_o (i := i) (c := 24) (d := 0) rfl)).trans htvy198
            have hMy245 : okMr cs ad gvy202 i (x + 1) Fvy202 r := okMr.upd hM hcvy202 hKy244 (fun f a => hFy230 f (by omega) (by omega)) hgy229 (hA.mono (by omega)) (fun j a b => by
                by_cases e0 : j = i + 24
                · exact Or.inr ⟨24, _, e0, lsP.l (by decide), by rw [e0]; exact hgy246⟩
                exact Or.inl (by rw [hfvy202 _ (by omega)]; rw [hfvy198 _ (by omega) (by omega)]; rw [hfvy196 _ (by omega) (by omega)]; rw [hfvy191 _ (by omega) (by omega)]; rw [hfvy189 _ (by omega) (by omega)]; rw [hfvy184 _ (by omega) (by omega)]; rw [hfvy182 _ (by omega) (by omega)]; rw [hfvy174 _ (by omega) (by omega)]; rw [hfvy172 _ (by omega) (by omega)]; rw [hfvy170 _ (by omega) (by omega)]; rw [hfvy168 _ (by omega) (by omega)]; rw [hfvy166 _ (by omega) (by omega)]; rw [hfvy59 _ (by omega) (by omega)]; rw [hfvy54 _ (by omega) (by omega)]; rw [hfvy52 _ (by omega) (by omega)]; rw [hfvy47 _ (by omega) (by omega)]; rw [hfvy45 _ (by omega) (by omega)]; rw [egy32, va_up_ne _ _ (by omega)]; rw [hfvy28 _ (by omega)]; rw [egy25, va_up_ne _ _ (by omega)]))
            have h23 : Fvy202 23 = F 23 := ((hFvy202 23 (by decide)).trans ((hFvy198 23 (by decide)).trans ((hFvy196 23 (by decide)).trans ((hFvy191 23 (by decide)).trans ((hFvy189 23 (by decide)).trans ((hFvy184 23 (by decide)).trans ((hFvy182 23 (by decide)).trans ((hFvy174 23 (by decide)).trans ((hFvy172 23 (by decide)).trans ((hFvy170 23 (by decide)).trans ((hFvy168 23 (by decide)).trans ((hFvy166 23 (by decide)).trans ((hFvy59 23 (by decide)).trans ((hFvy54 23 (by decide)).trans ((hFvy52 23 (by decide)).trans ((hFvy47 23 (by decide)).trans ((hFvy45 23 (by decide)).trans (fn ((hFvy28 23 (by decide)).trans (fn rfl (by decide))) (by decide)))))))))))))))))))
            exact z_iret C hr hlk dX10_told_210 (by decide) (by decide) ⟨0, rfl, rfl, rfl, by omega, ⟨_, _, hMy245, by omega⟩, fun j j1 => by rw [hfvy202 _ (by omega)]; rw [hfvy198 _ (by omega) (by omega)]; rw [hfvy196 _ (by omega) (by omega)]; rw [hfvy191 _ (by omega) (by omega)]; rw [hfvy189 _ (by omega) (by omega)]; rw [hfvy184 _ (by omega) (by omega)]; rw [hfvy182 _ (by omega) (by omega)]; rw [hfvy174 _ (by omega) (by omega)]; rw [hfvy172 _ (by omega) (by omega)]; rw [hfvy170 _ (by omega) (by omega)]; rw [hfvy168 _ (by omega) (by omega)]; rw [hfvy166 _ (by omega) (by omega)]; rw [hfvy59 _ (by omega) (by omega)]; rw [hfvy54 _ (by omega) (by omega)]; rw [hfvy52 _ (by omega) (by omega)]; rw [hfvy47 _ (by omega) (by omega)]; rw [hfvy45 _ (by omega) (by omega)]; rw [egy32, va_up_ne _ _ (by omega)]; rw [hfvy28 _ (by omega)]; rw [egy25, va_up_ne _ _ (by omega)]⟩
        · refine z_iconst (z := 1) C dX10_told_193 rfl ?_
          have hey248 : Fvy198 12 = Fvy28 12 := ((hFvy198 12 (by decide)).trans ((hFvy196 12 (by decide)).trans ((hFvy191 12 (by decide)).trans ((hFvy189 12 (by decide)).trans ((hFvy184 12 (by decide)).trans ((hFvy182 12 (by decide)).trans ((hFvy174 12 (by decide)).trans ((hFvy172 12 (by decide)).trans ((hFvy170 12 (by decide)).trans ((hFvy168 12 (by decide)).trans ((hFvy166 12 (by decide)).trans ((hFvy59 12 (by decide)).trans ((hFvy54 12 (by decide)).trans ((hFvy52 12 (by decide)).trans ((hFvy47 12 (by decide)).trans ((hFvy45 12 (by decide)).trans (fn rfl (by decide))))))))))))))))))
          refine z_cV (As := [.int (zI (0)), .int (zI (1))]) (rest := []) (ci := 12) C (c_X10_right l D A cs tt N ad _ i hN _ hcvy198 (by omega) (0) (by omega) (1) (by omega)) (by omega) hay1 hcvy198 rfl rfl mv_yX10_right q_1648 hd_yX10_right (by decide) (Nat.le_of_ble_eq_true rfl) (by decide) dX10_told_194 rfl (kI0 fun vy247 gvy247 hvy247 => ?_)
          obtain ⟨hrvy247, ⟨Fvy247, hcvy247, htvy247, hFvy247⟩, hfvy247⟩ := hvy247
          obtain rfl : vy247 = 0 := by omega
          refine z_if_eq (tgt := 209) C dX10_told_197 (by decide) (by omega) (fun _ => ?_) (fun h => absurd h (by omega))
          refine z_iconst (z := 0) C dX10_told_209 rfl ?_
          have hgy249 := (hfvy196 (i + 1) (ne_o (i := i) (c := 1) (d := 0) rfl) (ne_o (i := i) (c := 1) (d := 24) rfl)).trans hgy194
          have hgy250 := (hfvy198 (i + 1) (ne_o (i := i) (c := 1) (d := 0) rfl) (ne_o (i := i) (c := 1) (d := 24) rfl)).trans hgy249
          have hgy251 := (hfvy247 (i + 1) (ne_o (i := i) (c := 1) (d := 0) rfl)).trans hgy250
          have hFy252 : ∀ f, f ≠ 12 → f ≠ 51 → Fvy247 f = F f := fun f n12 n51 => ((hFvy247 f n12).trans ((hFvy198 f n51).trans ((hFvy196 f n51).trans ((hFvy191 f n51).trans ((hFvy189 f n51).trans ((hFvy184 f n51).trans ((hFvy182 f n51).trans ((hFvy174 f n51).trans ((hFvy172 f n51).trans ((hFvy170 f n51).trans ((hFvy168 f n51).trans ((hFvy166 f n51).trans ((hFvy59 f n51).trans ((hFvy54 f n51).trans ((hFvy52 f n51).trans ((hFvy47 f n51).trans ((hFvy45 f n51).trans ((uZ_n _ _ n51).trans ((hFvy28 f n12).trans ((uZ_n _ _ n12).trans rfl))))))))))))))))))))
          have hey253 : Fvy247 13 = F 13 := ((hFvy247 13 (by decide)).trans ((hFvy198 13 (by decide)).trans ((hFvy196 13 (by decide)).trans ((hFvy191 13 (by decide)).trans ((hFvy189 13 (by decide)).trans ((hFvy184 13 (by decide)).trans ((hFvy182 13 (by decide)).trans ((hFvy174 13 (by decide)).trans ((hFvy172 13 (by decide)).trans ((hFvy170 13 (by decide)).trans ((hFvy168 13 (by decide)).trans ((hFvy166 13 (by decide)).trans ((hFvy59 13 (by decide)).trans ((hFvy54 13 (by decide)).trans ((hFvy52 13 (by decide)).trans ((hFvy47 13 (by decide)).trans ((hFvy45 13 (by decide)).trans (fn ((hFvy28 13 (by decide)).trans (fn rfl (by decide))) (by decide)))))))))))))))))))
          have hey254 : Fvy247 14 = F 14 := ((hFvy247 14 (by decide)).trans ((hFvy198 14 (by decide)).trans ((hFvy196 14 (by decide)).trans ((hFvy191 14 (by decide)).trans ((hFvy189 14 (by decide)).trans ((hFvy184 14 (by decide)).trans ((hFvy182 14 (by decide)).trans ((hFvy174 14 (by decide)).trans ((hFvy172 14 (by decide)).trans ((hFvy170 14 (by decide)).trans ((hFvy168 14 (by decide)).trans ((hFvy166 14 (by decide)).trans ((hFvy59 14 (by decide)).trans ((hFvy54 14 (by decide)).trans ((hFvy52 14 (by decide)).trans ((hFvy47 14 (by decide)).trans ((hFvy45 14 (by decide)).trans (fn ((hFvy28 14 (by decide)).trans (fn rfl (by decide))) (by decide)))))))))))))))))))
          have hey255 : Fvy247 15 = F 15 := ((hFvy247 15 (by decide)).trans ((hFvy198 15 (by decide)).trans ((hFvy196 15 (by decide)).trans ((hFvy191 15 (by decide)).trans ((hFvy189 15 (by decide)).trans ((hFvy184 15 (by decide)).trans ((hFvy182 15 (by decide)).trans ((hFvy174 15 (by decide)).trans ((hFvy172 15 (by decide)).trans ((hFvy170 15 (by decide)).trans ((hFvy168 15 (by decide)).trans ((hFvy166 15 (by decide)).trans ((hFvy59 15 (by decide)).trans ((hFvy54 15 (by decide)).trans ((hFvy52 15 (by decide)).trans ((hFvy47 15 (by decide)).trans ((hFvy45 15 (by decide)).trans (fn ((hFvy28 15 (by decide)).trans (fn rfl (by decide))) (by decide)))))))))))))))))))
          have hey256 : Fvy247 16 = F 16 := ((hFvy247 16 (by decide)).trans ((hFvy198 16 (by decide)).trans ((hFvy196 16 (by decide)).trans ((hFvy191 16 (by decide)).trans ((hFvy189 16 (by decide)).trans ((hFvy184 16 (by decide)).trans ((hFvy182 16 (by decide)).trans ((hFvy174 16 (by decide)).trans ((hFvy172 16 (by decide)).trans ((hFvy170 16 (by decide)).trans ((hFvy168 16 (by decide)).trans ((hFvy166 16 (by decide)).trans ((hFvy59 16 (by decide)).trans ((hFvy54 16 (by decide)).trans ((hFvy52 16 (by decide)).trans ((hFvy47 16 (by decide)).trans ((hFvy45 16 (by decide)).trans (fn ((hFvy28 16 (by decide)).trans (fn rfl (by decide))) (by decide)))))))))))))))))))
          have hey257 : Fvy247 17 = F 17 := ((hFvy247 17 (by decide)).trans ((hFvy198 17 (by decide)).trans ((hFvy196 17 (by decide)).trans ((hFvy191 17 (by decide)).trans ((hFvy189 17 (by decide)).trans ((hFvy184 17 (by decide)).trans ((hFvy182 17 (by decide)).trans ((hFvy174 17 (by decide)).trans ((hFvy172 17 (by decide)).trans ((hFvy170 17 (by decide)).trans ((hFvy168 17 (by decide)).trans ((hFvy166 17 (by decide)).trans ((hFvy59 17 (by decide)).trans ((hFvy54 17 (by decide)).trans ((hFvy52 17 (by decide)).trans ((hFvy47 17 (by decide)).trans ((hFvy45 17 (by decide)).trans (fn ((hFvy28 17 (by decide)).trans (fn rfl (by decide))) (by decide)))))))))))))))))))
          have hey258 : Fvy247 18 = F 18 := ((hFvy247 18 (by decide)).trans ((hFvy198 18 (by decide)).trans ((hFvy196 18 (by decide)).trans ((hFvy191 18 (by decide)).trans ((hFvy189 18 (by decide)).trans ((hFvy184 18 (by decide)).trans ((hFvy182 18 (by decide)).trans ((hFvy174 18 (by decide)).trans ((hFvy172 18 (by decide)).trans ((hFvy170 18 (by decide)).trans ((hFvy168 18 (by decide)).trans ((hFvy166 18 (by decide)).trans ((hFvy59 18 (by decide)).trans ((hFvy54 18 (by decide)).trans ((hFvy52 18 (by decide)).trans ((hFvy47 18 (by decide)).trans ((hFvy45 18 (by decide)).trans (fn ((hFvy28 18 (by decide)).trans (fn rfl (by decide))) (by decide)))))))))))))))))))
          have hey259 : Fvy247 19 = F 19 := ((hFvy247 19 (by decide)).trans ((hFvy198 19 (by decide)).trans ((hFvy196 19 (by decide)).trans ((hFvy191 19 (by decide)).trans ((hFvy189 19 (by decide)).trans ((hFvy184 19 (by decide)).trans ((hFvy182 19 (by decide)).trans ((hFvy174 19 (by decide)).trans ((hFvy172 19 (by decide)).trans ((hFvy170 19 (by decide)).trans ((hFvy168 19 (by decide)).trans ((hFvy166 19 (by decide)).trans ((hFvy59 19 (by decide)).trans ((hFvy54 19 (by decide)).trans ((hFvy52 19 (by decide)).trans ((hFvy47 19 (by decide)).trans ((hFvy45 19 (by decide)).trans (fn ((hFvy28 19 (by decide)).trans (fn rfl (by decide))) (by decide)))))))))))))))))))
          have hey260 : Fvy247 20 = F 20 := ((hFvy247 20 (by decide)).trans ((hFvy198 20 (by decide)).trans ((hFvy196 20 (by decide)).trans ((hFvy191 20 (by decide)).trans ((hFvy189 20 (by decide)).trans ((hFvy184 20 (by decide)).trans ((hFvy182 20 (by decide)).trans ((hFvy174 20 (by decide)).trans ((hFvy172 20 (by decide)).trans ((hFvy170 20 (by decide)).trans ((hFvy168 20 (by decide)).trans ((hFvy166 20 (by decide)).trans ((hFvy59 20 (by decide)).trans ((hFvy54 20 (by decide)).trans ((hFvy52 20 (by decide)).trans ((hFvy47 20 (by decide)).trans ((hFvy45 20 (by decide)).trans (fn ((hFvy28 20 (by decide)).trans (fn rfl (by decide))) (by decide)))))))))))))))))))
          have hey261 : Fvy247 23 = F 23 := ((hFvy247 23 (by decide)).trans ((hFvy198 23 (by decide)).trans ((hFvy196 23 (by decide)).trans ((hFvy191 23 (by decide)).trans ((hFvy189 23 (by decide)).trans ((hFvy184 23 (by decide)).trans ((hFvy182 23 (by decide)).trans ((hFvy174 23 (by decide)).trans ((hFvy172 23 (by decide)).trans ((hFvy170 23 (by decide)).trans ((hFvy168 23 (by decide)).trans ((hFvy166 23 (by decide)).trans ((hFvy59 23 (by decide)).trans ((hFvy54 23 (by decide)).trans ((hFvy52 23 (by decide)).trans ((hFvy47 23 (by decide)).trans ((hFvy45 23 (by decide)).trans (fn ((hFvy28 23 (by decide)).trans (fn rfl (by decide))) (by decide)))))))))))))))))))
          have hey262 : Fvy247 25 = F 25 := ((hFvy247 25 (by decide)).trans ((hFvy198 25 (by decide)).trans ((hFvy196 25 (by decide)).trans ((hFvy191 25 (by decide)).trans ((hFvy189 25 (by decide)).trans ((hFvy184 25 (by decide)).trans ((hFvy182 25 (by decide)).trans ((hFvy174 25 (by decide)).trans ((hFvy172 25 (by decide)).trans ((hFvy170 25 (by decide)).trans ((hFvy168 25 (by decide)).trans ((hFvy166 25 (by decide)).trans ((hFvy59 25 (by decide)).trans ((hFvy54 25 (by decide)).trans ((hFvy52 25 (by decide)).trans ((hFvy47 25 (by decide)).trans ((hFvy45 25 (by decide)).trans (fn ((hFvy28 25 (by decide)).trans (fn rfl (by decide))) (by decide)))))))))))))))))))
          have hey263 : Fvy247 27 = F 27 := ((hFvy247 27 (by decide)).trans ((hFvy198 27 (by decide)).trans ((hFvy196 27 (by decide)).trans ((hFvy191 27 (by decide)).trans ((hFvy189 27 (by decide)).trans ((hFvy184 27 (by decide)).trans ((hFvy182 27 (by decide)).trans ((hFvy174 27 (by decide)).trans ((hFvy172 27 (by decide)).trans ((hFvy170 27 (by decide)).trans ((hFvy168 27 (by decide)).trans ((hFvy166 27 (by decide)).trans ((hFvy59 27 (by decide)).trans ((hFvy54 27 (by decide)).trans ((hFvy52 27 (by decide)).trans ((hFvy47 27 (by decide)).trans ((hFvy45 27 (by decide)).trans (fn ((hFvy28 27 (by decide)).trans (fn rfl (by decide))) (by decide)))))))))))))))))))
          have hey264 : Fvy247 28 = F 28 := ((hFvy247 28 (by decide)).trans ((hFvy198 28 (by decide)).trans ((hFvy196 28 (by decide)).trans ((hFvy191 28 (by decide)).trans ((hFvy189 28 (by decide)).trans ((hFvy184 28 (by decide)).trans ((hFvy182 28 (by decide)).trans ((hFvy174 28 (by decide)).trans ((hFvy172 28 (by decide)).trans ((hFvy170 28 (by decide)).trans ((hFvy168 28 (by decide)).trans ((hFvy166 28 (by decide)).trans ((hFvy59 28 (by decide)).trans ((hFvy54 28 (by decide)).trans ((hFvy52 28 (by decide)).trans ((hFvy47 28 (by decide)).trans ((hFvy45 28 (by decide)).trans (fn ((hFvy28 28 (by decide)).trans (fn rfl (by decide))) (by decide)))))))))))))))))))
          have hey265 : Fvy247 29 = F 29 := ((hFvy247 29 (by decide)).trans ((hFvy198 29 (by decide)).trans ((hFvy196 29 (by decide)).trans ((hFvy191 29 (by decide)).trans ((hFvy189 29 (by decide)).trans ((hFvy184 29 (by decide)).trans ((hFvy182 29 (by decide)).trans ((hFvy174 29 (by decide)).trans ((hFvy172 29 (by decide)).trans ((hFvy170 29 (by decide)).trans ((hFvy168 29 (by decide)).trans ((hFvy166 29 (by decide)).trans ((hFvy59 29 (by decide)).trans ((hFvy54 29 (by decide)).trans ((hFvy52 29 (by decide)).trans ((hFvy47 29 (by decide)).trans ((hFvy45 29 (by decide)).trans (fn ((hFvy28 29 (by decide)).trans (fn rfl (by decide))) (by decide)))))))))))))))))))
          have hKy266 : okF Fvy247 := by unfold okF; omega
          have hgy268 := (hfvy247 (i + 24) (ne_o (i := i) (c := 24) (d := 0) rfl)).trans htvy198
          have hMy267 : okMr cs ad gvy247 i (x + 1) Fvy247 r := okMr.upd hM hcvy247 hKy266 (fun f a => hFy252 f (by omega) (by omega)) hgy251 (hA.mono (by omega)) (fun j a b => by
              by_cases e0 : j = i + 24
              · exact Or.inr ⟨24, _, e0, lsP.l (by decide), by rw [e0]; exact hgy268⟩
              exact Or.inl (by rw [hfvy247 _ (by omega)]; rw [hfvy198 _ (by omega) (by omega)]; rw [hfvy196 _ (by omega) (by omega)]; rw [hfvy191 _ (by omega) (by omega)]; rw [hfvy189 _ (by omega) (by omega)]; rw [hfvy184 _ (by omega) (by omega)]; rw [hfvy182 _ (by omega) (by omega)]; rw [hfvy174 _ (by omega) (by omega)]; rw [hfvy172 _ (by omega) (by omega)]; rw [hfvy170 _ (by omega) (by omega)]; rw [hfvy168 _ (by omega) (by omega)]; rw [hfvy166 _ (by omega) (by omega)]; rw [hfvy59 _ (by omega) (by omega)]; rw [hfvy54 _ (by omega) (by omega)]; rw [hfvy52 _ (by omega) (by omega)]; rw [hfvy47 _ (by omega) (by omega)]; rw [hfvy45 _ (by omega) (by omega)]; rw [egy32, va_up_ne _ _ (by omega)]; rw [hfvy28 _ (by omega)]; rw [egy25, va_up_ne _ _ (by omega)]))
          have h23 : Fvy247 23 = F 23 := ((hFvy247 23 (by decide)).trans ((hFvy198 23 (by decide)).trans ((hFvy196 23 (by decide)).trans ((hFvy191 23 (by decide)).trans ((hFvy189 23 (by decide)).trans ((hFvy184 23 (by decide)).trans ((hFvy182 23 (by decide)).trans ((hFvy174 23 (by decide)).trans ((hFvy172 23 (by decide)).trans ((hFvy170 23 (by decide)).trans ((hFvy168 23 (by decide)).trans ((hFvy166 23 (by decide)).trans ((hFvy59 23 (by decide)).trans ((hFvy54 23 (by decide)).trans ((hFvy52 23 (by decide)).trans ((hFvy47 23 (by decide)).trans ((hFvy45 23 (by decide)).trans (fn ((hFvy28 23 (by decide)).trans (fn rfl (by decide))) (by decide)))))))))))))))))))
          exact z_iret C hr hlk dX10_told_210 (by decide) (by decide) ⟨0, rfl, rfl, rfl, by omega, ⟨_, _, hMy267, by omega⟩, fun j j1 => by rw [hfvy247 _ (by omega)]; rw [hfvy198 _ (by omega) (by omega)]; rw [hfvy196 _ (by omega) (by omega)]; rw [hfvy191 _ (by omega) (by omega)]; rw [hfvy189 _ (by omega) (by omega)]; rw [hfvy184 _ (by omega) (by omega)]; rw [hfvy182 _ (by omega) (by omega)]; rw [hfvy174 _ (by omega) (by omega)]; rw [hfvy172 _ (by omega) (by omega)]; rw [hfvy170 _ (by omega) (by omega)]; rw [hfvy168 _ (by omega) (by omega)]; rw [hfvy166 _ (by omega) (by omega)]; rw [hfvy59 _ (by omega) (by omega)]; rw [hfvy54 _ (by omega) (by omega)]; rw [hfvy52 _ (by omega) (by omega)]; rw [hfvy47 _ (by omega) (by omega)]; rw [hfvy45 _ (by omega) (by omega)]; rw [egy32, va_up_ne _ _ (by omega)]; rw [hfvy28 _ (by omega)]; rw [egy25, va_up_ne _ _ (by omega)]⟩
      · refine z_aload_n C 0 dX10_told_176 rfl ?_
        refine z_get (v := .int (zI (Fvy196 51 + 1))) C (by omega) hay1 hcvy198 rfl inA_X10 51 (by decide) q_1510 rfl (fv (F := Fvy198) (f := 51) hqvy198) dX10_told_177 ?_
        have hgy269 := (hfvy196 (i + 1) (ne_o (i := i) (c := 1) (d := 0) rfl) (ne_o (i := i) (c := 1) (d := 24) rfl)).trans hgy194
        have hgy270 := (hfvy198 (i + 1) (ne_o (i := i) (c := 1) (d := 0) rfl) (ne_o (i := i) (c := 1) (d := 24) rfl)).trans hgy269
        have hFy271 : ∀ f, f ≠ 12 → f ≠ 51 → Fvy198 f = F f := fun f n12 n51 => ((hFvy198 f n51).trans ((hFvy196 f n51).trans ((hFvy191 f n51).trans ((hFvy189 f n51).trans ((hFvy184 f n51).trans ((hFvy182 f n51).trans ((hFvy174 f n51).trans ((hFvy172 f n51).trans ((hFvy170 f n51).trans ((hFvy168 f n51).trans ((hFvy166 f n51).trans ((hFvy59 f n51).trans ((hFvy54 f n51).trans ((hFvy52 f n51).trans ((hFvy47 f n51).trans ((hFvy45 f n51).trans ((uZ_n _ _ n51).trans ((hFvy28 f n12).trans ((uZ_n _ _ n12).trans rfl)))))))))))))))))))
        have hey272 : Fvy198 13 = F 13 := ((hFvy198 13 (by decide)).trans ((hFvy196 13 (by decide)).trans ((hFvy191 13 (by decide)).trans ((hFvy189 13 (by decide)).trans ((hFvy184 13 (by decide)).trans ((hFvy182 13 (by decide)).trans ((hFvy174 13 (by decide)).trans ((hFvy172 13 (by decide)).trans ((hFvy170 13 (by decide)).trans ((hFvy168 13 (by decide)).trans ((hFvy166 13 (by decide)).trans ((hFvy59 13 (by decide)).trans ((hFvy54 13 (by decide)).trans ((hFvy52 13 (by decide)).trans ((hFvy47 13 (by decide)).trans ((hFvy45 13 (by decide)).trans (fn ((hFvy28 13 (by decide)).trans (fn rfl (by decide))) (by decide))))))))))))))))))
        have hey273 : Fvy198 14 = F 14 := ((hFvy198 14 (by decide)).trans ((hFvy196 14 (by decide)).trans ((hFvy191 14 (by decide)).trans ((hFvy189 14 (by decide)).trans ((hFvy184 14 (by decide)).trans ((hFvy182 14 (by decide)).trans ((hFvy174 14 (by decide)).trans ((hFvy172 14 (by decide)).trans ((hFvy170 14 (by decide)).trans ((hFvy168 14 (by decide)).trans ((hFvy166 14 (by decide)).trans ((hFvy59 14 (by decide)).trans ((hFvy54 14 (by decide)).trans ((hFvy52 14 (by decide)).trans ((hFvy47 14 (by decide)).trans ((hFvy45 14 (by decide)).trans (fn ((hFvy28 14 (by decide)).trans (fn rfl (by decide))) (by decide))))))))))))))))))
        have hey274 : Fvy198 15 = F 15 := ((hFvy198 15 (by decide)).trans ((hFvy196 15 (by decide)).trans ((hFvy191 15 (by decide)).trans ((hFvy189 15 (by decide)).trans ((hFvy184 15 (by decide)).trans ((hFvy182 15 (by decide)).trans ((hFvy174 15 (by decide)).trans ((hFvy172 15 (by decide)).trans ((hFvy170 15 (by decide)).trans ((hFvy168 15 (by decide)).trans ((hFvy166 15 (by decide)).trans ((hFvy59 15 (by decide)).trans ((hFvy54 15 (by decide)).trans ((hFvy52 15 (by decide)).trans ((hFvy47 15 (by decide)).trans ((hFvy45 15 (by decide)).trans (fn ((hFvy28 15 (by decide)).trans (fn rfl (by decide))) (by decide))))))))))))))))))
        have hey275 : Fvy198 16 = F 16 := ((hFvy198 16 (by decide)).trans ((hFvy196 16 (by decide)).trans ((hFvy191 16 (by decide)).trans ((hFvy189 16 (by decide)).trans ((hFvy184 16 (by decide)).trans ((hFvy182 16 (by decide)).trans ((hFvy174 16 (by decide)).trans ((hFvy172 16 (by decide)).trans ((hFvy170 16 (by decide)).trans ((hFvy168 16 (by decide)).trans ((hFvy166 16 (by decide)).trans ((hFvy59 16 (by decide)).trans ((hFvy54 16 (by decide)).trans ((hFvy52 16 (by decide)).trans ((hFvy47 16 (by decide)).trans ((hFvy45 16 (by decide)).trans (fn ((hFvy28 16 (by decide)).trans (fn rfl (by decide))) (by decide))))))))))))))))))
        have hey276 : Fvy198 17 = F 17 := ((hFvy198 17 (by decide)).trans ((hFvy196 17 (by decide)).trans ((hFvy191 17 (by decide)).trans ((hFvy189 17 (by decide)).trans ((hFvy184 17 (by decide)).trans ((hFvy182 17 (by decide)).trans ((hFvy174 17 (by decide)).trans ((hFvy172 17 (by decide)).trans ((hFvy170 17 (by decide)).trans ((hFvy168 17 (by decide)).trans ((hFvy166 17 (by decide)).trans ((hFvy59 17 (by decide)).trans ((hFvy54 17 (by decide)).trans ((hFvy52 17 (by decide)).trans ((hFvy47 17 (by decide)).trans ((hFvy45 17 (by decide)).trans (fn ((hFvy28 17 (by decide)).trans (fn rfl (by decide))) (by decide))))))))))))))))))
        have hey277 : Fvy198 18 = F 18 := ((hFvy198 18 (by decide)).trans ((hFvy196 18 (by decide)).trans ((hFvy191 18 (by decide)).trans ((hFvy189 18 (by decide)).trans ((hFvy184 18 (by decide)).trans ((hFvy182 18 (by decide)).trans ((hFvy174 18 (by decide)).trans ((hFvy172 18 (by decide)).trans ((hFvy170 18 (by decide)).trans ((hFvy168 18 (by decide)).trans ((hFvy166 18 (by decide)).trans ((hFvy59 18 (by decide)).trans ((hFvy54 18 (by decide)).trans ((hFvy52 18 (by decide)).trans ((hFvy47 18 (by decide)).trans ((hFvy45 18 (by decide)).trans (fn ((hFvy28 18 (by decide)).trans (fn rfl (by decide))) (by decide))))))))))))))))))
        have hey278 : Fvy198 19 = F 19 := ((hFvy198 19 (by decide)).trans ((hFvy196 19 (by decide)).trans ((hFvy191 19 (by decide)).trans ((hFvy189 19 (by decide)).trans ((hFvy184 19 (by decide)).trans ((hFvy182 19 (by decide)).trans ((hFvy174 19 (by decide)).trans ((hFvy172 19 (by decide)).trans ((hFvy170 19 (by decide)).trans ((hFvy168 19 (by decide)).trans ((hFvy166 19 (by decide)).trans ((hFvy59 19 (by decide)).trans ((hFvy54 19 (by decide)).trans ((hFvy52 19 (by decide)).trans ((hFvy47 19 (by decide)).trans ((hFvy45 19 (by decide)).trans (fn ((hFvy28 19 (by decide)).trans (fn rfl (by decide))) (by decide))))))))))))))))))
        have hey279 : Fvy198 20 = F 20 := ((hFvy198 20 (by decide)).trans ((hFvy196 20 (by decide)).trans ((hFvy191 20 (by decide)).trans ((hFvy189 20 (by decide)).trans ((hFvy184 20 (by decide)).trans ((hFvy182 20 (by decide)).trans ((hFvy174 20 (by decide)).trans ((hFvy172 20 (by decide)).trans ((hFvy170 20 (by decide)).trans ((hFvy168 20 (by decide)).trans ((hFvy166 20 (by decide)).trans ((hFvy59 20 (by decide)).trans ((hFvy54 20 (by decide)).trans ((hFvy52 20 (by decide)).trans ((hFvy47 20 (by decide)).trans ((hFvy45 20 (by decide)).trans (fn ((hFvy28 20 (by decide)).trans (fn rfl (by decide))) (by decide))))))))))))))))))
        have hey280 : Fvy198 23 = F 23 := ((hFvy198 23 (by decide)).trans ((hFvy196 23 (by decide)).trans ((hFvy191 23 (by decide)).trans ((hFvy189 23 (by decide)).trans ((hFvy184 23 (by decide)).trans ((hFvy182 23 (by decide)).trans ((hFvy174 23 (by decide)).trans ((hFvy172 23 (by decide)).trans ((hFvy170 23 (by decide)).trans ((hFvy168 23 (by decide)).trans ((hFvy166 23 (by decide)).trans ((hFvy59 23 (by decide)).trans ((hFvy54 23 (by decide)).trans ((hFvy52 23 (by decide)).trans ((hFvy47 23 (by decide)).trans ((hFvy45 23 (by decide)).trans (fn ((hFvy28 23 (by decide)).trans (fn rfl (by decide))) (by decide))))))))))))))))))
        have hey281 : Fvy198 25 = F 25 := ((hFvy198 25 (by decide)).trans ((hFvy196 25 (by decide)).trans ((hFvy191 25 (by decide)).trans ((hFvy189 25 (by decide)).trans ((hFvy184 25 (by decide)).trans ((hFvy182 25 (by decide)).trans ((hFvy174 25 (by decide)).trans ((hFvy172 25 (by decide)).trans ((hFvy170 25 (by decide)).trans ((hFvy168 25 (by decide)).trans ((hFvy166 25 (by decide)).trans ((hFvy59 25 (by decide)).trans ((hFvy54 25 (by decide)).trans ((hFvy52 25 (by decide)).trans ((hFvy47 25 (by decide)).trans ((hFvy45 25 (by decide)).trans (fn ((hFvy28 25 (by decide)).trans (fn rfl (by decide))) (by decide))))))))))))))))))
        have hey282 : Fvy198 27 = F 27 := ((hFvy198 27 (by decide)).trans ((hFvy196 27 (by decide)).trans ((hFvy191 27 (by decide)).trans ((hFvy189 27 (by decide)).trans ((hFvy184 27 (by decide)).trans ((hFvy182 27 (by decide)).trans ((hFvy174 27 (by decide)).trans ((hFvy172 27 (by decide)).trans ((hFvy170 27 (by decide)).trans ((hFvy168 27 (by decide)).trans ((hFvy166 27 (by decide)).trans ((hFvy59 27 (by decide)).trans ((hFvy54 27 (by decide)).trans ((hFvy52 27 (by decide)).trans ((hFvy47 27 (by decide)).trans ((hFvy45 27 (by decide)).trans (fn ((hFvy28 27 (by decide)).trans (fn rfl (by decide))) (by decide))))))))))))))))))
        have hey283 : Fvy198 28 = F 28 := ((hFvy198 28 (by decide)).trans ((hFvy196 28 (by decide)).trans ((hFvy191 28 (by decide)).trans ((hFvy189 28 (by decide)).trans ((hFvy184 28 (by decide)).trans ((hFvy182 28 (by decide)).trans ((hFvy174 28 (by decide)).trans ((hFvy172 28 (by decide)).trans ((hFvy170 28 (by decide)).trans ((hFvy168 28 (by decide)).trans ((hFvy166 28 (by decide)).trans ((hFvy59 28 (by decide)).trans ((hFvy54 28 (by decide)).trans ((hFvy52 28 (by decide)).trans ((hFvy47 28 (by decide)).trans ((hFvy45 28 (by decide)).trans (fn ((hFvy28 28 (by decide)).trans (fn rfl (by decide))) (by decide))))))))))))))))))
        have hey284 : Fvy198 29 = F 29 := ((hFvy198 29 (by decide)).trans ((hFvy196 29 (by decide)).trans ((hFvy191 29 (by decide)).trans ((hFvy189 29 (by decide)).trans ((hFvy184 29 (by decide)).trans ((hFvy182 29 (by decide)).trans ((hFvy174 29 (by decide)).trans ((hFvy172 29 (by decide)).trans ((hFvy170 29 (by decide)).trans ((hFvy168 29 (by decide)).trans ((hFvy166 29 (by decide)).trans ((hFvy59 29 (by decide)).trans ((hFvy54 29 (by decide)).trans ((hFvy52 29 (by decide)).trans ((hFvy47 29 (by decide)).trans ((hFvy45 29 (by decide)).trans (fn ((hFvy28 29 (by decide)).trans (fn rfl (by decide))) (by decide))))))))))))))))))
        have hKy285 : okF Fvy198 := by unfold okF; omega
        have hMy286 : okMr cs ad gvy198 i (x + 1) Fvy198 r := okMr.upd hM hcvy198 hKy285 (fun f a => hFy271 f (by omega) (by omega)) hgy270 (hA.mono (by omega)) (fun j a b => by
            by_cases e0 : j = i + 24
            · exact Or.inr ⟨24, _, e0, lsP.l (by decide), by rw [e0]; exact htvy198⟩
            exact Or.inl (by rw [hfvy198 _ (by omega) (by omega)]; rw [hfvy196 _ (by omega) (by omega)]; rw [hfvy191 _ (by omega) (by omega)]; rw [hfvy189 _ (by omega) (by omega)]; rw [hfvy184 _ (by omega) (by omega)]; rw [hfvy182 _ (by omega) (by omega)]; rw [hfvy174 _ (by omega) (by omega)]; rw [hfvy172 _ (by omega) (by omega)]; rw [hfvy170 _ (by omega) (by omega)]; rw [hfvy168 _ (by omega) (by omega)]; rw [hfvy166 _ (by omega) (by omega)]; rw [hfvy59 _ (by omega) (by omega)]; rw [hfvy54 _ (by omega) (by omega)]; rw [hfvy52 _ (by omega) (by omega)]; rw [hfvy47 _ (by omega) (by omega)]; rw [hfvy45 _ (by omega) (by omega)]; rw [egy32, va_up_ne _ _ (by omega)]; rw [hfvy28 _ (by omega)]; rw [egy25, va_up_ne _ _ (by omega)]))
        have h23 : Fvy198 23 = F 23 := ((hFvy198 23 (by decide)).trans ((hFvy196 23 (by decide)).trans ((hFvy191 23 (by decide)).trans ((hFvy189 23 (by decide)).trans ((hFvy184 23 (by decide)).trans ((hFvy182 23 (by decide)).trans ((hFvy174 23 (by decide)).trans ((hFvy172 23 (by decide)).trans ((hFvy170 23 (by decide)).trans ((hFvy168 23 (by decide)).trans ((hFvy166 23 (by decide)).trans ((hFvy59 23 (by decide)).trans ((hFvy54 23 (by decide)).trans ((hFvy52 23 (by decide)).trans ((hFvy47 23 (by decide)).trans ((hFvy45 23 (by decide)).trans (fn ((hFvy28 23 (by decide)).trans (fn rfl (by decide))) (by decide))))))))))))))))))
        exact z_iret C hr hlk dX10_told_180 (by decide) (by decide) ⟨Fvy196 51 + 1, rfl, rfl, rfl, by omega, ⟨_, _, hMy286, by omega⟩, fun j j1 => by rw [hfvy198 _ (by omega) (by omega)]; rw [hfvy196 _ (by omega) (by omega)]; rw [hfvy191 _ (by omega) (by omega)]; rw [hfvy189 _ (by omega) (by omega)]; rw [hfvy184 _ (by omega) (by omega)]; rw [hfvy182 _ (by omega) (by omega)]; rw [hfvy174 _ (by omega) (by omega)]; rw [hfvy172 _ (by omega) (by omega)]; rw [hfvy170 _ (by omega) (by omega)]; rw [hfvy168 _ (by omega) (by omega)]; rw [hfvy166 _ (by omega) (by omega)]; rw [hfvy59 _ (by omega) (by omega)]; rw [hfvy54 _ (by omega) (by omega)]; rw [hfvy52 _ (by omega) (by omega)]; rw [hfvy47 _ (by omega) (by omega)]; rw [hfvy45 _ (by omega) (by omega)]; rw [egy32, va_up_ne _ _ (by omega)]; rw [hfvy28 _ (by omega)]; rw [egy25, va_up_ne _ _ (by omega)]⟩
  · refine z_if_ne (tgt := 16) C dX10_told_11 (by decide) (by omega) (fun h => absurd h (by omega)) (fun _ => ?_)
    refine z_iconst (z := 0) C dX10_told_14 rfl ?_
    have hgy287 := (hfvy28 (i + 1) (ne_o (i := i) (c := 1) (d := 0) rfl)).trans hgy27
    have hFy288 : ∀ f, f ≠ 12 → Fvy28 f = F f := fun f n12 => ((hFvy28 f n12).trans ((uZ_n _ _ n12).trans rfl))
    have hey289 : Fvy28 13 = F 13 := ((hFvy28 13 (by decide)).trans (fn rfl (by decide)))
    have hey290 : Fvy28 14 = F 14 := ((hFvy28 14 (by decide)).trans (fn rfl (by decide)))
    have hey291 : Fvy28 15 = F 15 := ((hFvy28 15 (by decide)).trans (fn rfl (by decide)))
    have hey292 : Fvy28 16 = F 16 := ((hFvy28 16 (by decide)).trans (fn rfl (by decide)))
    have hey293 : Fvy28 17 = F 17 := ((hFvy28 17 (by decide)).trans (fn rfl (by decide)))
    have hey294 : Fvy28 18 = F 18 := ((hFvy28 18 (by decide)).trans (fn rfl (by decide)))
    have hey295 : Fvy28 19 = F 19 := ((hFvy28 19 (by decide)).trans (fn rfl (by decide)))
    have hey296 : Fvy28 20 = F 20 := ((hFvy28 20 (by decide)).trans (fn rfl (by decide)))
    have hey297 : Fvy28 23 = F 23 := ((hFvy28 23 (by decide)).trans (fn rfl (by decide)))
    have hey298 : Fvy28 25 = F 25 := ((hFvy28 25 (by decide)).trans (fn rfl (by decide)))
    have hey299 : Fvy28 27 = F 27 := ((hFvy28 27 (by decide)).trans (fn rfl (by decide)))
    have hey300 : Fvy28 28 = F 28 := ((hFvy28 28 (by decide)).trans (fn rfl (by decide)))
    have hey301 : Fvy28 29 = F 29 := ((hFvy28 29 (by decide)).trans (fn rfl (by decide)))
    have hKy302 : okF Fvy28 := by unfold okF; omega
    have hMy303 : okMr cs ad gvy28 i (x + 1) Fvy28 r := okMr.upd hM hcvy28 hKy302 (fun f a => hFy288 f (by omega)) hgy287 (hA.mono (by omega)) (fun j a b => by
        exact Or.inl (by rw [hfvy28 _ (by omega)]; rw [egy25, va_up_ne _ _ (by omega)]))
    have h23 : Fvy28 23 = F 23 := ((hFvy28 23 (by decide)).trans (fn rfl (by decide)))
    exact z_iret C hr hlk dX10_told_15 (by decide) (by decide) ⟨0, rfl, rfl, rfl, by omega, ⟨_, _, hMy303, by omega⟩, fun j j1 => by rw [hfvy28 _ (by omega)]; rw [egy25, va_up_ne _ _ (by omega)]⟩

set_option maxRecDepth 100000 in
set_option maxHeartbeats 4000000 in
theorem c_X10_told_b (l : Launch) (D : va_G) (A : Nat → Prop) (cs : Nat → ClassId) (tt : Nat) (N : Nat) (ad : Nat → Nat) (g : Nat → va_E) (i : Nat) (hN : i + 30 ≤ N) (x : Int) (hx : 0 ≤ x ∧ x ≤ 512) (F r : Nat → Int) (hM : okMr cs ad g i x F r) (z : Int) (hz : -2147483648 ≤ z ∧ z ≤ 2147483647) (hzo : z < 0 ∨ 3 < z) (z1 : Int) (hz1 : -2147483648 ≤ z1 ∧ z1 ≤ 2147483647) (z2 : Int) (hz2 : -2147483648 ≤ z2 ∧ z2 ≤ 2147483647) : zM l yX10_told cX10_told 4 (some .int) ({ frames := 4, cells := 0, slots := 0, locals := 240 } : Room) D A cs tt N ad g [.ref (ad i), .int (zI (z)), .int (zI (z1)), .int (zI (z2))] (rI0 N ad fun q g' => (-2147483648 ≤ q ∧ q ≤ 2147483647) ∧ (∃ F' r' : Nat → Int, okMr cs ad g' i (x + 1) F' r' ∧ F' 23 = F 23) ∧ ∀ j, j < i ∨ i + 30 ≤ j → g' j = g j) := by
  obtain ⟨hg, ⟨⟨e13, e14, e25, e27, e29⟩, k15, k16, k17, k18, k19, k20, k23⟩, hRD, hTx, hA, st, op, ai, fa, mu, tb, ns, nh, nd, rf, pi, tp, te, ki, li, ok1, ok2, fo, dd, dps, ⟨ha1, ha2, ha3, ha4, ha5, ha6, ha7, ha8, ha9, ha10, ha11, ha12, ha13, ha14, ha15, ha24, ha25, ha26, ha27, ha28, ha29⟩, hEv, hPt, hns, htp⟩ := id hM
  obtain ⟨-, hop, hai, hfa, hT, hT1⟩ := id hEv
  have hay1 : zAt ad (i) (ad i) := rfl
  have hay2 : zAt ad (i + 1) (ad (i + 1)) := rfl
  have hay3 : zAt ad (i + 2) (ad (i + 2)) := rfl
  have hay4 : zAt ad (i + 3) (ad (i + 3)) := rfl
  have hay5 : zAt ad (i + 4) (ad (i + 4)) := rfl
  have hay6 : zAt ad (i + 5) (ad (i + 5)) := rfl
  have hay7 : zAt ad (i + 6) (ad (i + 6)) := rfl
  have hay8 : zAt ad (i + 7) (ad (i + 7)) := rfl
  have hay9 : zAt ad (i + 8) (ad (i + 8)) := rfl
  have hay10 : zAt ad (i + 9) (ad (i + 9)) := rfl
  have hay11 : zAt ad (i + 10) (ad (i + 10)) := rfl
  have hay12 : zAt ad (i + 11) (ad (i + 11)) := rfl
  have hay13 : zAt ad (i + 12) (ad (i + 12)) := rfl
  have hay14 : zAt ad (i + 13) (ad (i + 13)) := rfl
  have hay15 : zAt ad (i + 14) (ad (i + 14)) := rfl
  have hay16 : zAt ad (i + 15) (ad (i + 15)) := rfl
  have hay17 : zAt ad (i + 24) (ad (i + 24)) := rfl
  have hay18 : zAt ad (i + 25) (ad (i + 25)) := rfl
  have hay19 : zAt ad (i + 26) (ad (i + 26)) := rfl
  have hay20 : zAt ad (i + 27) (ad (i + 27)) := rfl
  have hay21 : zAt ad (i + 28) (ad (i + 28)) := rfl
  have hay22 : zAt ad (i + 29) (ad (i + 29)) := rfl
  obtain ⟨⟨hsyy23, htyy23, hnyy23, hpyy23⟩, hlyy23⟩ := okA.at0 hA
  simp only [Nat.zero_add] at hsyy23 hnyy23 hpyy23
  have hmn : ∀ s, s < 4 → 0 ≤ r (6 + 86 * s) ∧ r (6 + 86 * s) ≤ 12 := fun s hs => (hsyy23 s hs).1
  have h5 : 0 ≤ r 5 ∧ r 5 ≤ 6 := hpyy23
  refine z_of (by decide) (Nat.le_of_ble_eq_true rfl) ?_
  intro pZ eZ sZ mZ below meth cZ C hr hlk hnm
  refine z_lv (lv' := [(0, .ref (ad i)), (1, .int (zI (z))), (2, .int (zI (z1))), (3, .int (zI (z2)))]) [0, 1, 2, 3] rfl ?_
  refine z_aload_n C 0 dX10_told_0 rfl ?_
  refine z_iconst (z := 0) C dX10_told_1 rfl ?_
  refine z_put (fs' := mF ad (i) (uZ F 12 (0))) C (by omega) hay1 hg tyX10 tyX10_ok nmX10 rfl inA_X10 12 (by decide) q_1471 rfl rfl rfl rfl (Nat.le_of_ble_eq_true rfl) rfl dX10_told_2 (fun gy24 egy25 => ?_)
  have hgy26 := up_s egy25
  refine z_aload_n C 0 dX10_told_5 rfl ?_
  refine z_iload_n C 1 dX10_told_6 rfl ?_
  refine z_iload_n C 2 dX10_told_7 rfl ?_
  have hgy27 := up_n egy25 ha1 (ne_o (i := i) (c := 1) (d := 0) rfl)
  have h13vy28 : (uZ F 12 (0)) 13 = F 13 := (fn rfl (by decide))
  have hey29 : (uZ F 12 (0)) 12 = 0 := (uZ_s _ _ _)
  refine z_cV (As := [.int (zI (z)), .int (zI (z1))]) (rest := []) (ci := 12) C (c_X10_isLayer_b l D A cs tt N ad _ i hN _ hgy26 (by omega) (by omega) (z) (by omega) (by omega) (z1)) (by omega) hay1 hgy26 rfl rfl mv_yX10_isLayer q_1819 hd_yX10_isLayer (by decide) (Nat.le_of_ble_eq_true rfl) (by decide) dX10_told_8 rfl (kI0 fun vy28 gvy28 hvy28 => ?_)
  obtain ⟨rfl, ⟨Fvy28, hcvy28, htvy28, hFvy28⟩, hfvy28⟩ := hvy28
  refine z_if_ne (tgt := 16) C dX10_told_11 (by decide) (by omega) (fun h => absurd h (by omega)) (fun _ => ?_)
  refine z_iconst (z := 0) C dX10_told_14 rfl ?_
  have hgy30 := (hfvy28 (i + 1) (ne_o (i := i) (c := 1) (d := 0) rfl)).trans hgy27
  have hFy31 : ∀ f, f ≠ 12 → Fvy28 f = F f := fun f n12 => ((hFvy28 f n12).trans ((uZ_n _ _ n12).trans rfl))
  have hey32 : Fvy28 13 = F 13 := ((hFvy28 13 (by decide)).trans (fn rfl (by decide)))
  have hey33 : Fvy28 14 = F 14 := ((hFvy28 14 (by decide)).trans (fn rfl (by decide)))
  have hey34 : Fvy28 15 = F 15 := ((hFvy28 15 (by decide)).trans (fn rfl (by decide)))
  have hey35 : Fvy28 16 = F 16 := ((hFvy28 16 (by decide)).trans (fn rfl (by decide)))
  have hey36 : Fvy28 17 = F 17 := ((hFvy28 17 (by decide)).trans (fn rfl (by decide)))
  have hey37 : Fvy28 18 = F 18 := ((hFvy28 18 (by decide)).trans (fn rfl (by decide)))
  have hey38 : Fvy28 19 = F 19 := ((hFvy28 19 (by decide)).trans (fn rfl (by decide)))
  have hey39 : Fvy28 20 = F 20 := ((hFvy28 20 (by decide)).trans (fn rfl (by decide)))
  have hey40 : Fvy28 23 = F 23 := ((hFvy28 23 (by decide)).trans (fn rfl (by decide)))
  have hey41 : Fvy28 25 = F 25 := ((hFvy28 25 (by decide)).trans (fn rfl (by decide)))
  have hey42 : Fvy28 27 = F 27 := ((hFvy28 27 (by decide)).trans (fn rfl (by decide)))
  have hey43 : Fvy28 28 = F 28 := ((hFvy28 28 (by decide)).trans (fn rfl (by decide)))
  have hey44 : Fvy28 29 = F 29 := ((hFvy28 29 (by decide)).trans (fn rfl (by decide)))
  have hKy45 : okF Fvy28 := by unfold okF; omega
  have hMy46 : okMr cs ad gvy28 i (x + 1) Fvy28 r := okMr.upd hM hcvy28 hKy45 (fun f a => hFy31 f (by omega)) hgy30 (hA.mono (by omega)) (fun j a b => by
      exact Or.inl (by rw [hfvy28 _ (by omega)]; rw [egy25, va_up_ne _ _ (by omega)]))
  have h23 : Fvy28 23 = F 23 := ((hFvy28 23 (by decide)).trans (fn rfl (by decide)))
  exact z_iret C hr hlk dX10_told_15 (by decide) (by decide) ⟨0, rfl, rfl, rfl, by omega, ⟨_, _, hMy46, by omega⟩, fun j j1 => by rw [hfvy28 _ (by omega)]; rw [egy25, va_up_ne _ _ (by omega)]⟩

set_option maxRecDepth 100000 in
set_option maxHeartbeats 4000000 in
theorem c_X10_told (l : Launch) (D : va_G) (A : Nat → Prop) (cs : Nat → ClassId) (tt : Nat) (N : Nat) (ad : Nat → Nat) (g : Nat → va_E) (i : Nat) (hN : i + 30 ≤ N) (x : Int) (hx : 0 ≤ x ∧ x ≤ 512) (F r : Nat → Int) (hM : okMr cs ad g i x F r) (z : Int) (hz : -2147483648 ≤ z ∧ z ≤ 2147483647) (z1 : Int) (hz1 : -2147483648 ≤ z1 ∧ z1 ≤ 2147483647) (z2 : Int) (hz2 : -2147483648 ≤ z2 ∧ z2 ≤ 2147483647) : zM l yX10_told cX10_told 4 (some .int) ({ frames := 4, cells := 0, slots := 0, locals := 240 } : Room) D A cs tt N ad g [.ref (ad i), .int (zI (z)), .int (zI (z1)), .int (zI (z2))] (rI0 N ad fun q g' => (-2147483648 ≤ q ∧ q ≤ 2147483647) ∧ (∃ F' r' : Nat → Int, okMr cs ad g' i (x + 1) F' r' ∧ F' 23 = F 23) ∧ ∀ j, j < i ∨ i + 30 ≤ j → g' j = g j) := by
  by_cases h9 : 0 ≤ z ∧ z ≤ 3
  · obtain ⟨n, rfl⟩ : ∃ n : Nat, z = (n : Int) := ⟨z.toNat, by omega⟩
    exact c_X10_told_a l D A cs tt N ad g i hN x hx F r hM n (by omega) z1 hz1 z2 hz2
  · exact c_X10_told_b l D A cs tt N ad g i hN x hx F r hM z hz (by omega) z1 hz1 z2 hz2

