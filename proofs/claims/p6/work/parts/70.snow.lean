theorem okState.refused2 {cs : Nat → ClassId} {ad : Nat → Nat} {g g' : Nat → va_E} {i : Nat} {ac nz : Int} {r' : Nat → Int} (h : okState cs ad g i ac nz) (hG : ∀ j, i ≤ j → j < i + 436 → j ≠ i + 17 → g' j = g j) (hw : g' (i + 17) = iA cs 3 r') : okState cs ad g' i ac nz := by
  have h1 : okState cs ad (va_up g' (i + 17) (g (i + 17))) i ac nz := h.mv (fun _ _ _ => rfl) (fun j a b => by
    by_cases e : j = i + 17
    · subst e; rw [va_up_self]
    · rw [va_up_ne _ _ e]; exact hG j a b e)
  exact okState.refused h1 (fun j e => (va_up_ne _ _ e).symm) hw

set_option maxRecDepth 100000 in
set_option maxHeartbeats 4000000 in
theorem c_X5_clear (l : Launch) (D : va_G) (A : Nat → Prop) (cs : Nat → ClassId) (tt : Nat) (N : Nat) (ad : Nat → Nat) (g : Nat → va_E) (b : Nat) (hNb : b + 7 ≤ N) (sl ho ua : Int) (st op ai fa mu tb : Nat → Int) (hb : isPlan cs ad g b sl ho ua st op ai fa mu tb) : zM l yX5_clear cX5_clear 1 none ({ frames := 1, cells := 0, slots := 0, locals := 60 } : Room) D A cs tt N ad g [.ref (ad b)] (rV0 N ad fun g' => okPlan cs ad g' b ∧ ∀ j, j < b ∨ b + 7 ≤ j → g' j = g j) := by
  have hay1 : zAt ad (b) (ad b) := rfl
  have hay2 : zAt ad (b + 1) (ad (b + 1)) := rfl
  have hay3 : zAt ad (b + 2) (ad (b + 2)) := rfl
  have hay4 : zAt ad (b + 3) (ad (b + 3)) := rfl
  have hay5 : zAt ad (b + 4) (ad (b + 4)) := rfl
  have hay6 : zAt ad (b + 5) (ad (b + 5)) := rfl
  have hay7 : zAt ad (b + 6) (ad (b + 6)) := rfl
  refine z_of (by decide) (Nat.le_of_ble_eq_true rfl) ?_
  intro p e s m below meth c C hr hlk hnm
  refine z_lv (lv' := [(0, .ref (ad b))]) [0] rfl ?_
  refine z_aload_n C 0 dX5_clear_0 rfl ?_
  refine z_iconst (z := 0) C dX5_clear_1 rfl ?_
  refine z_put (fs' := [.int (zI (0)), .int (zI (ho)), .int (zI (ua)), .ref (ad (b + 1)), .ref (ad (b + 2)), .ref (ad (b + 3)), .ref (ad (b + 4)), .ref (ad (b + 5)), .ref (ad (b + 6))]) C (by omega) hay1 hb.1 tyX5 tyX5_ok nmX5 rfl inA_X5 0 (by decide) q_88 rfl rfl rfl rfl (Nat.le_of_ble_eq_true rfl) rfl dX5_clear_2 (fun gy8 egy9 => ?_)
  have hgy10 := up_s egy9
  refine z_aload_n C 0 dX5_clear_5 rfl ?_
  refine z_iconst (z := 0) C dX5_clear_6 rfl ?_
  refine z_put (fs' := [.int (zI (0)), .int (zI (0)), .int (zI (ua)), .ref (ad (b + 1)), .ref (ad (b + 2)), .ref (ad (b + 3)), .ref (ad (b + 4)), .ref (ad (b + 5)), .ref (ad (b + 6))]) C (by omega) hay1 hgy10 tyX5 tyX5_ok nmX5 rfl inA_X5 1 (by decide) q_92 rfl rfl rfl rfl (Nat.le_of_ble_eq_true rfl) rfl dX5_clear_7 (fun gy11 egy12 => ?_)
  have hgy13 := up_s egy12
  refine z_aload_n C 0 dX5_clear_10 rfl ?_
  refine z_iconst (z := 0) C dX5_clear_11 rfl ?_
  refine z_put (fs' := [.int (zI (0)), .int (zI (0)), .int (zI (0)), .ref (ad (b + 1)), .ref (ad (b + 2)), .ref (ad (b + 3)), .ref (ad (b + 4)), .ref (ad (b + 5)), .ref (ad (b + 6))]) C (by omega) hay1 hgy13 tyX5 tyX5_ok nmX5 rfl inA_X5 2 (by decide) q_95 rfl rfl rfl rfl (Nat.le_of_ble_eq_true rfl) rfl dX5_clear_12 (fun gy14 egy15 => ?_)
  have hgy16 := up_s egy15
  refine z_getT C n_79 dX5_clear_15 ?_
  refine z_iconst (z := 0) C dX5_clear_18 rfl ?_
  refine z_aload_n C 0 dX5_clear_19 rfl ?_
  refine z_get (v := .ref (ad (b + 6))) C (by omega) hay1 hgy16 rfl inA_X5 8 (by decide) q_113 rfl rfl dX5_clear_20 ?_
  refine z_iconst (z := 0) C dX5_clear_23 rfl ?_
  refine z_aload_n C 0 dX5_clear_24 rfl ?_
  refine z_get (v := .ref (ad (b + 6))) C (by omega) hay1 hgy16 rfl inA_X5 8 (by decide) q_113 rfl rfl dX5_clear_25 ?_
  have hgy17 := up_n egy9 hb.2.2.2.2.2.2 (ne_o (i := b) (c := 6) (d := 0) rfl)
  have hgy18 := up_n egy12 hgy17 (ne_o (i := b) (c := 6) (d := 0) rfl)
  have hgy19 := up_n egy15 hgy18 (ne_o (i := b) (c := 6) (d := 0) rfl)
  refine z_alen (z := 15) C (by omega) hay7 hgy19 1 rfl rfl dX5_clear_28 ?_
  refine z_copyT C q_733 q_430 q_429 q_21 (by omega) hay7 hgy19 (by decide) (Nat.le_of_ble_eq_true rfl) dX5_clear_29 (fun gy20 egy21 => ?_)
  have hgy22 := up_s egy21
  refine z_ext (r' := tabZ) (by omega) hgy22 (fun j hj => cZ_all hj) (fun gy23 egy24 => ?_)
  have hgy25 := up_s egy24
  have hgy26 := up_n egy21 hgy16 (ne_o (i := b) (c := 0) (d := 6) rfl)
  have hgy27 := up_n egy24 hgy26 (ne_o (i := b) (c := 0) (d := 6) rfl)
  have hgy28 := up_n egy9 hb.2.1 (ne_o (i := b) (c := 1) (d := 0) rfl)
  have hgy29 := up_n egy12 hgy28 (ne_o (i := b) (c := 1) (d := 0) rfl)
  have hgy30 := up_n egy15 hgy29 (ne_o (i := b) (c := 1) (d := 0) rfl)
  have hgy31 := up_n egy21 hgy30 (ne_o (i := b) (c := 1) (d := 6) rfl)
  have hgy32 := up_n egy24 hgy31 (ne_o (i := b) (c := 1) (d := 6) rfl)
  have hgy33 := up_n egy9 hb.2.2.1 (ne_o (i := b) (c := 2) (d := 0) rfl)
  have hgy34 := up_n egy12 hgy33 (ne_o (i := b) (c := 2) (d := 0) rfl)
  have hgy35 := up_n egy15 hgy34 (ne_o (i := b) (c := 2) (d := 0) rfl)
  have hgy36 := up_n egy21 hgy35 (ne_o (i := b) (c := 2) (d := 6) rfl)
  have hgy37 := up_n egy24 hgy36 (ne_o (i := b) (c := 2) (d := 6) rfl)
  have hgy38 := up_n egy9 hb.2.2.2.1 (ne_o (i := b) (c := 3) (d := 0) rfl)
  have hgy39 := up_n egy12 hgy38 (ne_o (i := b) (c := 3) (d := 0) rfl)
  have hgy40 := up_n egy15 hgy39 (ne_o (i := b) (c := 3) (d := 0) rfl)
  have hgy41 := up_n egy21 hgy40 (ne_o (i := b) (c := 3) (d := 6) rfl)
  have hgy42 := up_n egy24 hgy41 (ne_o (i := b) (c := 3) (d := 6) rfl)
  have hgy43 := up_n egy9 hb.2.2.2.2.1 (ne_o (i := b) (c := 4) (d := 0) rfl)
  have hgy44 := up_n egy12 hgy43 (ne_o (i := b) (c := 4) (d := 0) rfl)
  have hgy45 := up_n egy15 hgy44 (ne_o (i := b) (c := 4) (d := 0) rfl)
  have hgy46 := up_n egy21 hgy45 (ne_o (i := b) (c := 4) (d := 6) rfl)
  have hgy47 := up_n egy24 hgy46 (ne_o (i := b) (c := 4) (d := 6) rfl)
  have hgy48 := up_n egy9 hb.2.2.2.2.2.1 (ne_o (i := b) (c := 5) (d := 0) rfl)
  have hgy49 := up_n egy12 hgy48 (ne_o (i := b) (c := 5) (d := 0) rfl)
  have hgy50 := up_n egy15 hgy49 (ne_o (i := b) (c := 5) (d := 0) rfl)
  have hgy51 := up_n egy21 hgy50 (ne_o (i := b) (c := 5) (d := 6) rfl)
  have hgy52 := up_n egy24 hgy51 (ne_o (i := b) (c := 5) (d := 6) rfl)
  exact z_vret C hr hlk dX5_clear_32 (by decide) (by decide) ⟨rfl, rfl, rfl, ⟨_, _, _, _, _, _, _, _, _, by omega, by omega, ⟨hgy27, hgy32, hgy37, hgy42, hgy47, hgy52, hgy25⟩⟩, fun j j1 => by rw [egy24, va_up_ne _ _ (by omega)]; rw [egy21, va_up_ne _ _ (by omega)]; rw [egy15, va_up_ne _ _ (by omega)]; rw [egy12, va_up_ne _ _ (by omega)]; rw [egy9, va_up_ne _ _ (by omega)]⟩

set_option maxRecDepth 100000 in
set_option maxHeartbeats 4000000 in
theorem c_X7_read (l : Launch) (D : va_G) (A : Nat → Prop) (cs : Nat → ClassId) (tt : Nat) (N : Nat) (ad : Nat → Nat) (g : Nat → va_E) (hN : 952 ≤ N) (tp : Nat → Int) (hr2 : okRdr ad g 2) (hg1 : g 1 = bA cs 900 tp) (hP9 : okPlan cs ad g 883) (hW9 : okWorld cs ad g 890) (z : Int) (hz : 0 ≤ z ∧ z ≤ 900) : zM l yX7_read cX7_read 6 (some .int) ({ frames := 10, cells := 0, slots := 0, locals := 600 } : Room) D A cs tt N ad g [.ref (ad 2), .ref (ad 1), .int (zI (z)), .ref (ad 883), .ref (ad 890)] (rI0 N ad fun r g' => (0 ≤ r ∧ r ≤ 5) ∧ okRun cs ad g' r tp ∧ okPlan cs ad g' 883 ∧ okWorld cs ad g' 890 ∧ ∀ j, j ≠ 2 → (j < 883 ∨ 900 ≤ j) → g' j = g j) := by
  obtain ⟨x0, x1, x3, x4, x5, x6, x7, x8, tx, hg2⟩ := id hr2
  have hay1 : zAt ad (2) (ad 2) := rfl
  have hay2 : zAt ad (1) (ad 1) := rfl
  have hay3 : zAt ad (883) (ad 883) := rfl
  have hay4 : zAt ad (890) (ad 890) := rfl
  obtain ⟨sloy5, hooy5, uaoy5, stoy5, opoy5, aioy5, faoy5, muoy5, tboy5, hsloy5, hhooy5, hpoy5⟩ := id hP9
  have hay6 : zAt ad (883 + 1) (ad (883 + 1)) := rfl
  have hay7 : zAt ad (883 + 2) (ad (883 + 2)) := rfl
  have hay8 : zAt ad (883 + 3) (ad (883 + 3)) := rfl
  have hay9 : zAt ad (883 + 4) (ad (883 + 4)) := rfl
  have hay10 : zAt ad (883 + 5) (ad (883 + 5)) := rfl
  have hay11 : zAt ad (883 + 6) (ad (883 + 6)) := rfl
  obtain ⟨thcy12, zhcy12, ohcy12, rhcy12, hzhcy12, hthcy12, hwhcy12⟩ := id hW9
  refine z_of (by decide) (Nat.le_of_ble_eq_true rfl) ?_
  intro p e s m below meth c C hr hlk hnm
  refine z_lv (lv' := [(0, .ref (ad 2)), (1, .ref (ad 1)), (2, .int (zI (z))), (3, .ref (ad 883)), (4, .ref (ad 890))]) [0, 1, 2, 3, 4] rfl ?_
  refine z_aload_n C 0 dX7_read_0 rfl ?_
  refine z_aload_n C 1 dX7_read_1 rfl ?_
  refine z_put (fs' := [.int (zI (x0)), .int (zI (x1)), .ref (ad 1), .int (zI (x3)), .int (zI (x4)), .int (zI (x5)), .int (zI (x6)), .int (zI (x7)), .int (zI (x8))]) C (lt_K hN (rfl : Nat.blt (2) 952 = true)) hay1 hg2 tyX7 tyX7_ok nmX7 rfl inA_X7 2 (by decide) q_46 rfl rfl rfl rfl (Nat.le_of_ble_eq_true rfl) rfl dX7_read_2 (fun gy13 egy14 => ?_)
  have hgy15 := up_s egy14
  refine z_aload_n C 0 dX7_read_5 rfl ?_
  refine z_iload_n C 2 dX7_read_6 rfl ?_
  refine z_aload_n C 1 dX7_read_7 rfl ?_
  have hgy16 := up_n egy14 hg1 (by decide)
  refine z_alen (z := 900) C (lt_K hN (rfl : Nat.blt (1) 952 = true)) hay2 hgy16 0 rfl rfl dX7_read_8 ?_
  refine z_mmin C q_728 q_473 q_20 q_474 (by omega) (by omega) (by decide) (Nat.le_of_ble_eq_true rfl) (by decide) (by decide) dX7_read_9 ?_
  obtain ⟨xy17, exy18, hxy19⟩ := mm_min (z) (900)
  rw [exy18]
  refine z_put (fs' := [.int (zI (x0)), .int (zI (x1)), .ref (ad 1), .int (zI (xy17)), .int (zI (x4)), .int (zI (x5)), .int (zI (x6)), .int (zI (x7)), .int (zI (x8))]) C (lt_K hN (rfl : Nat.blt (2) 952 = true)) hay1 hgy15 tyX7 tyX7_ok nmX7 rfl inA_X7 3 (by decide) q_47 rfl rfl rfl rfl (Nat.le_of_ble_eq_true rfl) rfl dX7_read_12 (fun gy20 egy21 => ?_)
  have hgy22 := up_s egy21
  refine z_aload_n C 0 dX7_read_15 rfl ?_
  refine z_iconst (z := 0) C dX7_read_16 rfl ?_
  refine z_put (fs' := [.int (zI (x0)), .int (zI (x1)), .ref (ad 1), .int (zI (xy17)), .int (zI (x4)), .int (zI (x5)), .int (zI (0)), .int (zI (x7)), .int (zI (x8))]) C (lt_K hN (rfl : Nat.blt (2) 952 = true)) hay1 hgy22 tyX7 tyX7_ok nmX7 rfl inA_X7 6 (by decide) q_50 rfl rfl rfl rfl (Nat.le_of_ble_eq_true rfl) rfl dX7_read_17 (fun gy23 egy24 => ?_)
  have hgy25 := up_s egy24
  refine z_aload_n C 0 dX7_read_20 rfl ?_
  refine z_iconst (z := 0) C dX7_read_21 rfl ?_
  refine z_put (fs' := [.int (zI (x0)), .int (zI (0)), .ref (ad 1), .int (zI (xy17)), .int (zI (x4)), .int (zI (x5)), .int (zI (0)), .int (zI (x7)), .int (zI (x8))]) C (lt_K hN (rfl : Nat.blt (2) 952 = true)) hay1 hgy25 tyX7 tyX7_ok nmX7 rfl inA_X7 1 (by decide) q_45 rfl rfl rfl rfl (Nat.le_of_ble_eq_true rfl) rfl dX7_read_22 (fun gy26 egy27 => ?_)
  have hgy28 := up_s egy27
  refine z_aload_n C 0 dX7_read_25 rfl ?_
  refine z_iconst (z := -1) C dX7_read_26 rfl ?_
  refine z_put (fs' := [.int (zI (-1)), .int (zI (0)), .ref (ad 1), .int (zI (xy17)), .int (zI (x4)), .int (zI (x5)), .int (zI (0)), .int (zI (x7)), .int (zI (x8))]) C (lt_K hN (rfl : Nat.blt (2) 952 = true)) hay1 hgy28 tyX7 tyX7_ok nmX7 rfl inA_X7 0 (by decide) q_43 rfl rfl rfl rfl (Nat.le_of_ble_eq_true rfl) rfl dX7_read_27 (fun gy29 egy30 => ?_)
  have hgy31 := up_s egy30
  refine z_aload_n C 0 dX7_read_30 rfl ?_
  refine z_iconst (z := 0) C dX7_read_31 rfl ?_
  refine z_put (fs' := [.int (zI (-1)), .int (zI (0)), .ref (ad 1), .int (zI (xy17)), .int (zI (x4)), .int (zI (x5)), .int (zI (0)), .int (zI (x7)), .int (zI (0))]) C (lt_K hN (rfl : Nat.blt (2) 952 = true)) hay1 hgy31 tyX7 tyX7_ok nmX7 rfl inA_X7 8 (by decide) q_52 rfl rfl rfl rfl (Nat.le_of_ble_eq_true rfl) rfl dX7_read_32 (fun gy32 egy33 => ?_)
  have hgy34 := up_s egy33
  refine z_aload_n C 3 dX7_read_35 rfl ?_
  have hgy36 := up_n egy14 hpoy5.1 (by decide)
  have hgy37 := up_n egy21 hgy36 (by decide)
  have hgy38 := up_n egy24 hgy37 (by decide)
  have hgy39 := up_n egy27 hgy38 (by decide)
  have hgy40 := up_n egy30 hgy39 (by decide)
  have hgy41 := up_n egy33 hgy40 (by decide)
  have hgy42 := up_n egy14 hpoy5.2.1 (by omega)
  have hgy43 := up_n egy21 hgy42 (by omega)
  have hgy44 := up_n egy24 hgy43 (by omega)
  have hgy45 := up_n egy27 hgy44 (by omega)
  have hgy46 := up_n egy30 hgy45 (by omega)
  have hgy47 := up_n egy33 hgy46 (by omega)
  have hgy48 := up_n egy14 hpoy5.2.2.1 (by omega)
  have hgy49 := up_n egy21 hgy48 (by omega)
  have hgy50 := up_n egy24 hgy49 (by omega)
  have hgy51 := up_n egy27 hgy50 (by omega)
  have hgy52 := up_n egy30 hgy51 (by omega)
  have hgy53 := up_n egy33 hgy52 (by omega)
  have hgy54 := up_n egy14 hpoy5.2.2.2.1 (by omega)
  have hgy55 := up_n egy21 hgy54 (by omega)
  have hgy56 := up_n egy24 hgy55 (by omega)
  have hgy57 := up_n egy27 hgy56 (by omega)
  have hgy58 := up_n egy30 hgy57 (by omega)
  have hgy59 := up_n egy33 hgy58 (by omega)
  have hgy60 := up_n egy14 hpoy5.2.2.2.2.1 (by omega)
  have hgy61 := up_n egy21 hgy60 (by omega)
  have hgy62 := up_n egy24 hgy61 (by omega)
  have hgy63 := up_n egy27 hgy62 (by omega)
  have hgy64 := up_n egy30 hgy63 (by omega)
  have hgy65 := up_n egy33 hgy64 (by omega)
  have hgy66 := up_n egy14 hpoy5.2.2.2.2.2.1 (by omega)
  have hgy67 := up_n egy21 hgy66 (by omega)
  have hgy68 := up_n egy24 hgy67 (by omega)
  have hgy69 := up_n egy27 hgy68 (by omega)
  have hgy70 := up_n egy30 hgy69 (by omega)
  have hgy71 := up_n egy33 hgy70 (by omega)
  have hgy72 := up_n egy14 hpoy5.2.2.2.2.2.2 (by omega)
  have hgy73 := up_n egy21 hgy72 (by omega)
  have hgy74 := up_n egy24 hgy73 (by omega)
  have hgy75 := up_n egy27 hgy74 (by omega)
  have hgy76 := up_n egy30 hgy75 (by omega)
  have hgy77 := up_n egy33 hgy76 (by omega)
  refine z_cV (As := []) (rest := []) (ci := 7) C (c_X5_clear l D A cs tt N ad _ 883 (by omega) _ _ _ _ _ _ _ _ _ ⟨hgy41, hgy47, hgy53, hgy59, hgy65, hgy71, hgy77⟩) (lt_K hN (rfl : Nat.blt (883) 952 = true)) hay3 hgy41 rfl rfl mv_yX5_clear q_729 hd_yX5_clear (by decide) (Nat.le_of_ble_eq_true rfl) (by decide) dX7_read_36 rfl (kV0 fun gvy35 hvy35 => ?_)
  obtain ⟨hpvy35, hfvy35⟩ := hvy35
  have hopy78 : okPlan cs ad gvy35 883 := hpvy35
  refine z_aload C 4 dX7_read_39 rfl ?_
  have hoky79 : okWorld cs ad gvy35 (890) := okWorld.mv (fun j j1 j2 => by rw [hfvy35 _ (by omega)]; rw [egy33, va_up_ne _ _ (by omega)]; rw [egy30, va_up_ne _ _ (by omega)]; rw [egy27, va_up_ne _ _ (by omega)]; rw [egy24, va_up_ne _ _ (by omega)]; rw [egy21, va_up_ne _ _ (by omega)]; rw [egy14, va_up_ne _ _ (by omega)]) hW9
  have hgy81 := up_n egy14 hwhcy12.1 (by decide)
  have hgy82 := up_n egy21 hgy81 (by decide)
  have hgy83 := up_n egy24 hgy82 (by decide)
  have hgy84 := up_n egy27 hgy83 (by decide)
  have hgy85 := up_n egy30 hgy84 (by decide)
  have hgy86 := up_n egy33 hgy85 (by decide)
  have hgy87 := (hfvy35 (890) (by omega)).trans hgy86
  refine z_cV (As := []) (rest := []) (ci := 10) C (c_X8_clear l D A cs tt N ad _ (890) (by omega) hoky79) (lt_K hN (rfl : Nat.blt (890) 952 = true)) hay4 hgy87 rfl rfl mv_yX8_clear q_734 hd_yX8_clear (by decide) (Nat.le_of_ble_eq_true rfl) (by decide) dX7_read_41 rfl (kV0 fun gvy80 hvy80 => ?_)
  obtain ⟨hkvy80, hfvy80⟩ := hvy80
  have hoky88 : okWorld cs ad gvy80 (890) := hkvy80
  obtain ⟨thcy89, zhcy89, ohcy89, rhcy89, hzhcy89, hthcy89, hwhcy89⟩ := id hoky88
  refine z_aload_n C 0 dX7_read_44 rfl ?_
  have hgy90 := (hfvy35 (2) (by omega)).trans hgy34
  have hgy91 := (hfvy80 (2) (by omega)).trans hgy90
  have hgy92 := up_n egy21 hgy16 (by decide)
  have hgy93 := up_n egy24 hgy92 (by decide)
  have hgy94 := up_n egy27 hgy93 (by decide)
  have hgy95 := up_n egy30 hgy94 (by decide)
  have hgy96 := up_n egy33 hgy95 (by decide)
  have hgy97 := (hfvy35 (1) (by omega)).trans hgy96
  have hgy98 := (hfvy80 (1) (by omega)).trans hgy97
  refine z_cV (As := []) (rest := []) (ci := 9) C (c_X7_peek l D A cs tt N ad _ (by omega) _ _ _ _ _ _ _ _ tp (by omega) hgy91 hgy98) (lt_K hN (rfl : Nat.blt (2) 952 = true)) hay1 hgy91 rfl rfl mv_yX7_peek q_742 hd_yX7_peek (by decide) (Nat.le_of_ble_eq_true rfl) (by decide) dX7_read_45 rfl (kV0 fun gvy99 hvy99 => ?_)
  obtain ⟨hkvy99, hfvy99⟩ := hvy99
  obtain ⟨pldy100, endy100, tydy100, a9dy100, bedy100, tkdy100, tddy100, hAdy100, hTdy100, hcdy100, hddy100⟩ := id hkvy99
  refine z_iconst (z := 0) C dX7_read_48 rfl ?_
  refine z_istore (lv' := [(5, .int (zI (0))), (0, .ref (ad 2)), (1, .ref (ad 1)), (2, .int (zI (z))), (3, .ref (ad 883)), (4, .ref (ad 890))]) C dX7_read_49 (by decide) rfl ?_
  have lp : ∀ (n9 : Nat) (i : Int) (c9 : Int) (g1 : Nat → va_E), (901 - i).toNat = n9 → (okRun cs ad g1 c9 tp) → (okPlan cs ad g1 883) → (okWorld cs ad g1 890) → (∀ j, j ≠ 2 → (j < 883 ∨ 900 ≤ j) → g1 j = g j) → (0 ≤ i ∧ i ≤ 901) → zV p l e ({ frames := 10, cells := 0, slots := 0, locals := 600 } : Room) s m ([.ref (ad 2), .ref (ad 1), .int (zI (z)), .ref (ad 883), .ref (ad 890)] : List Value).toArray below meth c (MQ below (zPost D A (rI0 N ad fun r g' => (0 ≤ r ∧ r ≤ 5) ∧ okRun cs ad g' r tp ∧ okPlan cs ad g' 883 ∧ okWorld cs ad g' 890 ∧ ∀ j, j ≠ 2 → (j < 883 ∨ 900 ≤ j) → g' j = g j)) ([.ref (ad 2), .ref (ad 1), .int (zI (z)), .ref (ad 883), .ref (ad 890)] : List Value).toArray s ({ frames := 10, cells := 0, slots := 0, locals := 600 } : Room).cells ({ frames := 10, cells := 0, slots := 0, locals := 600 } : Room).slots A) D A 6 (N) ad g1 (0) (0) 51 [(5, .int (zI (i))), (0, .ref (ad 2)), (3, .ref (ad 883)), (4, .ref (ad 890))] [] := by
    intro n9
    induction n9 using Nat.strongRecOn with
    | ind n9 ih =>
      intro i c9 g1 hm9 f1 f2 f3 f4 f5
      have hay101 : zAt ad (2) (ad 2) := rfl
      have hay102 : zAt ad (1) (ad 1) := rfl
      have hay103 : zAt ad (883) (ad 883) := rfl
      have hay104 : zAt ad (890) (ad 890) := rfl
      obtain ⟨pldy105, endy105, tydy105, a9dy105, bedy105, tkdy105, tddy105, hAdy105, hTdy105, hcdy105, hddy105⟩ := id f1
      refine z_iload C 0 dX7_read_51 rfl ?_
      refine z_aload_n C 1 dX7_read_53 rfl ?_
      refine z_get (v := .int (zI (endy105))) C (lt_K hN (rfl : Nat.blt (2) 952 = true)) hay101 hcdy105 rfl inA_X7 3 (by decide) q_47 rfl rfl dX7_read_54 ?_
      refine z_icmp_gt (tgt := 87) C dX7_read_57 (by decide) (by omega) (by omega) (fun hby106 => ?_) (fun hby106 => ?_)
      · refine z_aload_n C 1 dX7_read_87 rfl ?_
        refine z_get (v := .int (zI (c9))) C (lt_K hN (rfl : Nat.blt (2) 952 = true)) hay101 hcdy105 rfl inA_X7 1 (by decide) q_45 rfl rfl dX7_read_88 ?_
        have hruny107 : okRun cs ad g1 (c9) tp := ⟨_, _, _, _, _, _, _, by omega, by omega, hcdy105, hddy105⟩
        exact z_iret C hr hlk dX7_read_91 (by decide) (by decide) ⟨c9, rfl, rfl, rfl, by omega, hruny107, f2, f3, fun j j1 j2 => by exact f4 j j1 j2⟩
      · refine z_aload_n C 1 dX7_read_60 rfl ?_
        refine z_get (v := .int (zI (c9))) C (lt_K hN (rfl : Nat.blt (2) 952 = true)) hay101 hcdy105 rfl inA_X7 1 (by decide) q_45 rfl rfl dX7_read_61 ?_
        refine z_if_ne (tgt := 87) C dX7_read_64 (by decide) (by omega) (fun hby108 => ?_) (fun hby108 => ?_)
        · refine z_aload_n C 1 dX7_read_87 rfl ?_
          refine z_get (v := .int (zI (c9))) C (lt_K hN (rfl : Nat.blt (2) 952 = true)) hay101 hcdy105 rfl inA_X7 1 (by decide) q_45 rfl rfl dX7_read_88 ?_
          have hruny109 : okRun cs ad g1 (c9) tp := ⟨_, _, _, _, _, _, _, by omega, by omega, hcdy105, hddy105⟩
          exact z_iret C hr hlk dX7_read_91 (by decide) (by decide) ⟨c9, rfl, rfl, rfl, by omega, hruny109, f2, f3, fun j j1 j2 => by exact f4 j j1 j2⟩
        · refine z_aload_n C 1 dX7_read_67 rfl ?_
          refine z_get (v := .int (zI (tydy105))) C (lt_K hN (rfl : Nat.blt (2) 952 = true)) hay101 hcdy105 rfl inA_X7 4 (by decide) q_48 rfl rfl dX7_read_68 ?_
          refine z_if_eq (tgt := 87) C dX7_read_71 (by decide) (by omega) (fun hby110 => ?_) (fun hby110 => ?_)
          · refine z_aload_n C 1 dX7_read_87 rfl ?_
            refine z_get (v := .int (zI (c9))) C (lt_K hN (rfl : Nat.blt (2) 952 = true)) hay101 hcdy105 rfl inA_X7 1 (by decide) q_45 rfl rfl dX7_read_88 ?_
            have hruny111 : okRun cs ad g1 (c9) tp := ⟨_, _, _, _, _, _, _, by omega, by omega, hcdy105, hddy105⟩
            exact z_iret C hr hlk dX7_read_91 (by decide) (by decide) ⟨c9, rfl, rfl, rfl, by omega, hruny111, f2, f3, fun j j1 j2 => by exact f4 j j1 j2⟩
          · refine z_aload_n C 1 dX7_read_74 rfl ?_
            refine z_aload_n C 2 dX7_read_75 rfl ?_
            refine z_aload C 3 dX7_read_76 rfl ?_
            have hruny112 : okRun cs ad g1 (c9) tp := ⟨_, _, _, _, _, _, _, by omega, by omega, hcdy105, hddy105⟩
            refine z_cV (As := [.ref (ad 883), .ref (ad 890)]) (rest := []) (ci := 9) C (c_X7_readClause l D A cs tt N ad _ (by omega) _ tp hruny112 f2 f3 ) (lt_K hN (rfl : Nat.blt (2) 952 = true)) hay101 hcdy105 rfl rfl mv_yX7_readClause q_749 hd_yX7_readClause (by decide) (Nat.le_of_ble_eq_true rfl) (by decide) dX7_read_78 rfl (kV0 fun gvy113 hvy113 => ?_)
            obtain ⟨⟨covy113, hkvy113, hnvy113⟩, hpvy113, hwvy113, hfvy113⟩ := hvy113
            obtain ⟨pldy114, endy114, tydy114, a9dy114, bedy114, tkdy114, tddy114, hAdy114, hTdy114, hcdy114, hddy114⟩ := id hkvy113
            refine z_iinc (z := i + 1) (lv' := [(5, .int (zI (i + 1))), (0, .ref (ad 2)), (3, .ref (ad 883)), (4, .ref (ad 890))]) (j := 0) C dX7_read_81 rfl rfl (by decide) rfl ?_
            refine z_goto (tgt := 51) C dX7_read_84 (by decide) ?_
            have hruny115 : okRun cs ad gvy113 (covy113) tp := ⟨_, _, _, _, _, _, _, by omega, by omega, hcdy114, hddy114⟩
            refine z_lv (lv' := [(5, .int (zI (i + 1))), (0, .ref (ad 2)), (3, .ref (ad 883)), (4, .ref (ad 890))]) [0, 1, 2, 3] rfl ?_
            exact ih _ (by omega) (i + 1) (covy113) gvy113 rfl hruny115 hpvy113 hwvy113 (fun j j1 j2 => by rw [hfvy113 _ (by omega) (by omega)]; exact f4 j j1 j2) (by omega)
  have hruny116 : okRun cs ad gvy99 (0) tp := ⟨_, _, _, _, _, _, _, by omega, by omega, hcdy100, hddy100⟩
  have hpy117 := okPlan.mv (ad' := ad) (g' := gvy99) (fun j h1 h2 => by rfl) (fun j h1 h2 => by rw [hfvy99 _ (by omega)]; rw [hfvy80 _ (by omega)]) hopy78
  have hoky118 : okWorld cs ad gvy99 (890) := okWorld.mv (fun j j1 j2 => by rw [hfvy99 _ (by omega)]) hoky88
  refine z_lv (lv' := [(5, .int (zI (0))), (0, .ref (ad 2)), (3, .ref (ad 883)), (4, .ref (ad 890))]) [0, 1, 4, 5] rfl ?_
  exact lp _ (0) (0) gvy99 rfl hruny116 hpy117 hoky118 (fun j j1 j2 => by rw [hfvy99 _ (by omega)]; rw [hfvy80 _ (by omega)]; rw [hfvy35 _ (by omega)]; rw [egy33, va_up_ne _ _ (by omega)]; rw [egy30, va_up_ne _ _ (by omega)]; rw [egy27, va_up_ne _ _ (by omega)]; rw [egy24, va_up_ne _ _ (by omega)]; rw [egy21, va_up_ne _ _ (by omega)]; rw [egy14, va_up_ne _ _ (by omega)]) (by omega)

set_option maxRecDepth 100000 in
set_option maxHeartbeats 4000000 in
theorem c_X9_snow (l : Launch) (D : va_G) (A : Nat → Prop) (cs : Nat → ClassId) (tt : Nat) (N : Nat) (ad : Nat → Nat) (g : Nat → va_E) (hN : 952 ≤ N) (t fp im nz kz sl ho ua : Int) (st op ai fa mu tb tp : Nat → Int) (hR : okRec cs ad g N t fp im nz kz sl ho ua st op ai fa mu tb tp) (hl0 : l.stackTraces = false) (z : Int) (hz : -2147483648 ≤ z ∧ z ≤ 2147483647) : zMX l yX9_snow cX9_snow 3 (some .int) ({ frames := 12, cells := 6, slots := 60, locals := 720 } : Room) D A cs tt N ad g [.ref (ad 0), .int (zI (z))] (rI0 N ad fun r g' => ((0 ≤ r ∧ r ≤ 5) ∧ 0 ≤ z ∧ z ≤ t) ∧ (∃ (fp' im' nz' sl' ho' ua' : Int) (st' op' ai' fa' mu' tb' : Nat → Int), okRec cs ad g' N 0 fp' im' nz' kz sl' ho' ua' st' op' ai' fa' mu' tb' tp) ∧ oX g g') (fun E N' ad' g' => (E = eIA ∧ ¬ (0 ≤ z ∧ z ≤ t)) ∧ N' = N ∧ ad' = ad ∧ g' = g) := by
  obtain ⟨ary1, bry1, cry1, dry1, ery1, fry1, gry11, hry1, ⟨acry1, iry1⟩, ⟨kcry1, jry1⟩, kry1, lry1, mry1, nry1, ory1, pry1⟩ := id hR
  have hay2 : zAt ad (0) (ad 0) := rfl
  have hay3 : zAt ad (1) (ad 1) := rfl
  have hay4 : zAt ad (2) (ad 2) := rfl
  have hay5 : zAt ad (4) (ad 4) := rfl
  have hay6 : zAt ad (11) (ad 11) := rfl
  have hay7 : zAt ad (447) (ad 447) := rfl
  have hay8 : zAt ad (883) (ad 883) := rfl
  have hay9 : zAt ad (890) (ad 890) := rfl
  have hay10 : zAt ad (900) (ad 900) := rfl
  have hay11 : zAt ad (910) (ad 910) := rfl
  have hay12 : zAt ad (917) (ad 917) := rfl
  have hay13 : zAt ad (919) (ad 919) := rfl
  have hay14 : zAt ad (4 + 1) (ad (4 + 1)) := rfl
  have hay15 : zAt ad (4 + 2) (ad (4 + 2)) := rfl
  have hay16 : zAt ad (4 + 3) (ad (4 + 3)) := rfl
  have hay17 : zAt ad (4 + 4) (ad (4 + 4)) := rfl
  have hay18 : zAt ad (4 + 5) (ad (4 + 5)) := rfl
  have hay19 : zAt ad (4 + 6) (ad (4 + 6)) := rfl
  obtain ⟨thcy20, zhcy20, ohcy20, rhcy20, hzhcy20, hthcy20, hwhcy20⟩ := id lry1
  obtain ⟨thcy21, zhcy21, ohcy21, rhcy21, hzhcy21, hthcy21, hwhcy21⟩ := id mry1
  obtain ⟨asy22, bsy22, csy22, dsy22, esy22, ⟨ptsy22, fsy22, gsy221⟩, hsy22, ⟨nusy22, nvsy22, nwsy22, isy22, jsy22, ksy22, lsy22, msy22, nsy22⟩, rfsy22, osy22⟩ := id iry1
  have hay23 : zAt ad (11 + 1) (ad (11 + 1)) := rfl
  have hay24 : zAt ad (11 + 11) (ad (11 + 11)) := rfl
  have hay25 : zAt ad (11 + 12) (ad (11 + 12)) := rfl
  have hay26 : zAt ad (11 + 13) (ad (11 + 13)) := rfl
  have hay27 : zAt ad (11 + 13 + 1) (ad (11 + 13 + 1)) := rfl
  have hay28 : zAt ad (11 + 13 + 2) (ad (11 + 13 + 2)) := rfl
  have hay29 : zAt ad (11 + 13 + 3) (ad (11 + 13 + 3)) := rfl
  have hay30 : zAt ad (11 + 17) (ad (11 + 17)) := rfl
  obtain ⟨uy31t, uy31z, uy31o, uy31r, uy31z4, uy31t5, uy311, ⟨uy31u, uy312, uy313⟩, uy314⟩ := id csy22
  have hay32 : zAt ad (11 + 1) (ad (11 + 1)) := rfl
  have hay33 : zAt ad (11 + 1 + 1) (ad (11 + 1 + 1)) := rfl
  obtain ⟨sloy34, hooy34, uaoy34, stoy34, opoy34, aioy34, faoy34, muoy34, tboy34, hsloy34, hhooy34, hpoy34⟩ := id kry1
  have hay35 : zAt ad (883 + 1) (ad (883 + 1)) := rfl
  have hay36 : zAt ad (883 + 2) (ad (883 + 2)) := rfl
  have hay37 : zAt ad (883 + 3) (ad (883 + 3)) := rfl
  have hay38 : zAt ad (883 + 4) (ad (883 + 4)) := rfl
  have hay39 : zAt ad (883 + 5) (ad (883 + 5)) := rfl
  have hay40 : zAt ad (883 + 6) (ad (883 + 6)) := rfl
  refine z_ofX (by decide) (Nat.le_of_ble_eq_true rfl) ?_
  intro p e s m below meth c C hr hlk hxt
  refine z_lv (lv' := [(0, .ref (ad 0)), (1, .int (zI (z)))]) [0, 1] rfl ?_
  refine z_iload_n C 1 dX9_snow_0 rfl ?_
  refine z_if_lt (tgt := 12) C dX9_snow_1 (by decide) (by omega) (fun hby41 => ?_) (fun hby41 => ?_)
  · exact z_thr (cls := eIA) (text := "the tape has not so many bytes") C hl0 (by decide +kernel) q_658 q_19 (by decide +kernel) at_IA gd_IA dX9_snow_12 dX9_snow_15 dX9_snow_16 dX9_snow_18 dX9_snow_21 hxt (by decide) (Nat.le_of_ble_eq_true rfl) (by decide) (by decide) hlk (by decide) (by decide) ⟨⟨rfl, by omega⟩, rfl, rfl, rfl⟩
  · refine z_iload_n C 1 dX9_snow_4 rfl ?_
    refine z_aload_n C 0 dX9_snow_5 rfl ?_
    refine z_get (v := .int (zI (t))) C (lt_K hN (rfl : Nat.blt (0) 952 = true)) hay2 ary1 rfl inA_X9 1 (by decide) q_350 rfl rfl dX9_snow_6 ?_
    refine z_icmp_le (tgt := 22) C dX9_snow_9 (by decide) (by omega) (by omega) (fun hby42 => ?_) (fun hby42 => ?_)
    · refine z_aload_n C 0 dX9_snow_22 rfl ?_
      refine z_get (v := .ref (ad 2)) C (lt_K hN (rfl : Nat.blt (0) 952 = true)) hay2 ary1 rfl inA_X9 3 (by decide) q_352 rfl rfl dX9_snow_23 ?_
      refine z_aload_n C 0 dX9_snow_26 rfl ?_
      refine z_get (v := .ref (ad 1)) C (lt_K hN (rfl : Nat.blt (0) 952 = true)) hay2 ary1 rfl inA_X9 0 (by decide) q_349 rfl rfl dX9_snow_27 ?_
      refine z_iload_n C 1 dX9_snow_30 rfl ?_
      refine z_aload_n C 0 dX9_snow_31 rfl ?_
      refine z_get (v := .ref (ad 883)) C (lt_K hN (rfl : Nat.blt (0) 952 = true)) hay2 ary1 rfl inA_X9 8 (by decide) q_357 rfl rfl dX9_snow_32 ?_
      refine z_aload_n C 0 dX9_snow_35 rfl ?_
      refine z_get (v := .ref (ad 890)) C (lt_K hN (rfl : Nat.blt (0) 952 = true)) hay2 ary1 rfl inA_X9 9 (by decide) q_358 rfl rfl dX9_snow_36 ?_
      obtain ⟨x0xy43, x1xy43, x3xy43, x4xy43, x5xy43, x6xy43, x7xy43, x8xy43, txxy43, hcxy43⟩ := id ery1
      refine z_cV (As := [.ref (ad 1), .int (zI (z)), .ref (ad 883), .ref (ad 890)]) (rest := []) (ci := 9) C (c_X7_read l D A cs tt N ad _ (by omega) _ ery1 dry1 kry1 lry1 (z) (by omega)) (lt_K hN (rfl : Nat.blt (2) 952 = true)) hay4 hcxy43 rfl rfl mv_yX7_read q_724 hd_yX7_read (by decide) (Nat.le_of_ble_eq_true rfl) (by decide) dX9_snow_39 rfl (kI0 fun vy44 gvy44 hvy44 => ?_)
      obtain ⟨hrvy44, hkvy44, hpvy44, hwvy44, hfvy44⟩ := hvy44
      obtain ⟨plvy44, envy44, tyvy44, a9vy44, bevy44, tkvy44, tdvy44, hAvy44, hTvy44, hcvy44, hdvy44⟩ := id hkvy44
      have hrdvy44 : okRdr ad gvy44 2 := ⟨_, _, _, _, _, _, _, _, _, hcvy44⟩
      obtain ⟨thcy45, zhcy45, ohcy45, rhcy45, hzhcy45, hthcy45, hwhcy45⟩ := id hwvy44
      refine z_istore_n (lv' := [(2, .int (zI (vy44))), (0, .ref (ad 0)), (1, .int (zI (z)))]) C dX9_snow_42 rfl (by decide) rfl ?_
      refine z_aload_n C 1 dX9_snow_43 rfl ?_
      refine z_iconst (z := 0) C dX9_snow_44 rfl ?_
      have hgy46 := (hfvy44 (0) (by decide) (by omega)).trans ary1
      refine z_put (fs' := [.ref (ad 1), .int (zI (0)), .int (zI (fp)), .ref (ad 2), .ref (ad 4), .ref (ad 11), .ref (ad 447), .int (zI (im)), .ref (ad 883), .ref (ad 890), .ref (ad 900), .ref (ad 910), .ref (ad 917), .ref (ad 919)]) C (lt_K hN (rfl : Nat.blt (0) 952 = true)) hay2 hgy46 tyX9 tyX9_ok nmX9 rfl inA_X9 1 (by decide) q_350 rfl rfl rfl rfl (Nat.le_of_ble_eq_true rfl) rfl dX9_snow_45 (fun gy47 egy48 => ?_)
      have hgy49 := up_s egy48
      refine z_aload_n C 1 dX9_snow_48 rfl ?_
      refine z_aload_n C 1 dX9_snow_49 rfl ?_
      refine z_get (v := .ref (ad 2)) C (lt_K hN (rfl : Nat.blt (0) 952 = true)) hay2 hgy49 rfl inA_X9 3 (by decide) q_352 rfl rfl dX9_snow_50 ?_
      have hgy50 := up_n egy48 hcvy44 (by decide)
      refine z_get (v := .int (zI (plvy44))) C (lt_K hN (rfl : Nat.blt (2) 952 = true)) hay4 hgy50 rfl inA_X7 0 (by decide) q_44 rfl rfl dX9_snow_53 ?_
      refine z_put (fs' := [.ref (ad 1), .int (zI (0)), .int (zI (plvy44)), .ref (ad 2), .ref (ad 4), .ref (ad 11), .ref (ad 447), .int (zI (im)), .ref (ad 883), .ref (ad 890), .ref (ad 900), .ref (ad 910), .ref (ad 917), .ref (ad 919)]) C (lt_K hN (rfl : Nat.blt (0) 952 = true)) hay2 hgy49 tyX9 tyX9_ok nmX9 rfl inA_X9 2 (by decide) q_351 rfl rfl rfl rfl (Nat.le_of_ble_eq_true rfl) rfl dX9_snow_56 (fun gy51 egy52 => ?_)
      have hgy53 := up_s egy52
      refine z_iload_n C 0 dX9_snow_59 rfl ?_
      refine z_if_eq (tgt := 78) C dX9_snow_60 (by decide) (by omega) (fun hby54 => ?_) (fun hby54 => ?_)
      · refine z_aload_n C 1 dX9_snow_78 rfl ?_
        refine z_get (v := .ref (ad 4)) C (lt_K hN (rfl : Nat.blt (0) 952 = true)) hay2 hgy53 rfl inA_X9 4 (by decide) q_353 rfl rfl dX9_snow_79 ?_
        refine z_aload_n C 1 dX9_snow_82 rfl ?_
        refine z_get (v := .ref (ad 883)) C (lt_K hN (rfl : Nat.blt (0) 952 = true)) hay2 hgy53 rfl inA_X9 8 (by decide) q_357 rfl rfl dX9_snow_83 ?_
        have hpy55 := okPlan.mv (ad' := ad) (g' := gy51) (fun j h1 h2 => by rfl) (fun j h1 h2 => by rw [egy52, va_up_ne _ _ (by omega)]; rw [egy48, va_up_ne _ _ (by omega)]) hpvy44
        obtain ⟨sloy56, hooy56, uaoy56, stoy56, opoy56, aioy56, faoy56, muoy56, tboy56, hsloy56, hhooy56, hpoy56⟩ := id hpy55
        have hgy58 := (hfvy44 (4) (by decide) (by omega)).trans fry1.1
        have hgy59 := up_n egy48 hgy58 (by decide)
        have hgy60 := up_n egy52 hgy59 (by decide)
        have hgy61 := (hfvy44 (4 + 1) (by omega) (by omega)).trans fry1.2.1
        have hgy62 := up_n egy48 hgy61 (by omega)
        have hgy63 := up_n egy52 hgy62 (by omega)
        have hgy64 := (hfvy44 (4 + 2) (by omega) (by omega)).trans fry1.2.2.1
        have hgy65 := up_n egy48 hgy64 (by omega)
        have hgy66 := up_n egy52 hgy65 (by omega)
        have hgy67 := (hfvy44 (4 + 3) (by omega) (by omega)).trans fry1.2.2.2.1
        have hgy68 := up_n egy48 hgy67 (by omega)
        have hgy69 := up_n egy52 hgy68 (by omega)
        have hgy70 := (hfvy44 (4 + 4) (by omega) (by omega)).trans fry1.2.2.2.2.1
        have hgy71 := up_n egy48 hgy70 (by omega)
        have hgy72 := up_n egy52 hgy71 (by omega)
        have hgy73 := (hfvy44 (4 + 5) (by omega) (by omega)).trans fry1.2.2.2.2.2.1
        have hgy74 := up_n egy48 hgy73 (by omega)
        have hgy75 := up_n egy52 hgy74 (by omega)
        have hgy76 := (hfvy44 (4 + 6) (by omega) (by omega)).trans fry1.2.2.2.2.2.2
        have hgy77 := up_n egy48 hgy76 (by omega)
        have hgy78 := up_n egy52 hgy77 (by omega)
        refine z_cV (As := [.ref (ad 883)]) (rest := []) (ci := 7) C (c_X5_copyFrom l D A cs tt N ad _ 4 (by omega) _ _ _ _ _ _ _ _ _ ⟨hgy60, hgy63, hgy66, hgy69, hgy72, hgy75, hgy78⟩ 883 (by omega) _ _ _ _ _ _ _ _ _ ⟨hpoy56.1, hpoy56.2.1, hpoy56.2.2.1, hpoy56.2.2.2.1, hpoy56.2.2.2.2.1, hpoy56.2.2.2.2.2.1, hpoy56.2.2.2.2.2.2⟩ (by omega)) (lt_K hN (rfl : Nat.blt (4) 952 = true)) hay5 hgy60 rfl rfl mv_yX5_copyFrom q_862 hd_yX5_copyFrom (by decide) (Nat.le_of_ble_eq_true rfl) (by decide) dX9_snow_86 rfl (kV0 fun gvy57 hvy57 => ?_)
        obtain ⟨hpvy57, hfvy57⟩ := hvy57
        refine z_aload_n C 1 dX9_snow_89 rfl ?_
        have hgy79 := (hfvy57 (0) (by omega)).trans hgy53
        refine z_get (v := .ref (ad 11)) C (lt_K hN (rfl : Nat.blt (0) 952 = true)) hay2 hgy79 rfl inA_X9 5 (by decide) q_354 rfl rfl dX9_snow_90 ?_
        refine z_aload_n C 1 dX9_snow_93 rfl ?_
        refine z_get (v := .ref (ad 890)) C (lt_K hN (rfl : Nat.blt (0) 952 = true)) hay2 hgy79 rfl inA_X9 9 (by decide) q_358 rfl rfl dX9_snow_94 ?_
        have hpy80 := okState.mv (ad' := ad) (g' := gvy57) (fun j h1 h2 => by rfl) (fun j h1 h2 => by rw [hfvy57 _ (by omega)]; rw [egy52, va_up_ne _ _ (by omega)]; rw [egy48, va_up_ne _ _ (by omega)]; rw [hfvy44 _ (by omega) (by omega)]) iry1
        have hoky81 : okWorld cs ad gvy57 (890) := okWorld.mv (fun j j1 j2 => by rw [hfvy57 _ (by omega)]; rw [egy52, va_up_ne _ _ (by omega)]; rw [egy48, va_up_ne _ _ (by omega)]) hwvy44
        have hgy83 := (hfvy44 (11) (by decide) (by omega)).trans iry1.1
        have hgy84 := up_n egy48 hgy83 (by decide)
        have hgy85 := up_n egy52 hgy84 (by decide)
        have hgy86 := (hfvy57 (11) (by omega)).trans hgy85
        refine z_cV (As := [.ref (ad 890)]) (rest := []) (ci := 8) C (c_X6_beginWith l D A cs tt N ad _ 11 (by omega) _ _ hpy80 890 (by omega) hoky81 (by omega)) (lt_K hN (rfl : Nat.blt (11) 952 = true)) hay6 hgy86 rfl rfl mv_yX6_beginWith q_866 hd_yX6_beginWith (by decide) (Nat.le_of_ble_eq_true rfl) (by decide) dX9_snow_97 rfl (kV0 fun gvy82 hvy82 => ?_)
        obtain ⟨hkvy82, hfvy82⟩ := hvy82
        have hacqy87 := hkvy82.2.1
        obtain ⟨asy88, bsy88, csy88, dsy88, esy88, ⟨ptsy88, fsy88, gsy881⟩, hsy88, ⟨nusy88, nvsy88, nwsy88, isy88, jsy88, ksy88, lsy88, msy88, nsy88⟩, rfsy88, osy88⟩ := id hkvy82
        obtain ⟨uy89t, uy89z, uy89o, uy89r, uy89z4, uy89t5, uy891, ⟨uy89u, uy892, uy893⟩, uy894⟩ := id csy88
        have hay90 : zAt ad (11 + 1) (ad (11 + 1)) := rfl
        have hay91 : zAt ad (11 + 1 + 1) (ad (11 + 1 + 1)) := rfl
        refine z_aload_n C 1 dX9_snow_100 rfl ?_
        refine z_iconst (z := 0) C dX9_snow_101 rfl ?_
        have hgy92 := (hfvy82 (0) (by omega)).trans hgy79
        refine z_put (fs' := [.ref (ad 1), .int (zI (0)), .int (zI (plvy44)), .ref (ad 2), .ref (ad 4), .ref (ad 11), .ref (ad 447), .int (zI (0)), .ref (ad 883), .ref (ad 890), .ref (ad 900), .ref (ad 910), .ref (ad 917), .ref (ad 919)]) C (lt_K hN (rfl : Nat.blt (0) 952 = true)) hay2 hgy92 tyX9 tyX9_ok nmX9 rfl inA_X9 7 (by decide) q_356 rfl rfl (by decide) rfl (Nat.le_of_ble_eq_true rfl) rfl dX9_snow_102 (fun gy93 egy94 => ?_)
        have hgy95 := up_s egy94
        refine z_iconst (z := 0) C dX9_snow_105 rfl ?_
        have hgy96 := (hfvy44 (1) (by decide) (by omega)).trans dry1
        have hgy97 := up_n egy48 hgy96 (by decide)
        have hgy98 := up_n egy52 hgy97 (by decide)
        have hgy99 := (hfvy57 (1) (by omega)).trans hgy98
        have hgy100 := (hfvy82 (1) (by omega)).trans hgy99
        have hgy101 := up_n egy94 hgy100 (by decide)
        have hpy102 := okState.mv (ad' := ad) (g' := gy93) (fun j h1 h2 => by rfl) (fun j h1 h2 => by rw [egy94, va_up_ne _ _ (by omega)]) hkvy82
        have hpy103 := okRdr.mv (ad' := ad) (g' := gy93) (fun j h1 h2 => by rfl) (fun j h1 h2 => by rw [egy94, va_up_ne _ _ (by omega)]; rw [hfvy82 _ (by omega)]; rw [hfvy57 _ (by omega)]; rw [egy52, va_up_ne _ _ (by omega)]; rw [egy48, va_up_ne _ _ (by omega)]) hrdvy44
        have hpy104 := isPlan.mv (ad' := ad) (g' := gy93) (fun j h1 h2 => by rfl) (fun j h1 h2 => by rw [egy94, va_up_ne _ _ (by omega)]; rw [hfvy82 _ (by omega)]) hpvy57
        have hpy105 := okState.mv (ad' := ad) (g' := gy93) (fun j h1 h2 => by rfl) (fun j h1 h2 => by rw [egy94, va_up_ne _ _ (by omega)]; rw [hfvy82 _ (by omega)]; rw [hfvy57 _ (by omega)]; rw [egy52, va_up_ne _ _ (by omega)]; rw [egy48, va_up_ne _ _ (by omega)]; rw [hfvy44 _ (by omega) (by omega)]) jry1
        have hpy106 := okPlan.mv (ad' := ad) (g' := gy93) (fun j h1 h2 => by rfl) (fun j h1 h2 => by rw [egy94, va_up_ne _ _ (by omega)]; rw [hfvy82 _ (by omega)]; rw [hfvy57 _ (by omega)]) hpy55
        have hpy107 := okGss.mv (ad' := ad) (g' := gy93) (fun j h1 h2 => by rfl) (fun j h1 h2 => by rw [egy94, va_up_ne _ _ (by omega)]; rw [hfvy82 _ (by omega)]; rw [hfvy57 _ (by omega)]; rw [egy52, va_up_ne _ _ (by omega)]; rw [egy48, va_up_ne _ _ (by omega)]; rw [hfvy44 _ (by omega) (by omega)]) nry1
        have hpy108 := okLike.mv (ad' := ad) (g' := gy93) (fun j h1 h2 => by rfl) (fun j h1 h2 => by rw [egy94, va_up_ne _ _ (by omega)]; rw [hfvy82 _ (by omega)]; rw [hfvy57 _ (by omega)]; rw [egy52, va_up_ne _ _ (by omega)]; rw [egy48, va_up_ne _ _ (by omega)]; rw [hfvy44 _ (by omega) (by omega)]) ory1
        have hpy109 := okBld.mv (ad' := ad) (g' := gy93) (fun j h1 h2 => by rfl) (fun j h1 h2 => by rw [egy94, va_up_ne _ _ (by omega)]; rw [hfvy82 _ (by omega)]; rw [hfvy57 _ (by omega)]; rw [egy52, va_up_ne _ _ (by omega)]; rw [egy48, va_up_ne _ _ (by omega)]; rw [hfvy44 _ (by omega) (by omega)]) pry1
        have hoky110 : okWorld cs ad gy93 (890) := okWorld.mv (fun j j1 j2 => by rw [egy94, va_up_ne _ _ (by omega)]; rw [hfvy82 _ (by omega)]) hoky81
        have hoky111 : okWorld cs ad gy93 (900) := okWorld.mv (fun j j1 j2 => by rw [egy94, va_up_ne _ _ (by omega)]; rw [hfvy82 _ (by omega)]; rw [hfvy57 _ (by omega)]; rw [egy52, va_up_ne _ _ (by omega)]; rw [egy48, va_up_ne _ _ (by omega)]; rw [hfvy44 _ (by omega) (by omega)]) mry1
        have hrecy112 : okRec cs ad gy93 N (0) (plvy44) (0) (0) (kz) (sloy56) (hooy56) (uaoy56) (stoy56) (opoy56) (aioy56) (faoy56) (muoy56) (tboy56) (tp) := ⟨hgy95, by omega, by omega, hgy101, hpy103, hpy104, by omega, by omega, ⟨_, hpy102⟩, ⟨_, hpy105⟩, hpy106, hoky110, hoky111, hpy107, hpy108, hpy109⟩
        exact z_rX (z_iret C hr hlk dX9_snow_106 (by decide) (by decide) ⟨0, rfl, rfl, rfl, by omega, ⟨_, _, _, _, _, _, _, _, _, _, _, _, hrecy112⟩, fun j j1 j2 => by rw [egy94, va_up_ne _ _ (by omega)]; rw [hfvy82 _ (by omega)]; rw [hfvy57 _ (by omega)]; rw [egy52, va_up_ne _ _ (by omega)]; rw [egy48, va_up_ne _ _ (by omega)]; rw [hfvy44 _ (by omega) (by omega)]⟩)
      · refine z_aload_n C 1 dX9_snow_63 rfl ?_
        refine z_get (v := .ref (ad 11)) C (lt_K hN (rfl : Nat.blt (0) 952 = true)) hay2 hgy53 rfl inA_X9 5 (by decide) q_354 rfl rfl dX9_snow_64 ?_
        have hgy113 := (hfvy44 (11) (by decide) (by omega)).trans iry1.1
        have hgy114 := up_n egy48 hgy113 (by decide)
        have hgy115 := up_n egy52 hgy114 (by decide)
        refine z_get (v := .ref (ad (11 + 17))) C (lt_K hN (rfl : Nat.blt (11) 952 = true)) hay6 hgy115 rfl inA_X6 5 (by decide) q_267 rfl rfl dX9_snow_67 ?_
        refine z_iconst (z := 0) C dX9_snow_70 rfl ?_
        refine z_dup2 C dX9_snow_71 rfl rfl ?_
        have hgy116 := (hfvy44 (11 + 17) (by omega) (by omega)).trans osy22
        have hgy117 := up_n egy48 hgy116 (by omega)
        have hgy118 := up_n egy52 hgy117 (by omega)
        refine z_iald C (lt_K hN (rfl : Nat.blt (11 + 17) 952 = true)) hay30 hgy118 (0) (by omega) (by omega) (by decide) dX9_snow_72 ?_
        refine z_iconst (z := 1) C dX9_snow_73 rfl ?_
        refine z_iadd C dX9_snow_74 ?_
        refine z_iast C (lt_K hN (rfl : Nat.blt (11 + 17) 952 = true)) hay30 hgy118 (0) (by omega) (by omega) (by decide) dX9_snow_75 (fun gy119 egy120 => ?_)
        have hgy121 := up_s egy120
        refine z_iload_n C 0 dX9_snow_76 rfl ?_
        have hsty122 := okState.refused2 (g' := gy119) iry1 (fun j a1 a2 j1 => by rw [egy120, va_up_ne _ _ (by omega)]; rw [egy52, va_up_ne _ _ (by omega)]; rw [egy48, va_up_ne _ _ (by omega)]; rw [hfvy44 _ (by omega) (by omega)]) hgy121
        have hgy123 := up_n egy120 hgy53 (by omega)
        have hgy124 := (hfvy44 (1) (by decide) (by omega)).trans dry1
        have hgy125 := up_n egy48 hgy124 (by decide)
        have hgy126 := up_n egy52 hgy125 (by decide)
        have hgy127 := up_n egy120 hgy126 (by omega)
        have hpy128 := okRdr.mv (ad' := ad) (g' := gy119) (fun j h1 h2 => by rfl) (fun j h1 h2 => by rw [egy120, va_up_ne _ _ (by omega)]; rw [egy52, va_up_ne _ _ (by omega)]; rw [egy48, va_up_ne _ _ (by omega)]) hrdvy44
        have hpy129 := isPlan.mv (ad' := ad) (g' := gy119) (fun j h1 h2 => by rfl) (fun j h1 h2 => by rw [egy120, va_up_ne _ _ (by omega)]; rw [egy52, va_up_ne _ _ (by omega)]; rw [egy48, va_up_ne _ _ (by omega)]; rw [hfvy44 _ (by omega) (by omega)]) fry1
        have hpy130 := okState.mv (ad' := ad) (g' := gy119) (fun j h1 h2 => by rfl) (fun j h1 h2 => by rw [egy120, va_up_ne _ _ (by omega)]; rw [egy52, va_up_ne _ _ (by omega)]; rw [egy48, va_up_ne _ _ (by omega)]; rw [hfvy44 _ (by omega) (by omega)]) jry1
        have hpy131 := okPlan.mv (ad' := ad) (g' := gy119) (fun j h1 h2 => by rfl) (fun j h1 h2 => by rw [egy120, va_up_ne _ _ (by omega)]; rw [egy52, va_up_ne _ _ (by omega)]; rw [egy48, va_up_ne _ _ (by omega)]) hpvy44
        have hpy132 := okGss.mv (ad' := ad) (g' := gy119) (fun j h1 h2 => by rfl) (fun j h1 h2 => by rw [egy120, va_up_ne _ _ (by omega)]; rw [egy52, va_up_ne _ _ (by omega)]; rw [egy48, va_up_ne _ _ (by omega)]; rw [hfvy44 _ (by omega) (by omega)]) nry1
        have hpy133 := okLike.mv (ad' := ad) (g' := gy119) (fun j h1 h2 => by rfl) (fun j h1 h2 => by rw [egy120, va_up_ne _ _ (by omega)]; rw [egy52, va_up_ne _ _ (by omega)]; rw [egy48, va_up_ne _ _ (by omega)]; rw [hfvy44 _ (by omega) (by omega)]) ory1
        have hpy134 := okBld.mv (ad' := ad) (g' := gy119) (fun j h1 h2 => by rfl) (fun j h1 h2 => by rw [egy120, va_up_ne _ _ (by omega)]; rw [egy52, va_up_ne _ _ (by omega)]; rw [egy48, va_up_ne _ _ (by omega)]; rw [hfvy44 _ (by omega) (by omega)]) pry1
        have hoky135 : okWorld cs ad gy119 (890) := okWorld.mv (fun j j1 j2 => by rw [egy120, va_up_ne _ _ (by omega)]; rw [egy52, va_up_ne _ _ (by omega)]; rw [egy48, va_up_ne _ _ (by omega)]) hwvy44
        have hoky136 : okWorld cs ad gy119 (900) := okWorld.mv (fun j j1 j2 => by rw [egy120, va_up_ne _ _ (by omega)]; rw [egy52, va_up_ne _ _ (by omega)]; rw [egy48, va_up_ne _ _ (by omega)]; rw [hfvy44 _ (by omega) (by omega)]) mry1
        have hrecy137 : okRec cs ad gy119 N (0) (plvy44) (im) (nz) (kz) (sl) (ho) (ua) (st) (op) (ai) (fa) (mu) (tb) (tp) := ⟨hgy123, by omega, cry1, hgy127, hpy128, hpy129, gry11, hry1, ⟨_, hsty122⟩, ⟨_, hpy130⟩, hpy131, hoky135, hoky136, hpy132, hpy133, hpy134⟩
        exact z_rX (z_iret C hr hlk dX9_snow_77 (by decide) (by decide) ⟨vy44, rfl, rfl, rfl, by omega, ⟨_, _, _, _, _, _, _, _, _, _, _, _, hrecy137⟩, fun j j1 j2 => by rw [egy120, va_up_ne _ _ (by omega)]; rw [egy52, va_up_ne _ _ (by omega)]; rw [egy48, va_up_ne _ _ (by omega)]; rw [hfvy44 _ (by omega) (by omega)]⟩)
    · exact z_thr (cls := eIA) (text := "the tape has not so many bytes") C hl0 (by decide +kernel) q_658 q_19 (by decide +kernel) at_IA gd_IA dX9_snow_12 dX9_snow_15 dX9_snow_16 dX9_snow_18 dX9_snow_21 hxt (by decide) (Nat.le_of_ble_eq_true rfl) (by decide) (by decide) hlk (by decide) (by decide) ⟨⟨rfl, by omega⟩, rfl, rfl, rfl⟩

