def isRec (cs : Nat → ClassId) (ad : Nat → Nat) (g : Nat → va_E) (i : Nat) : Prop := g i = oC 11 [.ref (ad (i + 1)), .int (zI 0), .int (zI (-1)), .ref (ad (i + 2)), .ref (ad (i + 4)), .ref (ad (i + 11)), .ref (ad (i + 447)), .int (zI 0), .ref (ad (i + 883)), .ref (ad (i + 890)), .ref (ad (i + 900)), .ref (ad (i + 910)), .ref (ad (i + 917)), .ref (ad (i + 919))] ∧ g (i + 1) = bA cs 900 (fun _ => 0) ∧ isRdr cs ad g (i + 2) ∧ isPlan cs ad g (i + 4) 0 0 0 (fun _ => 0) (fun _ => 0) (fun _ => 0) (fun _ => 0) (fun _ => 0) tabZ ∧ isSt cs ad g (i + 11) ∧ isSt cs ad g (i + 447) ∧ isPlan cs ad g (i + 883) 0 0 0 (fun _ => 0) (fun _ => 0) (fun _ => 0) (fun _ => 0) (fun _ => 0) tabZ ∧ isWorld cs ad g (i + 890) (fun _ => 0) (fun _ => 0) (fun _ => 0) (fun _ _ => 0) ∧ isWorld cs ad g (i + 900) (fun _ => 0) (fun _ => 0) (fun _ => 0) (fun _ _ => 0) ∧ isGss cs ad g (i + 910) 0 (-1) (fun _ => 0) (fun _ _ => 0) ∧ isLike cs ad g (i + 917) (fun _ => 0) ∧ isBld cs ad g (i + 919)
theorem isRec.mv {cs : Nat → ClassId} {ad ad' : Nat → Nat} {g g' : Nat → va_E} {i : Nat} (hA : ∀ j, i ≤ j → j < i + 921 → ad' j = ad j) (hG : ∀ j, i ≤ j → j < i + 921 → g' j = g j) (h : isRec cs ad g i) : isRec cs ad' g' i := by
  obtain ⟨h1, h2, h3, h4, h5, h6, h7, h8, h9, h10, h11, h12⟩ := h
  exact ⟨by rw [hG _ (by omega) (by omega), hA _ (by omega) (by omega), hA _ (by omega) (by omega), hA _ (by omega) (by omega), hA _ (by omega) (by omega), hA _ (by omega) (by omega), hA _ (by omega) (by omega), hA _ (by omega) (by omega), hA _ (by omega) (by omega), hA _ (by omega) (by omega), hA _ (by omega) (by omega), hA _ (by omega) (by omega)]; exact h1, by rw [hG _ (by omega) (by omega)]; exact h2, h3.mv (fun j _ _ => hA j (by omega) (by omega)) (fun j _ _ => hG j (by omega) (by omega)), h4.mv (fun j _ _ => hA j (by omega) (by omega)) (fun j _ _ => hG j (by omega) (by omega)), h5.mv (fun j _ _ => hA j (by omega) (by omega)) (fun j _ _ => hG j (by omega) (by omega)), h6.mv (fun j _ _ => hA j (by omega) (by omega)) (fun j _ _ => hG j (by omega) (by omega)), h7.mv (fun j _ _ => hA j (by omega) (by omega)) (fun j _ _ => hG j (by omega) (by omega)), h8.mv (fun j _ _ => hA j (by omega) (by omega)) (fun j _ _ => hG j (by omega) (by omega)), h9.mv (fun j _ _ => hA j (by omega) (by omega)) (fun j _ _ => hG j (by omega) (by omega)), h10.mv (fun j _ _ => hA j (by omega) (by omega)) (fun j _ _ => hG j (by omega) (by omega)), h11.mv (fun j _ _ => hA j (by omega) (by omega)) (fun j _ _ => hG j (by omega) (by omega)), h12.mv (fun j _ _ => hA j (by omega) (by omega)) (fun j _ _ => hG j (by omega) (by omega))⟩

set_option maxRecDepth 100000 in
set_option maxHeartbeats 4000000 in
theorem c_X9_init (l : Launch) (D : va_G) (A : Nat → Prop) (cs : Nat → ClassId) (tt : Nat) (ad : Nat → Nat) (g : Nat → va_E) (i a : Nat) (ha : ad i = a) (hg : g i = oC 11 [.null, .int (zI (0)), .int (zI (0)), .null, .null, .null, .null, .int (zI (0)), .null, .null, .null, .null, .null, .null]) : zM l yX9_init cX9_init 1 none ({ frames := 4, cells := 920, slots := 37365, locals := 240 } : Room) D A cs tt (i + 1) ad g [.ref a] (rV fun N' ad' g' => N' = i + 921 ∧ (∀ j, j < i + 1 → ad' j = ad j) ∧ (∀ j, j < i + 1 → j ≠ i → g' j = g j) ∧ isRec cs ad' g' i) := by
  refine z_of (by decide) (Nat.le_of_ble_eq_true rfl) ?_
  intro p e s m below meth c C hr hlk hnm
  refine z_lv (lv' := [(0, .ref a)]) [0] rfl ?_
  refine z_aload_n C 0 dX9_init_0 rfl ?_
  refine z_objInit C q_34 q_35 q_36 dX9_init_1 (Nat.le_of_ble_eq_true rfl) (Nat.le_of_ble_eq_true rfl) ?_
  refine z_aload_n C 0 dX9_init_4 rfl ?_
  refine z_sipush (z := 900) C dX9_init_5 (by decide) ?_
  refine z_newB C 900 rfl q_72 (by decide) (by decide) (by decide) dX9_init_8 (fun q1 ad2 g3 ea4 eg5 => ?_)
  have ha6 : zAt ad2 (i + 1) q1 := up_s ea4
  have hg7 := up_s eg5
  have ha8 : zAt ad2 (i) (a) := up_n ea4 ha (ne_o (i := i) (c := 0) (d := 1) rfl)
  have hg9 := up_n eg5 hg (ne_o (i := i) (c := 0) (d := 1) rfl)
  refine z_putF (fs' := [.ref q1, .int (zI (0)), .int (zI (0)), .null, .null, .null, .null, .int (zI (0)), .null, .null, .null, .null, .null, .null]) C (lt_o (i := i) (c := 0) (d := 2) rfl) ha8 hg9 tyX9 tyX9_ok nmX9 rfl inA_X9 0 (by decide) q_349 rfl rfl hnm rfl rfl rfl (Nat.le_of_ble_eq_true rfl) rfl dX9_init_10 (fun g10 eg11 => ?_)
  have hg12 := up_s eg11
  refine z_aload_n C 0 dX9_init_13 rfl ?_
  refine z_iconst (z := 0) C dX9_init_14 rfl ?_
  refine z_put (fs' := [.ref q1, .int (zI (0)), .int (zI (0)), .null, .null, .null, .null, .int (zI (0)), .null, .null, .null, .null, .null, .null]) C (lt_o (i := i) (c := 0) (d := 2) rfl) ha8 hg12 tyX9 tyX9_ok nmX9 rfl inA_X9 1 (by decide) q_350 rfl rfl rfl rfl (Nat.le_of_ble_eq_true rfl) rfl dX9_init_15 (fun g13 eg14 => ?_)
  have hg15 := up_s eg14
  refine z_aload_n C 0 dX9_init_18 rfl ?_
  refine z_iconst (z := -1) C dX9_init_19 rfl ?_
  refine z_put (fs' := [.ref q1, .int (zI (0)), .int (zI (-1)), .null, .null, .null, .null, .int (zI (0)), .null, .null, .null, .null, .null, .null]) C (lt_o (i := i) (c := 0) (d := 2) rfl) ha8 hg15 tyX9 tyX9_ok nmX9 rfl inA_X9 2 (by decide) q_351 rfl rfl rfl rfl (Nat.le_of_ble_eq_true rfl) rfl dX9_init_20 (fun g16 eg17 => ?_)
  have hg18 := up_s eg17
  refine z_aload_n C 0 dX9_init_23 rfl ?_
  refine z_new (fs := [.int (zI (0)), .int (zI (0)), .null, .int (zI (0)), .int (zI (0)), .int (zI (0)), .int (zI (0)), .int (zI (0)), .int (zI (0))]) (ci := 9) C tyX7 tyX7_ok rfl inA_X7 q_37 q_38 q_2 (fun j hj => by rcases (show j = 0 ∨ j = 1 ∨ j = 2 ∨ j = 3 ∨ j = 4 ∨ j = 5 ∨ j = 6 ∨ j = 7 ∨ j = 8 by omega) with rfl | rfl | rfl | rfl | rfl | rfl | rfl | rfl | rfl <;> rfl) (by decide) (by decide) dX9_init_24 (fun q19 ad20 g21 ea22 eg23 => ?_)
  have ha24 : zAt ad20 (i + 1 + 1) q19 := up_s ea22
  have hg25 := up_s eg23
  refine z_dup C dX9_init_27 rfl ?_
  refine z_cIN (As := []) (rest := [.ref q19, .ref a]) C (c_X7_init l D A cs tt _ _ (i + 1 + 1) q19 ha24 hg25) mi_yX7_init n_39 rfl (by decide +kernel) (by decide) (Nat.le_of_ble_eq_true rfl) (by decide) dX9_init_28 rfl (kV fun M29 ad30 g31 hq32 => ?_)
  obtain ⟨rfl, hA26, hG27, hp28⟩ := hq32
  have e0o : i + 1 + 1 = i + 2 := by omega
  have ha33 : zAt ad20 (i) (a) := up_n ea22 ha8 (ne_o (i := i) (c := 0) (d := 2) rfl)
  have ha34 : zAt ad30 (i) (a) := (hA26 (i) (lt_o (i := i) (c := 0) (d := 3) rfl)).trans ha33
  have hg35 := up_n eg23 hg18 (ne_o (i := i) (c := 0) (d := 2) rfl)
  have hg36 := (hG27 (i) (lt_o (i := i) (c := 0) (d := 3) rfl) (ne_o (i := i) (c := 0) (d := 2) rfl)).trans hg35
  refine z_putF (fs' := [.ref q1, .int (zI (0)), .int (zI (-1)), .ref q19, .null, .null, .null, .int (zI (0)), .null, .null, .null, .null, .null, .null]) C (lt_o (i := i) (c := 0) (d := 4) rfl) ha34 hg36 tyX9 tyX9_ok nmX9 rfl inA_X9 3 (by decide) q_352 rfl rfl hnm rfl rfl rfl (Nat.le_of_ble_eq_true rfl) rfl dX9_init_31 (fun g37 eg38 => ?_)
  have hg39 := up_s eg38
  refine z_aload_n C 0 dX9_init_34 rfl ?_
  refine z_new (fs := [.int (zI (0)), .int (zI (0)), .int (zI (0)), .null, .null, .null, .null, .null, .null]) (ci := 7) C tyX5 tyX5_ok rfl inA_X5 q_73 q_74 q_3 (fun j hj => by rcases (show j = 0 ∨ j = 1 ∨ j = 2 ∨ j = 3 ∨ j = 4 ∨ j = 5 ∨ j = 6 ∨ j = 7 ∨ j = 8 by omega) with rfl | rfl | rfl | rfl | rfl | rfl | rfl | rfl | rfl <;> rfl) (by decide) (by decide) dX9_init_35 (fun q40 ad41 g42 ea43 eg44 => ?_)
  have ha45 : zAt ad41 (i + 1 + 1 + 2) q40 := up_s ea43
  have hg46 := up_s eg44
  refine z_dup C dX9_init_38 rfl ?_
  refine z_cIN (As := []) (rest := [.ref q40, .ref a]) C (c_X5_init l D A cs tt _ _ (i + 1 + 1 + 2) q40 ha45 hg46) mi_yX5_init n_75 rfl (by decide +kernel) (by decide) (Nat.le_of_ble_eq_true rfl) (by decide) dX9_init_39 rfl (kV fun M50 ad51 g52 hq53 => ?_)
  obtain ⟨rfl, hA47, hG48, hp49⟩ := hq53
  have e1o : i + 1 + 1 + 2 = i + 4 := by omega
  have ha54 : zAt ad41 (i) (a) := up_n ea43 ha34 (ne_o (i := i) (c := 0) (d := 4) rfl)
  have ha55 : zAt ad51 (i) (a) := (hA47 (i) (lt_o (i := i) (c := 0) (d := 5) rfl)).trans ha54
  have hg56 := up_n eg44 hg39 (ne_o (i := i) (c := 0) (d := 4) rfl)
  have hg57 := (hG48 (i) (lt_o (i := i) (c := 0) (d := 5) rfl) (ne_o (i := i) (c := 0) (d := 4) rfl)).trans hg56
  refine z_putF (fs' := [.ref q1, .int (zI (0)), .int (zI (-1)), .ref q19, .ref q40, .null, .null, .int (zI (0)), .null, .null, .null, .null, .null, .null]) C (lt_o (i := i) (c := 0) (d := 11) rfl) ha55 hg57 tyX9 tyX9_ok nmX9 rfl inA_X9 4 (by decide) q_353 rfl rfl hnm rfl rfl rfl (Nat.le_of_ble_eq_true rfl) rfl dX9_init_42 (fun g58 eg59 => ?_)
  have hg60 := up_s eg59
  refine z_aload_n C 0 dX9_init_45 rfl ?_
  refine z_new (fs := [.null, .null, .int (zI (0)), .null, .null, .null]) (ci := 8) C tyX6 tyX6_ok rfl inA_X6 q_135 q_136 q_4 (fun j hj => by rcases (show j = 0 ∨ j = 1 ∨ j = 2 ∨ j = 3 ∨ j = 4 ∨ j = 5 by omega) with rfl | rfl | rfl | rfl | rfl | rfl <;> rfl) (by decide) (by decide) dX9_init_46 (fun q61 ad62 g63 ea64 eg65 => ?_)
  have ha66 : zAt ad62 (i + 1 + 1 + 2 + 7) q61 := up_s ea64
  have hg67 := up_s eg65
  refine z_dup C dX9_init_49 rfl ?_
  refine z_cI (As := []) (rest := [.ref q61, .ref a]) C (c_X6_init l D A cs tt _ _ (i + 1 + 1 + 2 + 7) q61 ha66 hg67) mi_yX6_init q_137 rfl (by decide +kernel) (by decide) (Nat.le_of_ble_eq_true rfl) (by decide) dX9_init_50 rfl (kV fun M71 ad72 g73 hq74 => ?_)
  obtain ⟨rfl, hA68, hG69, hp70⟩ := hq74
  have e2o : i + 1 + 1 + 2 + 7 = i + 11 := by omega
  have ha75 : zAt ad62 (i) (a) := up_n ea64 ha55 (ne_o (i := i) (c := 0) (d := 11) rfl)
  have ha76 : zAt ad72 (i) (a) := (hA68 (i) (lt_o (i := i) (c := 0) (d := 12) rfl)).trans ha75
  have hg77 := up_n eg65 hg60 (ne_o (i := i) (c := 0) (d := 11) rfl)
  have hg78 := (hG69 (i) (lt_o (i := i) (c := 0) (d := 12) rfl) (ne_o (i := i) (c := 0) (d := 11) rfl)).trans hg77
  refine z_putF (fs' := [.ref q1, .int (zI (0)), .int (zI (-1)), .ref q19, .ref q40, .ref q61, .null, .int (zI (0)), .null, .null, .null, .null, .null, .null]) C (lt_o (i := i) (c := 0) (d := 447) rfl) ha76 hg78 tyX9 tyX9_ok nmX9 rfl inA_X9 5 (by decide) q_354 rfl rfl hnm rfl rfl rfl (Nat.le_of_ble_eq_true rfl) rfl dX9_init_53 (fun g79 eg80 => ?_)
  have hg81 := up_s eg80
  refine z_aload_n C 0 dX9_init_56 rfl ?_
  refine z_new (fs := [.null, .null, .int (zI (0)), .null, .null, .null]) (ci := 8) C tyX6 tyX6_ok rfl inA_X6 q_135 q_136 q_4 (fun j hj => by rcases (show j = 0 ∨ j = 1 ∨ j = 2 ∨ j = 3 ∨ j = 4 ∨ j = 5 by omega) with rfl | rfl | rfl | rfl | rfl | rfl <;> rfl) (by decide) (by decide) dX9_init_57 (fun q82 ad83 g84 ea85 eg86 => ?_)
  have ha87 : zAt ad83 (i + 1 + 1 + 2 + 7 + 436) q82 := up_s ea85
  have hg88 := up_s eg86
  refine z_dup C dX9_init_60 rfl ?_
  refine z_cI (As := []) (rest := [.ref q82, .ref a]) C (c_X6_init l D A cs tt _ _ (i + 1 + 1 + 2 + 7 + 436) q82 ha87 hg88) mi_yX6_init q_137 rfl (by decide +kernel) (by decide) (Nat.le_of_ble_eq_true rfl) (by decide) dX9_init_61 rfl (kV fun M92 ad93 g94 hq95 => ?_)
  obtain ⟨rfl, hA89, hG90, hp91⟩ := hq95
  have e3o : i + 1 + 1 + 2 + 7 + 436 = i + 447 := by omega
  have ha96 : zAt ad83 (i) (a) := up_n ea85 ha76 (ne_o (i := i) (c := 0) (d := 447) rfl)
  have ha97 : zAt ad93 (i) (a) := (hA89 (i) (lt_o (i := i) (c := 0) (d := 448) rfl)).trans ha96
  have hg98 := up_n eg86 hg81 (ne_o (i := i) (c := 0) (d := 447) rfl)
  have hg99 := (hG90 (i) (lt_o (i := i) (c := 0) (d := 448) rfl) (ne_o (i := i) (c := 0) (d := 447) rfl)).trans hg98
  refine z_putF (fs' := [.ref q1, .int (zI (0)), .int (zI (-1)), .ref q19, .ref q40, .ref q61, .ref q82, .int (zI (0)), .null, .null, .null, .null, .null, .null]) C (lt_o (i := i) (c := 0) (d := 883) rfl) ha97 hg99 tyX9 tyX9_ok nmX9 rfl inA_X9 6 (by decide) q_355 rfl rfl hnm rfl rfl rfl (Nat.le_of_ble_eq_true rfl) rfl dX9_init_64 (fun g100 eg101 => ?_)
  have hg102 := up_s eg101
  refine z_aload_n C 0 dX9_init_67 rfl ?_
  refine z_iconst (z := 0) C dX9_init_68 rfl ?_
  refine z_put (fs' := [.ref q1, .int (zI (0)), .int (zI (-1)), .ref q19, .ref q40, .ref q61, .ref q82, .int (zI (0)), .null, .null, .null, .null, .null, .null]) C (lt_o (i := i) (c := 0) (d := 883) rfl) ha97 hg102 tyX9 tyX9_ok nmX9 rfl inA_X9 7 (by decide) q_356 rfl rfl (by decide) rfl (Nat.le_of_ble_eq_true rfl) rfl dX9_init_69 (fun g103 eg104 => ?_)
  have hg105 := up_s eg104
  refine z_aload_n C 0 dX9_init_72 rfl ?_
  refine z_new (fs := [.int (zI (0)), .int (zI (0)), .int (zI (0)), .null, .null, .null, .null, .null, .null]) (ci := 7) C tyX5 tyX5_ok rfl inA_X5 q_73 q_74 q_3 (fun j hj => by rcases (show j = 0 ∨ j = 1 ∨ j = 2 ∨ j = 3 ∨ j = 4 ∨ j = 5 ∨ j = 6 ∨ j = 7 ∨ j = 8 by omega) with rfl | rfl | rfl | rfl | rfl | rfl | rfl | rfl | rfl <;> rfl) (by decide) (by decide) dX9_init_73 (fun q106 ad107 g108 ea109 eg110 => ?_)
  have ha111 : zAt ad107 (i + 1 + 1 + 2 + 7 + 436 + 436) q106 := up_s ea109
  have hg112 := up_s eg110
  refine z_dup C dX9_init_76 rfl ?_
  refine z_cIN (As := []) (rest := [.ref q106, .ref a]) C (c_X5_init l D A cs tt _ _ (i + 1 + 1 + 2 + 7 + 436 + 436) q106 ha111 hg112) mi_yX5_init n_75 rfl (by decide +kernel) (by decide) (Nat.le_of_ble_eq_true rfl) (by decide) dX9_init_77 rfl (kV fun M116 ad117 g118 hq119 => ?_)
  obtain ⟨rfl, hA113, hG114, hp115⟩ := hq119
  have e4o : i + 1 + 1 + 2 + 7 + 436 + 436 = i + 883 := by omega
  have ha120 : zAt ad107 (i) (a) := up_n ea109 ha97 (ne_o (i := i) (c := 0) (d := 883) rfl)
  have ha121 : zAt ad117 (i) (a) := (hA113 (i) (lt_o (i := i) (c := 0) (d := 884) rfl)).trans ha120
  have hg122 := up_n eg110 hg105 (ne_o (i := i) (c := 0) (d := 883) rfl)
  have hg123 := (hG114 (i) (lt_o (i := i) (c := 0) (d := 884) rfl) (ne_o (i := i) (c := 0) (d := 883) rfl)).trans hg122
  refine z_putF (fs' := [.ref q1, .int (zI (0)), .int (zI (-1)), .ref q19, .ref q40, .ref q61, .ref q82, .int (zI (0)), .ref q106, .null, .null, .null, .null, .null]) C (lt_o (i := i) (c := 0) (d := 890) rfl) ha121 hg123 tyX9 tyX9_ok nmX9 rfl inA_X9 8 (by decide) q_357 rfl rfl hnm rfl rfl rfl (Nat.le_of_ble_eq_true rfl) rfl dX9_init_80 (fun g124 eg125 => ?_)
  have hg126 := up_s eg125
  refine z_aload_n C 0 dX9_init_83 rfl ?_
  refine z_new (fs := [.int (zI (0)), .int (zI (0)), .int (zI (0)), .int (zI (0)), .int (zI (0)), .int (zI (0)), .null]) (ci := 10) C tyX8 tyX8_ok rfl inA_X8 q_281 q_142 q_5 (fun j hj => by rcases (show j = 0 ∨ j = 1 ∨ j = 2 ∨ j = 3 ∨ j = 4 ∨ j = 5 ∨ j = 6 by omega) with rfl | rfl | rfl | rfl | rfl | rfl | rfl <;> rfl) (by decide) (by decide) dX9_init_84 (fun q127 ad128 g129 ea130 eg131 => ?_)
  have ha132 : zAt ad128 (i + 1 + 1 + 2 + 7 + 436 + 436 + 7) q127 := up_s ea130
  have hg133 := up_s eg131
  refine z_dup C dX9_init_87 rfl ?_
  refine z_cI (As := []) (rest := [.ref q127, .ref a]) C (c_X8_init l D A cs tt _ _ (i + 1 + 1 + 2 + 7 + 436 + 436 + 7) q127 ha132 hg133) mi_yX8_init q_282 rfl (by decide +kernel) (by decide) (Nat.le_of_ble_eq_true rfl) (by decide) dX9_init_88 rfl (kV fun M137 ad138 g139 hq140 => ?_)
  obtain ⟨rfl, hA134, hG135, hp136⟩ := hq140
  have e5o : i + 1 + 1 + 2 + 7 + 436 + 436 + 7 = i + 890 := by omega
  have ha141 : zAt ad128 (i) (a) := up_n ea130 ha121 (ne_o (i := i) (c := 0) (d := 890) rfl)
  have ha142 : zAt ad138 (i) (a) := (hA134 (i) (lt_o (i := i) (c := 0) (d := 891) rfl)).trans ha141
  have hg143 := up_n eg131 hg126 (ne_o (i := i) (c := 0) (d := 890) rfl)
  have hg144 := (hG135 (i) (lt_o (i := i) (c := 0) (d := 891) rfl) (ne_o (i := i) (c := 0) (d := 890) rfl)).trans hg143
  refine z_putF (fs' := [.ref q1, .int (zI (0)), .int (zI (-1)), .ref q19, .ref q40, .ref q61, .ref q82, .int (zI (0)), .ref q106, .ref q127, .null, .null, .null, .null]) C (lt_o (i := i) (c := 0) (d := 900) rfl) ha142 hg144 tyX9 tyX9_ok nmX9 rfl inA_X9 9 (by decide) q_358 rfl rfl hnm rfl rfl rfl (Nat.le_of_ble_eq_true rfl) rfl dX9_init_91 (fun g145 eg146 => ?_)
  have hg147 := up_s eg146
  refine z_aload_n C 0 dX9_init_94 rfl ?_
  refine z_new (fs := [.int (zI (0)), .int (zI (0)), .int (zI (0)), .int (zI (0)), .int (zI (0)), .int (zI (0)), .null]) (ci := 10) C tyX8 tyX8_ok rfl inA_X8 q_281 q_142 q_5 (fun j hj => by rcases (show j = 0 ∨ j = 1 ∨ j = 2 ∨ j = 3 ∨ j = 4 ∨ j = 5 ∨ j = 6 by omega) with rfl | rfl | rfl | rfl | rfl | rfl | rfl <;> rfl) (by decide) (by decide) dX9_init_95 (fun q148 ad149 g150 ea151 eg152 => ?_)
  have ha153 : zAt ad149 (i + 1 + 1 + 2 + 7 + 436 + 436 + 7 + 10) q148 := up_s ea151
  have hg154 := up_s eg152
  refine z_dup C dX9_init_98 rfl ?_
  refine z_cI (As := []) (rest := [.ref q148, .ref a]) C (c_X8_init l D A cs tt _ _ (i + 1 + 1 + 2 + 7 + 436 + 436 + 7 + 10) q148 ha153 hg154) mi_yX8_init q_282 rfl (by decide +kernel) (by decide) (Nat.le_of_ble_eq_true rfl) (by decide) dX9_init_99 rfl (kV fun M158 ad159 g160 hq161 => ?_)
  obtain ⟨rfl, hA155, hG156, hp157⟩ := hq161
  have e6o : i + 1 + 1 + 2 + 7 + 436 + 436 + 7 + 10 = i + 900 := by omega
  have ha162 : zAt ad149 (i) (a) := up_n ea151 ha142 (ne_o (i := i) (c := 0) (d := 900) rfl)
  have ha163 : zAt ad159 (i) (a) := (hA155 (i) (lt_o (i := i) (c := 0) (d := 901) rfl)).trans ha162
  have hg164 := up_n eg152 hg147 (ne_o (i := i) (c := 0) (d := 900) rfl)
  have hg165 := (hG156 (i) (lt_o (i := i) (c := 0) (d := 901) rfl) (ne_o (i := i) (c := 0) (d := 900) rfl)).trans hg164
  refine z_putF (fs' := [.ref q1, .int (zI (0)), .int (zI (-1)), .ref q19, .ref q40, .ref q61, .ref q82, .int (zI (0)), .ref q106, .ref q127, .ref q148, .null, .null, .null]) C (lt_o (i := i) (c := 0) (d := 910) rfl) ha163 hg165 tyX9 tyX9_ok nmX9 rfl inA_X9 10 (by decide) q_359 rfl rfl hnm rfl rfl rfl (Nat.le_of_ble_eq_true rfl) rfl dX9_init_102 (fun g166 eg167 => ?_)
  have hg168 := up_s eg167
  refine z_aload_n C 0 dX9_init_105 rfl ?_
  refine z_new (fs := [.int (zI (0)), .int (zI (0)), .null, .null]) (ci := 2) C tyX0 tyX0_ok rfl inA_X0 q_283 q_284 q_9 (fun j hj => by rcases (show j = 0 ∨ j = 1 ∨ j = 2 ∨ j = 3 by omega) with rfl | rfl | rfl | rfl <;> rfl) (by decide) (by decide) dX9_init_106 (fun q169 ad170 g171 ea172 eg173 => ?_)
  have ha174 : zAt ad170 (i + 1 + 1 + 2 + 7 + 436 + 436 + 7 + 10 + 10) q169 := up_s ea172
  have hg175 := up_s eg173
  refine z_dup C dX9_init_109 rfl ?_
  refine z_cIN (As := []) (rest := [.ref q169, .ref a]) C (c_X0_init l D A cs tt _ _ (i + 1 + 1 + 2 + 7 + 436 + 436 + 7 + 10 + 10) q169 ha174 hg175) mi_yX0_init n_285 rfl (by decide +kernel) (by decide) (Nat.le_of_ble_eq_true rfl) (by decide) dX9_init_110 rfl (kV fun M179 ad180 g181 hq182 => ?_)
  obtain ⟨rfl, hA176, hG177, hp178⟩ := hq182
  have e7o : i + 1 + 1 + 2 + 7 + 436 + 436 + 7 + 10 + 10 = i + 910 := by omega
  have ha183 : zAt ad170 (i) (a) := up_n ea172 ha163 (ne_o (i := i) (c := 0) (d := 910) rfl)
  have ha184 : zAt ad180 (i) (a) := (hA176 (i) (lt_o (i := i) (c := 0) (d := 911) rfl)).trans ha183
  have hg185 := up_n eg173 hg168 (ne_o (i := i) (c := 0) (d := 910) rfl)
  have hg186 := (hG177 (i) (lt_o (i := i) (c := 0) (d := 911) rfl) (ne_o (i := i) (c := 0) (d := 910) rfl)).trans hg185
  refine z_putF (fs' := [.ref q1, .int (zI (0)), .int (zI (-1)), .ref q19, .ref q40, .ref q61, .ref q82, .int (zI (0)), .ref q106, .ref q127, .ref q148, .ref q169, .null, .null]) C (lt_o (i := i) (c := 0) (d := 917) rfl) ha184 hg186 tyX9 tyX9_ok nmX9 rfl inA_X9 11 (by decide) q_360 rfl rfl hnm rfl rfl rfl (Nat.le_of_ble_eq_true rfl) rfl dX9_init_113 (fun g187 eg188 => ?_)
  have hg189 := up_s eg188
  refine z_aload_n C 0 dX9_init_116 rfl ?_
  refine z_new (fs := [.null]) (ci := 3) C tyX1 tyX1_ok rfl inA_X1 q_307 q_308 q_10 (fun j hj => by rcases (show j = 0 by omega) with rfl <;> rfl) (by decide) (by decide) dX9_init_117 (fun q190 ad191 g192 ea193 eg194 => ?_)
  have ha195 : zAt ad191 (i + 1 + 1 + 2 + 7 + 436 + 436 + 7 + 10 + 10 + 7) q190 := up_s ea193
  have hg196 := up_s eg194
  refine z_dup C dX9_init_120 rfl ?_
  refine z_cIN (As := []) (rest := [.ref q190, .ref a]) C (c_X1_init l D A cs tt _ _ (i + 1 + 1 + 2 + 7 + 436 + 436 + 7 + 10 + 10 + 7) q190 ha195 hg196) mi_yX1_init n_309 rfl (by decide +kernel) (by decide) (Nat.le_of_ble_eq_true rfl) (by decide) dX9_init_121 rfl (kV fun M200 ad201 g202 hq203 => ?_)
  obtain ⟨rfl, hA197, hG198, hp199⟩ := hq203
  have e8o : i + 1 + 1 + 2 + 7 + 436 + 436 + 7 + 10 + 10 + 7 = i + 917 := by omega
  have ha204 : zAt ad191 (i) (a) := up_n ea193 ha184 (ne_o (i := i) (c := 0) (d := 917) rfl)
  have ha205 : zAt ad201 (i) (a) := (hA197 (i) (lt_o (i := i) (c := 0) (d := 918) rfl)).trans ha204
  have hg206 := up_n eg194 hg189 (ne_o (i := i) (c := 0) (d := 917) rfl)
  have hg207 := (hG198 (i) (lt_o (i := i) (c := 0) (d := 918) rfl) (ne_o (i := i) (c := 0) (d := 917) rfl)).trans hg206
  refine z_putF (fs' := [.ref q1, .int (zI (0)), .int (zI (-1)), .ref q19, .ref q40, .ref q61, .ref q82, .int (zI (0)), .ref q106, .ref q127, .ref q148, .ref q169, .ref q190, .null]) C (lt_o (i := i) (c := 0) (d := 919) rfl) ha205 hg207 tyX9 tyX9_ok nmX9 rfl inA_X9 12 (by decide) q_361 rfl rfl hnm rfl rfl rfl (Nat.le_of_ble_eq_true rfl) rfl dX9_init_124 (fun g208 eg209 => ?_)
  have hg210 := up_s eg209
  refine z_aload_n C 0 dX9_init_127 rfl ?_
  refine z_new (fs := [.null, .int (zI (0)), .int (zI (0)), .int (zI (0))]) (ci := 1) C tyJ4 tyJ4_ok rfl inA_J4 q_317 q_318 q_12 (fun j hj => by rcases (show j = 0 ∨ j = 1 ∨ j = 2 ∨ j = 3 by omega) with rfl | rfl | rfl | rfl <;> rfl) (by decide) (by decide) dX9_init_128 (fun q211 ad212 g213 ea214 eg215 => ?_)
  have ha216 : zAt ad212 (i + 1 + 1 + 2 + 7 + 436 + 436 + 7 + 10 + 10 + 7 + 2) q211 := up_s ea214
  have hg217 := up_s eg215
  refine z_dup C dX9_init_131 rfl ?_
  refine z_cI (As := []) (rest := [.ref q211, .ref a]) C (c_J4_init_da8c8 l D A cs tt _ _ (i + 1 + 1 + 2 + 7 + 436 + 436 + 7 + 10 + 10 + 7 + 2) q211 ha216 hg217) mi_yJ4_init_da8c8 q_319 rfl (by decide +kernel) (by decide) (Nat.le_of_ble_eq_true rfl) (by decide) dX9_init_132 rfl (kV fun M221 ad222 g223 hq224 => ?_)
  obtain ⟨rfl, hA218, hG219, hp220⟩ := hq224
  have e9o : i + 1 + 1 + 2 + 7 + 436 + 436 + 7 + 10 + 10 + 7 + 2 = i + 919 := by omega
  have ha225 : zAt ad212 (i) (a) := up_n ea214 ha205 (ne_o (i := i) (c := 0) (d := 919) rfl)
  have ha226 : zAt ad222 (i) (a) := (hA218 (i) (lt_o (i := i) (c := 0) (d := 920) rfl)).trans ha225
  have hg227 := up_n eg215 hg210 (ne_o (i := i) (c := 0) (d := 919) rfl)
  have hg228 := (hG219 (i) (lt_o (i := i) (c := 0) (d := 920) rfl) (ne_o (i := i) (c := 0) (d := 919) rfl)).trans hg227
  refine z_putF (fs' := [.ref q1, .int (zI (0)), .int (zI (-1)), .ref q19, .ref q40, .ref q61, .ref q82, .int (zI (0)), .ref q106, .ref q127, .ref q148, .ref q169, .ref q190, .ref q211]) C (lt_o (i := i) (c := 0) (d := 921) rfl) ha226 hg228 tyX9 tyX9_ok nmX9 rfl inA_X9 13 (by decide) q_362 rfl rfl hnm rfl rfl rfl (Nat.le_of_ble_eq_true rfl) rfl dX9_init_135 (fun g229 eg230 => ?_)
  have hg231 := up_s eg230
  have ha232 : zAt ad20 (i + 1) (q1) := up_n ea22 ha6 (ne_o (i := i) (c := 1) (d := 2) rfl)
  have ha233 : zAt ad30 (i + 1) (q1) := (hA26 (i + 1) (lt_o (i := i) (c := 1) (d := 3) rfl)).trans ha232
  have ha234 : zAt ad41 (i + 1) (q1) := up_n ea43 ha233 (ne_o (i := i) (c := 1) (d := 4) rfl)
  have ha235 : zAt ad51 (i + 1) (q1) := (hA47 (i + 1) (lt_o (i := i) (c := 1) (d := 5) rfl)).trans ha234
  have ha236 : zAt ad62 (i + 1) (q1) := up_n ea64 ha235 (ne_o (i := i) (c := 1) (d := 11) rfl)
  have ha237 : zAt ad72 (i + 1) (q1) := (hA68 (i + 1) (lt_o (i := i) (c := 1) (d := 12) rfl)).trans ha236
  have ha238 : zAt ad83 (i + 1) (q1) := up_n ea85 ha237 (ne_o (i := i) (c := 1) (d := 447) rfl)
  have ha239 : zAt ad93 (i + 1) (q1) := (hA89 (i + 1) (lt_o (i := i) (c := 1) (d := 448) rfl)).trans ha238
  have ha240 : zAt ad107 (i + 1) (q1) := up_n ea109 ha239 (ne_o (i := i) (c := 1) (d := 883) rfl)
  have ha241 : zAt ad117 (i + 1) (q1) := (hA113 (i + 1) (lt_o (i := i) (c := 1) (d := 884) rfl)).trans ha240
  have ha242 : zAt ad128 (i + 1) (q1) := up_n ea130 ha241 (ne_o (i := i) (c := 1) (d := 890) rfl)
  have ha243 : zAt ad138 (i + 1) (q1) := (hA134 (i + 1) (lt_o (i := i) (c := 1) (d := 891) rfl)).trans ha242
  have ha244 : zAt ad149 (i + 1) (q1) := up_n ea151 ha243 (ne_o (i := i) (c := 1) (d := 900) rfl)
  have ha245 : zAt ad159 (i + 1) (q1) := (hA155 (i + 1) (lt_o (i := i) (c := 1) (d := 901) rfl)).trans ha244
  have ha246 : zAt ad170 (i + 1) (q1) := up_n ea172 ha245 (ne_o (i := i) (c := 1) (d := 910) rfl)
  have ha247 : zAt ad180 (i + 1) (q1) := (hA176 (i + 1) (lt_o (i := i) (c := 1) (d := 911) rfl)).trans ha246
  have ha248 : zAt ad191 (i + 1) (q1) := up_n ea193 ha247 (ne_o (i := i) (c := 1) (d := 917) rfl)
  have ha249 : zAt ad201 (i + 1) (q1) := (hA197 (i + 1) (lt_o (i := i) (c := 1) (d := 918) rfl)).trans ha248
  have ha250 : zAt ad212 (i + 1) (q1) := up_n ea214 ha249 (ne_o (i := i) (c := 1) (d := 919) rfl)
  have ha251 : zAt ad222 (i + 1) (q1) := (hA218 (i + 1) (lt_o (i := i) (c := 1) (d := 920) rfl)).trans ha250
  have ha252 : zAt ad30 (i + 1 + 1) (q19) := (hA26 (i + 1 + 1) (lt_o (i := i) (c := 2) (d := 3) rfl)).trans ha24
  have ha253 : zAt ad41 (i + 1 + 1) (q19) := up_n ea43 ha252 (ne_o (i := i) (c := 2) (d := 4) rfl)
  have ha254 : zAt ad51 (i + 1 + 1) (q19) := (hA47 (i + 1 + 1) (lt_o (i := i) (c := 2) (d := 5) rfl)).trans ha253
  have ha255 : zAt ad62 (i + 1 + 1) (q19) := up_n ea64 ha254 (ne_o (i := i) (c := 2) (d := 11) rfl)
  have ha256 : zAt ad72 (i + 1 + 1) (q19) := (hA68 (i + 1 + 1) (lt_o (i := i) (c := 2) (d := 12) rfl)).trans ha255
  have ha257 : zAt ad83 (i + 1 + 1) (q19) := up_n ea85 ha256 (ne_o (i := i) (c := 2) (d := 447) rfl)
  have ha258 : zAt ad93 (i + 1 + 1) (q19) := (hA89 (i + 1 + 1) (lt_o (i := i) (c := 2) (d := 448) rfl)).trans ha257
  have ha259 : zAt ad107 (i + 1 + 1) (q19) := up_n ea109 ha258 (ne_o (i := i) (c := 2) (d := 883) rfl)
  have ha260 : zAt ad117 (i + 1 + 1) (q19) := (hA113 (i + 1 + 1) (lt_o (i := i) (c := 2) (d := 884) rfl)).trans ha259
  have ha261 : zAt ad128 (i + 1 + 1) (q19) := up_n ea130 ha260 (ne_o (i := i) (c := 2) (d := 890) rfl)
  have ha262 : zAt ad138 (i + 1 + 1) (q19) := (hA134 (i + 1 + 1) (lt_o (i := i) (c := 2) (d := 891) rfl)).trans ha261
  have ha263 : zAt ad149 (i + 1 + 1) (q19) := up_n ea151 ha262 (ne_o (i := i) (c := 2) (d := 900) rfl)
  have ha264 : zAt ad159 (i + 1 + 1) (q19) := (hA155 (i + 1 + 1) (lt_o (i := i) (c := 2) (d := 901) rfl)).trans ha263
  have ha265 : zAt ad170 (i + 1 + 1) (q19) := up_n ea172 ha264 (ne_o (i := i) (c := 2) (d := 910) rfl)
  have ha266 : zAt ad180 (i + 1 + 1) (q19) := (hA176 (i + 1 + 1) (lt_o (i := i) (c := 2) (d := 911) rfl)).trans ha265
  have ha267 : zAt ad191 (i + 1 + 1) (q19) := up_n ea193 ha266 (ne_o (i := i) (c := 2) (d := 917) rfl)
  have ha268 : zAt ad201 (i + 1 + 1) (q19) := (hA197 (i + 1 + 1) (lt_o (i := i) (c := 2) (d := 918) rfl)).trans ha267
  have ha269 : zAt ad212 (i + 1 + 1) (q19) := up_n ea214 ha268 (ne_o (i := i) (c := 2) (d := 919) rfl)
  have ha270 : zAt ad222 (i + 1 + 1) (q19) := (hA218 (i + 1 + 1) (lt_o (i := i) (c := 2) (d := 920) rfl)).trans ha269
  have ha271 : zAt ad51 (i + 1 + 1 + 2) (q40) := (hA47 (i + 1 + 1 + 2) (lt_o (i := i) (c := 4) (d := 5) rfl)).trans ha45
  have ha272 : zAt ad62 (i + 1 + 1 + 2) (q40) := up_n ea64 ha271 (ne_o (i := i) (c := 4) (d := 11) rfl)
  have ha273 : zAt ad72 (i + 1 + 1 + 2) (q40) := (hA68 (i + 1 + 1 + 2) (lt_o (i := i) (c := 4) (d := 12) rfl)).trans ha272
  have ha274 : zAt ad83 (i + 1 + 1 + 2) (q40) := up_n ea85 ha273 (ne_o (i := i) (c := 4) (d := 447) rfl)
  have ha275 : zAt ad93 (i + 1 + 1 + 2) (q40) := (hA89 (i + 1 + 1 + 2) (lt_o (i := i) (c := 4) (d := 448) rfl)).trans ha274
  have ha276 : zAt ad107 (i + 1 + 1 + 2) (q40) := up_n ea109 ha275 (ne_o (i := i) (c := 4) (d := 883) rfl)
  have ha277 : zAt ad117 (i + 1 + 1 + 2) (q40) := (hA113 (i + 1 + 1 + 2) (lt_o (i := i) (c := 4) (d := 884) rfl)).trans ha276
  have ha278 : zAt ad128 (i + 1 + 1 + 2) (q40) := up_n ea130 ha277 (ne_o (i := i) (c := 4) (d := 890) rfl)
  have ha279 : zAt ad138 (i + 1 + 1 + 2) (q40) := (hA134 (i + 1 + 1 + 2) (lt_o (i := i) (c := 4) (d := 891) rfl)).trans ha278
  have ha280 : zAt ad149 (i + 1 + 1 + 2) (q40) := up_n ea151 ha279 (ne_o (i := i) (c := 4) (d := 900) rfl)
  have ha281 : zAt ad159 (i + 1 + 1 + 2) (q40) := (hA155 (i + 1 + 1 + 2) (lt_o (i := i) (c := 4) (d := 901) rfl)).trans ha280
  have ha282 : zAt ad170 (i + 1 + 1 + 2) (q40) := up_n ea172 ha281 (ne_o (i := i) (c := 4) (d := 910) rfl)
  have ha283 : zAt ad180 (i + 1 + 1 + 2) (q40) := (hA176 (i + 1 + 1 + 2) (lt_o (i := i) (c := 4) (d := 911) rfl)).trans ha282
  have ha284 : zAt ad191 (i + 1 + 1 + 2) (q40) := up_n ea193 ha283 (ne_o (i := i) (c := 4) (d := 917) rfl)
  have ha285 : zAt ad201 (i + 1 + 1 + 2) (q40) := (hA197 (i + 1 + 1 + 2) (lt_o (i := i) (c := 4) (d := 918) rfl)).trans ha284
  have ha286 : zAt ad212 (i + 1 + 1 + 2) (q40) := up_n ea214 ha285 (ne_o (i := i) (c := 4) (d := 919) rfl)
  have ha287 : zAt ad222 (i + 1 + 1 + 2) (q40) := (hA218 (i + 1 + 1 + 2) (lt_o (i := i) (c := 4) (d := 920) rfl)).trans ha286
  have ha288 : zAt ad72 (i + 1 + 1 + 2 + 7) (q61) := (hA68 (i + 1 + 1 + 2 + 7) (lt_o (i := i) (c := 11) (d := 12) rfl)).trans ha66
  have ha289 : zAt ad83 (i + 1 + 1 + 2 + 7) (q61) := up_n ea85 ha288 (ne_o (i := i) (c := 11) (d := 447) rfl)
  have ha290 : zAt ad93 (i + 1 + 1 + 2 + 7) (q61) := (hA89 (i + 1 + 1 + 2 + 7) (lt_o (i := i) (c := 11) (d := 448) rfl)).trans ha289
  have ha291 : zAt ad107 (i + 1 + 1 + 2 + 7) (q61) := up_n ea109 ha290 (ne_o (i := i) (c := 11) (d := 883) rfl)
  have ha292 : zAt ad117 (i + 1 + 1 + 2 + 7) (q61) := (hA113 (i + 1 + 1 + 2 + 7) (lt_o (i := i) (c := 11) (d := 884) rfl)).trans ha291
  have ha293 : zAt ad128 (i + 1 + 1 + 2 + 7) (q61) := up_n ea130 ha292 (ne_o (i := i) (c := 11) (d := 890) rfl)
  have ha294 : zAt ad138 (i + 1 + 1 + 2 + 7) (q61) := (hA134 (i + 1 + 1 + 2 + 7) (lt_o (i := i) (c := 11) (d := 891) rfl)).trans ha293
  have ha295 : zAt ad149 (i + 1 + 1 + 2 + 7) (q61) := up_n ea151 ha294 (ne_o (i := i) (c := 11) (d := 900) rfl)
  have ha296 : zAt ad159 (i + 1 + 1 + 2 + 7) (q61) := (hA155 (i + 1 + 1 + 2 + 7) (lt_o (i := i) (c := 11) (d := 901) rfl)).trans ha295
  have ha297 : zAt ad170 (i + 1 + 1 + 2 + 7) (q61) := up_n ea172 ha296 (ne_o (i := i) (c := 11) (d := 910) rfl)
  have ha298 : zAt ad180 (i + 1 + 1 + 2 + 7) (q61) := (hA176 (i + 1 + 1 + 2 + 7) (lt_o (i := i) (c := 11) (d := 911) rfl)).trans ha297
  have ha299 : zAt ad191 (i + 1 + 1 + 2 + 7) (q61) := up_n ea193 ha298 (ne_o (i := i) (c := 11) (d := 917) rfl)
  have ha300 : zAt ad201 (i + 1 + 1 + 2 + 7) (q61) := (hA197 (i + 1 + 1 + 2 + 7) (lt_o (i := i) (c := 11) (d := 918) rfl)).trans ha299
  have ha301 : zAt ad212 (i + 1 + 1 + 2 + 7) (q61) := up_n ea214 ha300 (ne_o (i := i) (c := 11) (d := 919) rfl)
  have ha302 : zAt ad222 (i + 1 + 1 + 2 + 7) (q61) := (hA218 (i + 1 + 1 + 2 + 7) (lt_o (i := i) (c := 11) (d := 920) rfl)).trans ha301
  have ha303 : zAt ad93 (i + 1 + 1 + 2 + 7 + 436) (q82) := (hA89 (i + 1 + 1 + 2 + 7 + 436) (lt_o (i := i) (c := 447) (d := 448) rfl)).trans ha87
  have ha304 : zAt ad107 (i + 1 + 1 + 2 + 7 + 436) (q82) := up_n ea109 ha303 (ne_o (i := i) (c := 447) (d := 883) rfl)
  have ha305 : zAt ad117 (i + 1 + 1 + 2 + 7 + 436) (q82) := (hA113 (i + 1 + 1 + 2 + 7 + 436) (lt_o (i := i) (c := 447) (d := 884) rfl)).trans ha304
  have ha306 : zAt ad128 (i + 1 + 1 + 2 + 7 + 436) (q82) := up_n ea130 ha305 (ne_o (i := i) (c := 447) (d := 890) rfl)
  have ha307 : zAt ad138 (i + 1 + 1 + 2 + 7 + 436) (q82) := (hA134 (i + 1 + 1 + 2 + 7 + 436) (lt_o (i := i) (c := 447) (d := 891) rfl)).trans ha306
  have ha308 : zAt ad149 (i + 1 + 1 + 2 + 7 + 436) (q82) := up_n ea151 ha307 (ne_o (i := i) (c := 447) (d := 900) rfl)
  have ha309 : zAt ad159 (i + 1 + 1 + 2 + 7 + 436) (q82) := (hA155 (i + 1 + 1 + 2 + 7 + 436) (lt_o (i := i) (c := 447) (d := 901) rfl)).trans ha308
  have ha310 : zAt ad170 (i + 1 + 1 + 2 + 7 + 436) (q82) := up_n ea172 ha309 (ne_o (i := i) (c := 447) (d := 910) rfl)
  have ha311 : zAt ad180 (i + 1 + 1 + 2 + 7 + 436) (q82) := (hA176 (i + 1 + 1 + 2 + 7 + 436) (lt_o (i := i) (c := 447) (d := 911) rfl)).trans ha310
  have ha312 : zAt ad191 (i + 1 + 1 + 2 + 7 + 436) (q82) := up_n ea193 ha311 (ne_o (i := i) (c := 447) (d := 917) rfl)
  have ha313 : zAt ad201 (i + 1 + 1 + 2 + 7 + 436) (q82) := (hA197 (i + 1 + 1 + 2 + 7 + 436) (lt_o (i := i) (c := 447) (d := 918) rfl)).trans ha312
  have ha314 : zAt ad212 (i + 1 + 1 + 2 + 7 + 436) (q82) := up_n ea214 ha313 (ne_o (i := i) (c := 447) (d := 919) rfl)
  have ha315 : zAt ad222 (i + 1 + 1 + 2 + 7 + 436) (q82) := (hA218 (i + 1 + 1 + 2 + 7 + 436) (lt_o (i := i) (c := 447) (d := 920) rfl)).trans ha314
  have ha316 : zAt ad117 (i + 1 + 1 + 2 + 7 + 436 + 436) (q106) := (hA113 (i + 1 + 1 + 2 + 7 + 436 + 436) (lt_o (i := i) (c := 883) (d := 884) rfl)).trans ha111
  have ha317 : zAt ad128 (i + 1 + 1 + 2 + 7 + 436 + 436) (q106) := up_n ea130 ha316 (ne_o (i := i) (c := 883) (d := 890) rfl)
  have ha318 : zAt ad138 (i + 1 + 1 + 2 + 7 + 436 + 436) (q106) := (hA134 (i + 1 + 1 + 2 + 7 + 436 + 436) (lt_o (i := i) (c := 883) (d := 891) rfl)).trans ha317
  have ha319 : zAt ad149 (i + 1 + 1 + 2 + 7 + 436 + 436) (q106) := up_n ea151 ha318 (ne_o (i := i) (c := 883) (d := 900) rfl)
  have ha320 : zAt ad159 (i + 1 + 1 + 2 + 7 + 436 + 436) (q106) := (hA155 (i + 1 + 1 + 2 + 7 + 436 + 436) (lt_o (i := i) (c := 883) (d := 901) rfl)).trans ha319
  have ha321 : zAt ad170 (i + 1 + 1 + 2 + 7 + 436 + 436) (q106) := up_n ea172 ha320 (ne_o (i := i) (c := 883) (d := 910) rfl)
  have ha322 : zAt ad180 (i + 1 + 1 + 2 + 7 + 436 + 436) (q106) := (hA176 (i + 1 + 1 + 2 + 7 + 436 + 436) (lt_o (i := i) (c := 883) (d := 911) rfl)).trans ha321
  have ha323 : zAt ad191 (i + 1 + 1 + 2 + 7 + 436 + 436) (q106) := up_n ea193 ha322 (ne_o (i := i) (c := 883) (d := 917) rfl)
  have ha324 : zAt ad201 (i + 1 + 1 + 2 + 7 + 436 + 436) (q106) := (hA197 (i + 1 + 1 + 2 + 7 + 436 + 436) (lt_o (i := i) (c := 883) (d := 918) rfl)).trans ha323
  have ha325 : zAt ad212 (i + 1 + 1 + 2 + 7 + 436 + 436) (q106) := up_n ea214 ha324 (ne_o (i := i) (c := 883) (d := 919) rfl)
  have ha326 : zAt ad222 (i + 1 + 1 + 2 + 7 + 436 + 436) (q106) := (hA218 (i + 1 + 1 + 2 + 7 + 436 + 436) (lt_o (i := i) (c := 883) (d := 920) rfl)).trans ha325
  have ha327 : zAt ad138 (i + 1 + 1 + 2 + 7 + 436 + 436 + 7) (q127) := (hA134 (i + 1 + 1 + 2 + 7 + 436 + 436 + 7) (lt_o (i := i) (c := 890) (d := 891) rfl)).trans ha132
  have ha328 : zAt ad149 (i + 1 + 1 + 2 + 7 + 436 + 436 + 7) (q127) := up_n ea151 ha327 (ne_o (i := i) (c := 890) (d := 900) rfl)
  have ha329 : zAt ad159 (i + 1 + 1 + 2 + 7 + 436 + 436 + 7) (q127) := (hA155 (i + 1 + 1 + 2 + 7 + 436 + 436 + 7) (lt_o (i := i) (c := 890) (d := 901) rfl)).trans ha328
  have ha330 : zAt ad170 (i + 1 + 1 + 2 + 7 + 436 + 436 + 7) (q127) := up_n ea172 ha329 (ne_o (i := i) (c := 890) (d := 910) rfl)
  have ha331 : zAt ad180 (i + 1 + 1 + 2 + 7 + 436 + 436 + 7) (q127) := (hA176 (i + 1 + 1 + 2 + 7 + 436 + 436 + 7) (lt_o (i := i) (c := 890) (d := 911) rfl)).trans ha330
  have ha332 : zAt ad191 (i + 1 + 1 + 2 + 7 + 436 + 436 + 7) (q127) := up_n ea193 ha331 (ne_o (i := i) (c := 890) (d := 917) rfl)
  have ha333 : zAt ad201 (i + 1 + 1 + 2 + 7 + 436 + 436 + 7) (q127) := (hA197 (i + 1 + 1 + 2 + 7 + 436 + 436 + 7) (lt_o (i := i) (c := 890) (d := 918) rfl)).trans ha332
  have ha334 : zAt ad212 (i + 1 + 1 + 2 + 7 + 436 + 436 + 7) (q127) := up_n ea214 ha333 (ne_o (i := i) (c := 890) (d := 919) rfl)
  have ha335 : zAt ad222 (i + 1 + 1 + 2 + 7 + 436 + 436 + 7) (q127) := (hA218 (i + 1 + 1 + 2 + 7 + 436 + 436 + 7) (lt_o (i := i) (c := 890) (d := 920) rfl)).trans ha334
  have ha336 : zAt ad159 (i + 1 + 1 + 2 + 7 + 436 + 436 + 7 + 10) (q148) := (hA155 (i + 1 + 1 + 2 + 7 + 436 + 436 + 7 + 10) (lt_o (i := i) (c := 900) (d := 901) rfl)).trans ha153
  have ha337 : zAt ad170 (i + 1 + 1 + 2 + 7 + 436 + 436 + 7 + 10) (q148) := up_n ea172 ha336 (ne_o (i := i) (c := 900) (d := 910) rfl)
  have ha338 : zAt ad180 (i + 1 + 1 + 2 + 7 + 436 + 436 + 7 + 10) (q148) := (hA176 (i + 1 + 1 + 2 + 7 + 436 + 436 + 7 + 10) (lt_o (i := i) (c := 900) (d := 911) rfl)).trans ha337
  have ha339 : zAt ad191 (i + 1 + 1 + 2 + 7 + 436 + 436 + 7 + 10) (q148) := up_n ea193 ha338 (ne_o (i := i) (c := 900) (d := 917) rfl)
  have ha340 : zAt ad201 (i + 1 + 1 + 2 + 7 + 436 + 436 + 7 + 10) (q148) := (hA197 (i + 1 + 1 + 2 + 7 + 436 + 436 + 7 + 10) (lt_o (i := i) (c := 900) (d := 918) rfl)).trans ha339
  have ha341 : zAt ad212 (i + 1 + 1 + 2 + 7 + 436 + 436 + 7 + 10) (q148) := up_n ea214 ha340 (ne_o (i := i) (c := 900) (d := 919) rfl)
  have ha342 : zAt ad222 (i + 1 + 1 + 2 + 7 + 436 + 436 + 7 + 10) (q148) := (hA218 (i + 1 + 1 + 2 + 7 + 436 + 436 + 7 + 10) (lt_o (i := i) (c := 900) (d := 920) rfl)).trans ha341
  have ha343 : zAt ad180 (i + 1 + 1 + 2 + 7 + 436 + 436 + 7 + 10 + 10) (q169) := (hA176 (i + 1 + 1 + 2 + 7 + 436 + 436 + 7 + 10 + 10) (lt_o (i := i) (c := 910) (d := 911) rfl)).trans ha174
  have ha344 : zAt ad191 (i + 1 + 1 + 2 + 7 + 436 + 436 + 7 + 10 + 10) (q169) := up_n ea193 ha343 (ne_o (i := i) (c := 910) (d := 917) rfl)
  have ha345 : zAt ad201 (i + 1 + 1 + 2 + 7 + 436 + 436 + 7 + 10 + 10) (q169) := (hA197 (i + 1 + 1 + 2 + 7 + 436 + 436 + 7 + 10 + 10) (lt_o (i := i) (c := 910) (d := 918) rfl)).trans ha344
  have ha346 : zAt ad212 (i + 1 + 1 + 2 + 7 + 436 + 436 + 7 + 10 + 10) (q169) := up_n ea214 ha345 (ne_o (i := i) (c := 910) (d := 919) rfl)
  have ha347 : zAt ad222 (i + 1 + 1 + 2 + 7 + 436 + 436 + 7 + 10 + 10) (q169) := (hA218 (i + 1 + 1 + 2 + 7 + 436 + 436 + 7 + 10 + 10) (lt_o (i := i) (c := 910) (d := 920) rfl)).trans ha346
  have ha348 : zAt ad201 (i + 1 + 1 + 2 + 7 + 436 + 436 + 7 + 10 + 10 + 7) (q190) := (hA197 (i + 1 + 1 + 2 + 7 + 436 + 436 + 7 + 10 + 10 + 7) (lt_o (i := i) (c := 917) (d := 918) rfl)).trans ha195
  have ha349 : zAt ad212 (i + 1 + 1 + 2 + 7 + 436 + 436 + 7 + 10 + 10 + 7) (q190) := up_n ea214 ha348 (ne_o (i := i) (c := 917) (d := 919) rfl)
  have ha350 : zAt ad222 (i + 1 + 1 + 2 + 7 + 436 + 436 + 7 + 10 + 10 + 7) (q190) := (hA218 (i + 1 + 1 + 2 + 7 + 436 + 436 + 7 + 10 + 10 + 7) (lt_o (i := i) (c := 917) (d := 920) rfl)).trans ha349
  have ha351 : zAt ad222 (i + 1 + 1 + 2 + 7 + 436 + 436 + 7 + 10 + 10 + 7 + 2) (q211) := (hA218 (i + 1 + 1 + 2 + 7 + 436 + 436 + 7 + 10 + 10 + 7 + 2) (lt_o (i := i) (c := 919) (d := 920) rfl)).trans ha216
  have hg352 := up_n eg11 hg7 (ne_o (i := i) (c := 1) (d := 0) rfl)
  have hg353 := up_n eg14 hg352 (ne_o (i := i) (c := 1) (d := 0) rfl)
  have hg354 := up_n eg17 hg353 (ne_o (i := i) (c := 1) (d := 0) rfl)
  have hg355 := up_n eg23 hg354 (ne_o (i := i) (c := 1) (d := 2) rfl)
  have hg356 := (hG27 (i + 1) (lt_o (i := i) (c := 1) (d := 3) rfl) (ne_o (i := i) (c := 1) (d := 2) rfl)).trans hg355
  have hg357 := up_n eg38 hg356 (ne_o (i := i) (c := 1) (d := 0) rfl)
  have hg358 := up_n eg44 hg357 (ne_o (i := i) (c := 1) (d := 4) rfl)
  have hg359 := (hG48 (i + 1) (lt_o (i := i) (c := 1) (d := 5) rfl) (ne_o (i := i) (c := 1) (d := 4) rfl)).trans hg358
  have hg360 := up_n eg59 hg359 (ne_o (i := i) (c := 1) (d := 0) rfl)
  have hg361 := up_n eg65 hg360 (ne_o (i := i) (c := 1) (d := 11) rfl)
  have hg362 := (hG69 (i + 1) (lt_o (i := i) (c := 1) (d := 12) rfl) (ne_o (i := i) (c := 1) (d := 11) rfl)).trans hg361
  have hg363 := up_n eg80 hg362 (ne_o (i := i) (c := 1) (d := 0) rfl)
  have hg364 := up_n eg86 hg363 (ne_o (i := i) (c := 1) (d := 447) rfl)
  have hg365 := (hG90 (i + 1) (lt_o (i := i) (c := 1) (d := 448) rfl) (ne_o (i := i) (c := 1) (d := 447) rfl)).trans hg364
  have hg366 := up_n eg101 hg365 (ne_o (i := i) (c := 1) (d := 0) rfl)
  have hg367 := up_n eg104 hg366 (ne_o (i := i) (c := 1) (d := 0) rfl)
  have hg368 := up_n eg110 hg367 (ne_o (i := i) (c := 1) (d := 883) rfl)
  have hg369 := (hG114 (i + 1) (lt_o (i := i) (c := 1) (d := 884) rfl) (ne_o (i := i) (c := 1) (d := 883) rfl)).trans hg368
  have hg370 := up_n eg125 hg369 (ne_o (i := i) (c := 1) (d := 0) rfl)
  have hg371 := up_n eg131 hg370 (ne_o (i := i) (c := 1) (d := 890) rfl)
  have hg372 := (hG135 (i + 1) (lt_o (i := i) (c := 1) (d := 891) rfl) (ne_o (i := i) (c := 1) (d := 890) rfl)).trans hg371
  have hg373 := up_n eg146 hg372 (ne_o (i := i) (c := 1) (d := 0) rfl)
  have hg374 := up_n eg152 hg373 (ne_o (i := i) (c := 1) (d := 900) rfl)
  have hg375 := (hG156 (i + 1) (lt_o (i := i) (c := 1) (d := 901) rfl) (ne_o (i := i) (c := 1) (d := 900) rfl)).trans hg374
  have hg376 := up_n eg167 hg375 (ne_o (i := i) (c := 1) (d := 0) rfl)
  have hg377 := up_n eg173 hg376 (ne_o (i := i) (c := 1) (d := 910) rfl)
  have hg378 := (hG177 (i + 1) (lt_o (i := i) (c := 1) (d := 911) rfl) (ne_o (i := i) (c := 1) (d := 910) rfl)).trans hg377
  have hg379 := up_n eg188 hg378 (ne_o (i := i) (c := 1) (d := 0) rfl)
  have hg380 := up_n eg194 hg379 (ne_o (i := i) (c := 1) (d := 917) rfl)
  have hg381 := (hG198 (i + 1) (lt_o (i := i) (c := 1) (d := 918) rfl) (ne_o (i := i) (c := 1) (d := 917) rfl)).trans hg380
  have hg382 := up_n eg209 hg381 (ne_o (i := i) (c := 1) (d := 0) rfl)
  have hg383 := up_n eg215 hg382 (ne_o (i := i) (c := 1) (d := 919) rfl)
  have hg384 := (hG219 (i + 1) (lt_o (i := i) (c := 1) (d := 920) rfl) (ne_o (i := i) (c := 1) (d := 919) rfl)).trans hg383
  have hg385 := up_n eg230 hg384 (ne_o (i := i) (c := 1) (d := 0) rfl)
  have hfin : g229 i = oC 11 [.ref (ad222 (i + 1)), .int (zI 0), .int (zI (-1)), .ref (ad222 (i + 2)), .ref (ad222 (i + 4)), .ref (ad222 (i + 11)), .ref (ad222 (i + 447)), .int (zI 0), .ref (ad222 (i + 883)), .ref (ad222 (i + 890)), .ref (ad222 (i + 900)), .ref (ad222 (i + 910)), .ref (ad222 (i + 917)), .ref (ad222 (i + 919))] := by rw [← (show ad222 (i + 1) = q1 from ha251), ← (show ad222 (i + 1 + 1) = q19 from ha270), ← (show ad222 (i + 1 + 1 + 2) = q40 from ha287), ← (show ad222 (i + 1 + 1 + 2 + 7) = q61 from ha302), ← (show ad222 (i + 1 + 1 + 2 + 7 + 436) = q82 from ha315), ← (show ad222 (i + 1 + 1 + 2 + 7 + 436 + 436) = q106 from ha326), ← (show ad222 (i + 1 + 1 + 2 + 7 + 436 + 436 + 7) = q127 from ha335), ← (show ad222 (i + 1 + 1 + 2 + 7 + 436 + 436 + 7 + 10) = q148 from ha342), ← (show ad222 (i + 1 + 1 + 2 + 7 + 436 + 436 + 7 + 10 + 10) = q169 from ha347), ← (show ad222 (i + 1 + 1 + 2 + 7 + 436 + 436 + 7 + 10 + 10 + 7) = q190 from ha350), ← (show ad222 (i + 1 + 1 + 2 + 7 + 436 + 436 + 7 + 10 + 10 + 7 + 2) = q211 from ha351)] at hg231; exact hg231
  have hp386 := isRdr.mv (ad' := ad222) (g' := g229) (fun j h1 h2 => by rw [hA218 _ (by omega)]; rw [ea214, va_up_ne _ _ (by omega)]; rw [hA197 _ (by omega)]; rw [ea193, va_up_ne _ _ (by omega)]; rw [hA176 _ (by omega)]; rw [ea172, va_up_ne _ _ (by omega)]; rw [hA155 _ (by omega)]; rw [ea151, va_up_ne _ _ (by omega)]; rw [hA134 _ (by omega)]; rw [ea130, va_up_ne _ _ (by omega)]; rw [hA113 _ (by omega)]; rw [ea109, va_up_ne _ _ (by omega)]; rw [hA89 _ (by omega)]; rw [ea85, va_up_ne _ _ (by omega)]; rw [hA68 _ (by omega)]; rw [ea64, va_up_ne _ _ (by omega)]; rw [hA47 _ (by omega)]; rw [ea43, va_up_ne _ _ (by omega)]) (fun j h1 h2 => by rw [eg230, va_up_ne _ _ (by omega)]; rw [hG219 _ (by omega) (by omega)]; rw [eg215, va_up_ne _ _ (by omega)]; rw [eg209, va_up_ne _ _ (by omega)]; rw [hG198 _ (by omega) (by omega)]; rw [eg194, va_up_ne _ _ (by omega)]; rw [eg188, va_up_ne _ _ (by omega)]; rw [hG177 _ (by omega) (by omega)]; rw [eg173, va_up_ne _ _ (by omega)]; rw [eg167, va_up_ne _ _ (by omega)]; rw [hG156 _ (by omega) (by omega)]; rw [eg152, va_up_ne _ _ (by omega)]; rw [eg146, va_up_ne _ _ (by omega)]; rw [hG135 _ (by omega) (by omega)]; rw [eg131, va_up_ne _ _ (by omega)]; rw [eg125, va_up_ne _ _ (by omega)]; rw [hG114 _ (by omega) (by omega)]; rw [eg110, va_up_ne _ _ (by omega)]; rw [eg104, va_up_ne _ _ (by omega)]; rw [eg101, va_up_ne _ _ (by omega)]; rw [hG90 _ (by omega) (by omega)]; rw [eg86, va_up_ne _ _ (by omega)]; rw [eg80, va_up_ne _ _ (by omega)]; rw [hG69 _ (by omega) (by omega)]; rw [eg65, va_up_ne _ _ (by omega)]; rw [eg59, va_up_ne _ _ (by omega)]; rw [hG48 _ (by omega) (by omega)]; rw [eg44, va_up_ne _ _ (by omega)]; rw [eg38, va_up_ne _ _ (by omega)]) hp28
  have hp387 := isPlan.mv (ad' := ad222) (g' := g229) (fun j h1 h2 => by rw [hA218 _ (by omega)]; rw [ea214, va_up_ne _ _ (by omega)]; rw [hA197 _ (by omega)]; rw [ea193, va_up_ne _ _ (by omega)]; rw [hA176 _ (by omega)]; rw [ea172, va_up_ne _ _ (by omega)]; rw [hA155 _ (by omega)]; rw [ea151, va_up_ne _ _ (by omega)]; rw [hA134 _ (by omega)]; rw [ea130, va_up_ne _ _ (by omega)]; rw [hA113 _ (by omega)]; rw [ea109, va_up_ne _ _ (by omega)]; rw [hA89 _ (by omega)]; rw [ea85, va_up_ne _ _ (by omega)]; rw [hA68 _ (by omega)]; rw [ea64, va_up_ne _ _ (by omega)]) (fun j h1 h2 => by rw [eg230, va_up_ne _ _ (by omega)]; rw [hG219 _ (by omega) (by omega)]; rw [eg215, va_up_ne _ _ (by omega)]; rw [eg209, va_up_ne _ _ (by omega)]; rw [hG198 _ (by omega) (by omega)]; rw [eg194, va_up_ne _ _ (by omega)]; rw [eg188, va_up_ne _ _ (by omega)]; rw [hG177 _ (by omega) (by omega)]; rw [eg173, va_up_ne _ _ (by omega)]; rw [eg167, va_up_ne _ _ (by omega)]; rw [hG156 _ (by omega) (by omega)]; rw [eg152, va_up_ne _ _ (by omega)]; rw [eg146, va_up_ne _ _ (by omega)]; rw [hG135 _ (by omega) (by omega)]; rw [eg131, va_up_ne _ _ (by omega)]; rw [eg125, va_up_ne _ _ (by omega)]; rw [hG114 _ (by omega) (by omega)]; rw [eg110, va_up_ne _ _ (by omega)]; rw [eg104, va_up_ne _ _ (by omega)]; rw [eg101, va_up_ne _ _ (by omega)]; rw [hG90 _ (by omega) (by omega)]; rw [eg86, va_up_ne _ _ (by omega)]; rw [eg80, va_up_ne _ _ (by omega)]; rw [hG69 _ (by omega) (by omega)]; rw [eg65, va_up_ne _ _ (by omega)]; rw [eg59, va_up_ne _ _ (by omega)]) hp49
  have hp388 := isSt.mv (ad' := ad222) (g' := g229) (fun j h1 h2 => by rw [hA218 _ (by omega)]; rw [ea214, va_up_ne _ _ (by omega)]; rw [hA197 _ (by omega)]; rw [ea193, va_up_ne _ _ (by omega)]; rw [hA176 _ (by omega)]; rw [ea172, va_up_ne _ _ (by omega)]; rw [hA155 _ (by omega)]; rw [ea151, va_up_ne _ _ (by omega)]; rw [hA134 _ (by omega)]; rw [ea130, va_up_ne _ _ (by omega)]; rw [hA113 _ (by omega)]; rw [ea109, va_up_ne _ _ (by omega)]; rw [hA89 _ (by omega)]; rw [ea85, va_up_ne _ _ (by omega)]) (fun j h1 h2 => by rw [eg230, va_up_ne _ _ (by omega)]; rw [hG219 _ (by omega) (by omega)]; rw [eg215, va_up_ne _ _ (by omega)]; rw [eg209, va_up_ne _ _ (by omega)]; rw [hG198 _ (by omega) (by omega)]; rw [eg194, va_up_ne _ _ (by omega)]; rw [eg188, va_up_ne _ _ (by omega)]; rw [hG177 _ (by omega) (by omega)]; rw [eg173, va_up_ne _ _ (by omega)]; rw [eg167, va_up_ne _ _ (by omega)]; rw [hG156 _ (by omega) (by omega)]; rw [eg152, va_up_ne _ _ (by omega)]; rw [eg146, va_up_ne _ _ (by omega)]; rw [hG135 _ (by omega) (by omega)]; rw [eg131, va_up_ne _ _ (by omega)]; rw [eg125, va_up_ne _ _ (by omega)]; rw [hG114 _ (by omega) (by omega)]; rw [eg110, va_up_ne _ _ (by omega)]; rw [eg104, va_up_ne _ _ (by omega)]; rw [eg101, va_up_ne _ _ (by omega)]; rw [hG90 _ (by omega) (by omega)]; rw [eg86, va_up_ne _ _ (by omega)]; rw [eg80, va_up_ne _ _ (by omega)]) hp70
  have hp389 := isSt.mv (ad' := ad222) (g' := g229) (fun j h1 h2 => by rw [hA218 _ (by omega)]; rw [ea214, va_up_ne _ _ (by omega)]; rw [hA197 _ (by omega)]; rw [ea193, va_up_ne _ _ (by omega)]; rw [hA176 _ (by omega)]; rw [ea172, va_up_ne _ _ (by omega)]; rw [hA155 _ (by omega)]; rw [ea151, va_up_ne _ _ (by omega)]; rw [hA134 _ (by omega)]; rw [ea130, va_up_ne _ _ (by omega)]; rw [hA113 _ (by omega)]; rw [ea109, va_up_ne _ _ (by omega)]) (fun j h1 h2 => by rw [eg230, va_up_ne _ _ (by omega)]; rw [hG219 _ (by omega) (by omega)]; rw [eg215, va_up_ne _ _ (by omega)]; rw [eg209, va_up_ne _ _ (by omega)]; rw [hG198 _ (by omega) (by omega)]; rw [eg194, va_up_ne _ _ (by omega)]; rw [eg188, va_up_ne _ _ (by omega)]; rw [hG177 _ (by omega) (by omega)]; rw [eg173, va_up_ne _ _ (by omega)]; rw [eg167, va_up_ne _ _ (by omega)]; rw [hG156 _ (by omega) (by omega)]; rw [eg152, va_up_ne _ _ (by omega)]; rw [eg146, va_up_ne _ _ (by omega)]; rw [hG135 _ (by omega) (by omega)]; rw [eg131, va_up_ne _ _ (by omega)]; rw [eg125, va_up_ne _ _ (by omega)]; rw [hG114 _ (by omega) (by omega)]; rw [eg110, va_up_ne _ _ (by omega)]; rw [eg104, va_up_ne _ _ (by omega)]; rw [eg101, va_up_ne _ _ (by omega)]) hp91
  have hp390 := isPlan.mv (ad' := ad222) (g' := g229) (fun j h1 h2 => by rw [hA218 _ (by omega)]; rw [ea214, va_up_ne _ _ (by omega)]; rw [hA197 _ (by omega)]; rw [ea193, va_up_ne _ _ (by omega)]; rw [hA176 _ (by omega)]; rw [ea172, va_up_ne _ _ (by omega)]; rw [hA155 _ (by omega)]; rw [ea151, va_up_ne _ _ (by omega)]; rw [hA134 _ (by omega)]; rw [ea130, va_up_ne _ _ (by omega)]) (fun j h1 h2 => by rw [eg230, va_up_ne _ _ (by omega)]; rw [hG219 _ (by omega) (by omega)]; rw [eg215, va_up_ne _ _ (by omega)]; rw [eg209, va_up_ne _ _ (by omega)]; rw [hG198 _ (by omega) (by omega)]; rw [eg194, va_up_ne _ _ (by omega)]; rw [eg188, va_up_ne _ _ (by omega)]; rw [hG177 _ (by omega) (by omega)]; rw [eg173, va_up_ne _ _ (by omega)]; rw [eg167, va_up_ne _ _ (by omega)]; rw [hG156 _ (by omega) (by omega)]; rw [eg152, va_up_ne _ _ (by omega)]; rw [eg146, va_up_ne _ _ (by omega)]; rw [hG135 _ (by omega) (by omega)]; rw [eg131, va_up_ne _ _ (by omega)]; rw [eg125, va_up_ne _ _ (by omega)]) hp115
  have hp391 := isWorld.mv (ad' := ad222) (g' := g229) (fun j h1 h2 => by rw [hA218 _ (by omega)]; rw [ea214, va_up_ne _ _ (by omega)]; rw [hA197 _ (by omega)]; rw [ea193, va_up_ne _ _ (by omega)]; rw [hA176 _ (by omega)]; rw [ea172, va_up_ne _ _ (by omega)]; rw [hA155 _ (by omega)]; rw [ea151, va_up_ne _ _ (by omega)]) (fun j h1 h2 => by rw [eg230, va_up_ne _ _ (by omega)]; rw [hG219 _ (by omega) (by omega)]; rw [eg215, va_up_ne _ _ (by omega)]; rw [eg209, va_up_ne _ _ (by omega)]; rw [hG198 _ (by omega) (by omega)]; rw [eg194, va_up_ne _ _ (by omega)]; rw [eg188, va_up_ne _ _ (by omega)]; rw [hG177 _ (by omega) (by omega)]; rw [eg173, va_up_ne _ _ (by omega)]; rw [eg167, va_up_ne _ _ (by omega)]; rw [hG156 _ (by omega) (by omega)]; rw [eg152, va_up_ne _ _ (by omega)]; rw [eg146, va_up_ne _ _ (by omega)]) hp136
  have hp392 := isWorld.mv (ad' := ad222) (g' := g229) (fun j h1 h2 => by rw [hA218 _ (by omega)]; rw [ea214, va_up_ne _ _ (by omega)]; rw [hA197 _ (by omega)]; rw [ea193, va_up_ne _ _ (by omega)]; rw [hA176 _ (by omega)]; rw [ea172, va_up_ne _ _ (by omega)]) (fun j h1 h2 => by rw [eg230, va_up_ne _ _ (by omega)]; rw [hG219 _ (by omega) (by omega)]; rw [eg215, va_up_ne _ _ (by omega)]; rw [eg209, va_up_ne _ _ (by omega)]; rw [hG198 _ (by omega) (by omega)]; rw [eg194, va_up_ne _ _ (by omega)]; rw [eg188, va_up_ne _ _ (by omega)]; rw [hG177 _ (by omega) (by omega)]; rw [eg173, va_up_ne _ _ (by omega)]; rw [eg167, va_up_ne _ _ (by omega)]) hp157
  have hp393 := isGss.mv (ad' := ad222) (g' := g229) (fun j h1 h2 => by rw [hA218 _ (by omega)]; rw [ea214, va_up_ne _ _ (by omega)]; rw [hA197 _ (by omega)]; rw [ea193, va_up_ne _ _ (by omega)]) (fun j h1 h2 => by rw [eg230, va_up_ne _ _ (by omega)]; rw [hG219 _ (by omega) (by omega)]; rw [eg215, va_up_ne _ _ (by omega)]; rw [eg209, va_up_ne _ _ (by omega)]; rw [hG198 _ (by omega) (by omega)]; rw [eg194, va_up_ne _ _ (by omega)]; rw [eg188, va_up_ne _ _ (by omega)]) hp178
  have hp394 := isLike.mv (ad' := ad222) (g' := g229) (fun j h1 h2 => by rw [hA218 _ (by omega)]; rw [ea214, va_up_ne _ _ (by omega)]) (fun j h1 h2 => by rw [eg230, va_up_ne _ _ (by omega)]; rw [hG219 _ (by omega) (by omega)]; rw [eg215, va_up_ne _ _ (by omega)]; rw [eg209, va_up_ne _ _ (by omega)]) hp199
  have hp395 := isBld.mv (ad' := ad222) (g' := g229) (fun j h1 h2 => by rfl) (fun j h1 h2 => by rw [eg230, va_up_ne _ _ (by omega)]) hp220
  exact z_vret C hr hlk dX9_init_138 (by decide) (by decide) (⟨rfl, rfl, fun j h1 => by rw [hA218 _ (by omega)]; rw [ea214, va_up_ne _ _ (by omega)]; rw [hA197 _ (by omega)]; rw [ea193, va_up_ne _ _ (by omega)]; rw [hA176 _ (by omega)]; rw [ea172, va_up_ne _ _ (by omega)]; rw [hA155 _ (by omega)]; rw [ea151, va_up_ne _ _ (by omega)]; rw [hA134 _ (by omega)]; rw [ea130, va_up_ne _ _ (by omega)]; rw [hA113 _ (by omega)]; rw [ea109, va_up_ne _ _ (by omega)]; rw [hA89 _ (by omega)]; rw [ea85, va_up_ne _ _ (by omega)]; rw [hA68 _ (by omega)]; rw [ea64, va_up_ne _ _ (by omega)]; rw [hA47 _ (by omega)]; rw [ea43, va_up_ne _ _ (by omega)]; rw [hA26 _ (by omega)]; rw [ea22, va_up_ne _ _ (by omega)]; rw [ea4, va_up_ne _ _ (by omega)], fun j h1 h2 => by rw [eg230, va_up_ne _ _ (by omega)]; rw [hG219 _ (by omega) (by omega)]; rw [eg215, va_up_ne _ _ (by omega)]; rw [eg209, va_up_ne _ _ (by omega)]; rw [hG198 _ (by omega) (by omega)]; rw [eg194, va_up_ne _ _ (by omega)]; rw [eg188, va_up_ne _ _ (by omega)]; rw [hG177 _ (by omega) (by omega)]; rw [eg173, va_up_ne _ _ (by omega)]; rw [eg167, va_up_ne _ _ (by omega)]; rw [hG156 _ (by omega) (by omega)]; rw [eg152, va_up_ne _ _ (by omega)]; rw [eg146, va_up_ne _ _ (by omega)]; rw [hG135 _ (by omega) (by omega)]; rw [eg131, va_up_ne _ _ (by omega)]; rw [eg125, va_up_ne _ _ (by omega)]; rw [hG114 _ (by omega) (by omega)]; rw [eg110, va_up_ne _ _ (by omega)]; rw [eg104, va_up_ne _ _ (by omega)]; rw [eg101, va_up_ne _ _ (by omega)]; rw [hG90 _ (by omega) (by omega)]; rw [eg86, va_up_ne _ _ (by omega)]; rw [eg80, va_up_ne _ _ (by omega)]; rw [hG69 _ (by omega) (by omega)]; rw [eg65, va_up_ne _ _ (by omega)]; rw [eg59, va_up_ne _ _ (by omega)]; rw [hG48 _ (by omega) (by omega)]; rw [eg44, va_up_ne _ _ (by omega)]; rw [eg38, va_up_ne _ _ (by omega)]; rw [hG27 _ (by omega) (by omega)]; rw [eg23, va_up_ne _ _ (by omega)]; rw [eg17, va_up_ne _ _ (by omega)]; rw [eg14, va_up_ne _ _ (by omega)]; rw [eg11, va_up_ne _ _ (by omega)]; rw [eg5, va_up_ne _ _ (by omega)], hfin, hg385, hp386, hp387, hp388, hp389, hp390, hp391, hp392, hp393, hp394, hp395⟩)

