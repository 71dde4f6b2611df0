section
-- 11.rec.lean.txt
def isRec (cs : Nat → ClassId) (ad : Nat → Nat) (g : Nat → va_E) (i : Nat) : Prop := g i = oC 11 [.ref (ad (i + 1)), .int (zI 0), .int (zI (-1)), .ref (ad (i + 2)), .ref (ad (i + 4)), .ref (ad (i + 11)), .ref (ad (i + 447)), .int (zI 0), .ref (ad (i + 883)), .ref (ad (i + 890)), .ref (ad (i + 900)), .ref (ad (i + 910)), .ref (ad (i + 917)), .ref (ad (i + 919))] ∧ g (i + 1) = bA cs 900 (fun _ => 0) ∧ isRdr cs ad g (i + 2) ∧ isPlan cs ad g (i + 4) 0 0 0 (fun _ => 0) (fun _ => 0) (fun _ => 0) (fun _ => 0) (fun _ => 0) tabZ ∧ isSt cs ad g (i + 11) ∧ isSt cs ad g (i + 447) ∧ isPlan cs ad g (i + 883) 0 0 0 (fun _ => 0) (fun _ => 0) (fun _ => 0) (fun _ => 0) (fun _ => 0) tabZ ∧ isWorld cs ad g (i + 890) (fun _ => 0) (fun _ => 0) (fun _ => 0) (fun _ _ => 0) ∧ isWorld cs ad g (i + 900) (fun _ => 0) (fun _ => 0) (fun _ => 0) (fun _ _ => 0) ∧ isGss cs ad g (i + 910) 0 (-1) (fun _ => 0) (fun _ _ => 0) ∧ isLike cs ad g (i + 917) (fun _ => 0) ∧ isBld cs ad g (i + 919)
theorem isRec.mv {cs : Nat → ClassId} {ad ad' : Nat → Nat} {g g' : Nat → va_E} {i : Nat} (hA : ∀ j, i ≤ j → j < i + 921 → ad' j = ad j) (hG : ∀ j, i ≤ j → j < i + 921 → g' j = g j) (h : isRec cs ad g i) : isRec cs ad' g' i := by
  obtain ⟨h1, h2, h3, h4, h5, h6, h7, h8, h9, h10, h11, h12⟩ := h
  exact ⟨by rw [hG _ (by omega) (by omega), hA _ (by omega) (by omega), hA _ (by omega) (by omega), hA _ (by omega) (by omega), hA _ (by omega) (by omega), hA _ (by omega) (by omega), hA _ (by omega) (by omega), hA _ (by omega) (by omega), hA _ (by omega) (by omega), hA _ (by omega) (by omega), hA _ (by omega) (by omega), hA _ (by omega) (by omega)]; exact h1, by rw [hG _ (by omega) (by omega)]; exact h2, h3.mv (fun j _ _ => hA j (by omega) (by omega)) (fun j _ _ => hG j (by omega) (by omega)), h4.mv (fun j _ _ => hA j (by omega) (by omega)) (fun j _ _ => hG j (by omega) (by omega)), h5.mv (fun j _ _ => hA j (by omega) (by omega)) (fun j _ _ => hG j (by omega) (by omega)), h6.mv (fun j _ _ => hA j (by omega) (by omega)) (fun j _ _ => hG j (by omega) (by omega)), h7.mv (fun j _ _ => hA j (by omega) (by omega)) (fun j _ _ => hG j (by omega) (by omega)), h8.mv (fun j _ _ => hA j (by omega) (by omega)) (fun j _ _ => hG j (by omega) (by omega)), h9.mv (fun j _ _ => hA j (by omega) (by omega)) (fun j _ _ => hG j (by omega) (by omega)), h10.mv (fun j _ _ => hA j (by omega) (by omega)) (fun j _ _ => hG j (by omega) (by omega)), h11.mv (fun j _ _ => hA j (by omega) (by omega)) (fun j _ _ => hG j (by omega) (by omega)), h12.mv (fun j _ _ => hA j (by omega) (by omega)) (fun j _ _ => hG j (by omega) (by omega))⟩

set_option maxRecDepth 100000 in
set_option maxHeartbeats 4000000 in
theorem c_X9_init (l : Launch) (D : va_G) (A : Nat → Prop) (cs : Nat → ClassId) (tt : Nat) (ad : Nat → Nat) (g : Nat → va_E) (i a : Nat) (ha : ad i = a) (hg : g i = oC 11 [.null, .int (zI (0)), .int (zI (0)), .null, .null, .null, .null, .int (zI (0)), .null, .null, .null, .null, .null, .null]) : zM l yX9_init cX9_init 1 none ({ frames := 4, cells := 920, slots := 37365, locals := 240 } : Room) D A cs tt (i + 1) ad g [.ref a] (rV fun N' ad' g' => N' = i + 921 ∧ (∀ j, j < i + 1 → ad' j = ad j) ∧ (∀ j, j < i + 1 → j ≠ i → g' j = g j) ∧ isRec cs ad' g' i) := by
  refine z_of (by decide) (Nat.le_of_ble_eq_true rfl) ?_
  intro p e s m below meth c C hr hlk hnm
  refine z_lv (lv' := [(0, .ref a)]) [0] rfl ?_
  refine z_aload_n C 0 dX9_init_0 rfl ?_
  refine z_objInit C q_34 q_35 q_36 dX9_init_1 (Nat.le_of_ble_eq_true rfl) (Nat.le_of_ble_eq_true rfl) ?_
  refine z_aload_n C 0 dX9_init_4 rfl ?_
  refine z_sipush (z := 900) C dX9_init_5 (by decide) ?_
  refine z_newB C 900 rfl q_72 (by decide) (by decide) (by decide) dX9_init_8 (fun q1 ad2 g3 ea4 eg5 => ?_)
  have ha6 : zAt ad2 (i + 1) q1 := up_s ea4
  have hg7 := up_s eg5
  have ha8 : zAt ad2 (i) (a) := up_n ea4 ha (ne_o (i := i) (c := 0) (d := 1) rfl)
  have hg9 := up_n eg5 hg (ne_o (i := i) (c := 0) (d := 1) rfl)
  refine z_putF (fs' := [.ref q1, .int (zI (0)), .int (zI (0)), .null, .null, .null, .null, .int (zI (0)), .null, .null, .null, .null, .null, .null]) C (lt_o (i := i) (c := 0) (d := 2) rfl) ha8 hg9 tyX9 tyX9_ok nmX9 rfl inA_X9 0 (by decide) q_349 rfl rfl hnm rfl rfl rfl (Nat.le_of_ble_eq_true rfl) rfl dX9_init_10 (fun g10 eg11 => ?_)
  have hg12 := up_s eg11
  refine z_aload_n C 0 dX9_init_13 rfl ?_
  refine z_iconst (z := 0) C dX9_init_14 rfl ?_
  refine z_put (fs' := [.ref q1, .int (zI (0)), .int (zI (0)), .null, .null, .null, .null, .int (zI (0)), .null, .null, .null, .null, .null, .null]) C (lt_o (i := i) (c := 0) (d := 2) rfl) ha8 hg12 tyX9 tyX9_ok nmX9 rfl inA_X9 1 (by decide) q_350 rfl rfl rfl rfl (Nat.le_of_ble_eq_true rfl) rfl dX9_init_15 (fun g13 eg14 => ?_)
  have hg15 := up_s eg14
  refine z_aload_n C 0 dX9_init_18 rfl ?_
  refine z_iconst (z := -1) C dX9_init_19 rfl ?_
  refine z_put (fs' := [.ref q1, .int (zI (0)), .int (zI (-1)), .null, .null, .null, .null, .int (zI (0)), .null, .null, .null, .null, .null, .null]) C (lt_o (i := i) (c := 0) (d := 2) rfl) ha8 hg15 tyX9 tyX9_ok nmX9 rfl inA_X9 2 (by decide) q_351 rfl rfl rfl rfl (Nat.le_of_ble_eq_true rfl) rfl dX9_init_20 (fun g16 eg17 => ?_)
  have hg18 := up_s eg17
  refine z_aload_n C 0 dX9_init_23 rfl ?_
  refine z_new (fs := [.int (zI (0)), .int (zI (0)), .null, .int (zI (0)), .int (zI (0)), .int (zI (0)), .int (zI (0)), .int (zI (0)), .int (zI (0))]) (ci := 9) C tyX7 tyX7_ok rfl inA_X7 q_37 q_38 q_2 (fun j hj => by rcases (show j = 0 ∨ j = 1 ∨ j = 2 ∨ j = 3 ∨ j = 4 ∨ j = 5 ∨ j = 6 ∨ j = 7 ∨ j = 8 by omega) with rfl | rfl | rfl | rfl | rfl | rfl | rfl | rfl | rfl <;> rfl) (by decide) (by decide) dX9_init_24 (fun q19 ad20 g21 ea22 eg23 => ?_)
  have ha24 : zAt ad20 (i + 1 + 1) q19 := up_s ea22
  have hg25 := up_s eg23
  refine z_dup C dX9_init_27 rfl ?_
  refine z_cIN (As := []) (rest := [.ref q19, .ref a]) C (c_X7_init l D A cs tt _ _ (i + 1 + 1) q19 ha24 hg25) mi_yX7_init n_39 rfl (by decide +kernel) (by decide) (Nat.le_of_ble_eq_true rfl) (by decide) dX9_init_28 rfl (kV fun M29 ad30 g31 hq32 => ?_)
  obtain ⟨rfl, hA26, hG27, hp28⟩ := hq32
  have e0o : i + 1 + 1 = i + 2 := by omega
  have ha33 : zAt ad20 (i) (a) := up_n ea22 ha8 (ne_o (i := i) (c := 0) (d := 2) rfl)
  have ha34 : zAt ad30 (i) (a) := (hA26 (i) (lt_o (i := i) (c := 0) (d := 3) rfl)).trans ha33
  have hg35 := up_n eg23 hg18 (ne_o (i := i) (c := 0) (d := 2) rfl)
  have hg36 := (hG27 (i) (lt_o (i := i) (c := 0) (d := 3) rfl) (ne_o (i := i) (c := 0) (d := 2) rfl)).trans hg35
  refine z_putF (fs' := [.ref q1, .int (zI (0)), .int (zI (-1)), .ref q19, .null, .null, .null, .int (zI (0)), .null, .null, .null, .null, .null, .null]) C (lt_o (i := i) (c := 0) (d := 4) rfl) ha34 hg36 tyX9 tyX9_ok nmX9 rfl inA_X9 3 (by decide) q_352 rfl rfl hnm rfl rfl rfl (Nat.le_of_ble_eq_true rfl) rfl dX9_init_31 (fun g37 eg38 => ?_)
  have hg39 := up_s eg38
  refine z_aload_n C 0 dX9_init_34 rfl ?_
  refine z_new (fs := [.int (zI (0)), .int (zI (0)), .int (zI (0)), .null, .null, .null, .null, .null, .null]) (ci := 7) C tyX5 tyX5_ok rfl inA_X5 q_73 q_74 q_3 (fun j hj => by rcases (show j = 0 ∨ j = 1 ∨ j = 2 ∨ j = 3 ∨ j = 4 ∨ j = 5 ∨ j = 6 ∨ j = 7 ∨ j = 8 by omega) with rfl | rfl | rfl | rfl | rfl | rfl | rfl | rfl | rfl <;> rfl) (by decide) (by decide) dX9_init_35 (fun q40 ad41 g42 ea43 eg44 => ?_)
  have ha45 : zAt ad41 (i + 1 + 1 + 2) q40 := up_s ea43
  have hg46 := up_s eg44
  refine z_dup C dX9_init_38 rfl ?_
  refine z_cIN (As := []) (rest := [.ref q40, .ref a]) C (c_X5_init l D A cs tt _ _ (i + 1 + 1 + 2) q40 ha45 hg46) mi_yX5_init n_75 rfl (by decide +kernel) (by decide) (Nat.le_of_ble_eq_true rfl) (by decide) dX9_init_39 rfl (kV fun M50 ad51 g52 hq53 => ?_)
  obtain ⟨rfl, hA47, hG48, hp49⟩ := hq53
  have e1o : i + 1 + 1 + 2 = i + 4 := by omega
  have ha54 : zAt ad41 (i) (a) := up_n ea43 ha34 (ne_o (i := i) (c := 0) (d := 4) rfl)
  have ha55 : zAt ad51 (i) (a) := (hA47 (i) (lt_o (i := i) (c := 0) (d := 5) rfl)).trans ha54
  have hg56 := up_n eg44 hg39 (ne_o (i := i) (c := 0) (d := 4) rfl)
  have hg57 := (hG48 (i) (lt_o (i := i) (c := 0) (d := 5) rfl) (ne_o (i := i) (c := 0) (d := 4) rfl)).trans hg56
  refine z_putF (fs' := [.ref q1, .int (zI (0)), .int (zI (-1)), .ref q19, .ref q40, .null, .null, .int (zI (0)), .null, .null, .null, .null, .null, .null]) C (lt_o (i := i) (c := 0) (d := 11) rfl) ha55 hg57 tyX9 tyX9_ok nmX9 rfl inA_X9 4 (by decide) q_353 rfl rfl hnm rfl rfl rfl (Nat.le_of_ble_eq_true rfl) rfl dX9_init_42 (fun g58 eg59 => ?_)
  have hg60 := up_s eg59
  refine z_aload_n C 0 dX9_init_45 rfl ?_
  refine z_new (fs := [.null, .null, .int (zI (0)), .null, .null, .null]) (ci := 8) C tyX6 tyX6_ok rfl inA_X6 q_135 q_136 q_4 (fun j hj => by rcases (show j = 0 ∨ j = 1 ∨ j = 2 ∨ j = 3 ∨ j = 4 ∨ j = 5 by omega) with rfl | rfl | rfl | rfl | rfl | rfl <;> rfl) (by decide) (by decide) dX9_init_46 (fun q61 ad62 g63 ea64 eg65 => ?_)
  have ha66 : zAt ad62 (i + 1 + 1 + 2 + 7) q61 := up_s ea64
  have hg67 := up_s eg65
  refine z_dup C dX9_init_49 rfl ?_
  refine z_cI (As := []) (rest := [.ref q61, .ref a]) C (c_X6_init l D A cs tt _ _ (i + 1 + 1 + 2 + 7) q61 ha66 hg67) mi_yX6_init q_137 rfl (by decide +kernel) (by decide) (Nat.le_of_ble_eq_true rfl) (by decide) dX9_init_50 rfl (kV fun M71 ad72 g73 hq74 => ?_)
  obtain ⟨rfl, hA68, hG69, hp70⟩ := hq74
  have e2o : i + 1 + 1 + 2 + 7 = i + 11 := by omega
  have ha75 : zAt ad62 (i) (a) := up_n ea64 ha55 (ne_o (i := i) (c := 0) (d := 11) rfl)
  have ha76 : zAt ad72 (i) (a) := (hA68 (i) (lt_o (i := i) (c := 0) (d := 12) rfl)).trans ha75
  have hg77 := up_n eg65 hg60 (ne_o (i := i) (c := 0) (d := 11) rfl)
  have hg78 := (hG69 (i) (lt_o (i := i) (c := 0) (d := 12) rfl) (ne_o (i := i) (c := 0) (d := 11) rfl)).trans hg77
  refine z_putF (fs' := [.ref q1, .int (zI (0)), .int (zI (-1)), .ref q19, .ref q40, .ref q61, .null, .int (zI (0)), .null, .null, .null, .null, .null, .null]) C (lt_o (i := i) (c := 0) (d := 447) rfl) ha76 hg78 tyX9 tyX9_ok nmX9 rfl inA_X9 5 (by decide) q_354 rfl rfl hnm rfl rfl rfl (Nat.le_of_ble_eq_true rfl) rfl dX9_init_53 (fun g79 eg80 => ?_)
  have hg81 := up_s eg80
  refine z_aload_n C 0 dX9_init_56 rfl ?_
  refine z_new (fs := [.null, .null, .int (zI (0)), .null, .null, .null]) (ci := 8) C tyX6 tyX6_ok rfl inA_X6 q_135 q_136 q_4 (fun j hj => by rcases (show j = 0 ∨ j = 1 ∨ j = 2 ∨ j = 3 ∨ j = 4 ∨ j = 5 by omega) with rfl | rfl | rfl | rfl | rfl | rfl <;> rfl) (by decide) (by decide) dX9_init_57 (fun q82 ad83 g84 ea85 eg86 => ?_)
  have ha87 : zAt ad83 (i + 1 + 1 + 2 + 7 + 436) q82 := up_s ea85
  have hg88 := up_s eg86
  refine z_dup C dX9_init_60 rfl ?_
  refine z_cI (As := []) (rest := [.ref q82, .ref a]) C (c_X6_init l D A cs tt _ _ (i + 1 + 1 + 2 + 7 + 436) q82 ha87 hg88) mi_yX6_init q_137 rfl (by decide +kernel) (by decide) (Nat.le_of_ble_eq_true rfl) (by decide) dX9_init_61 rfl (kV fun M92 ad93 g94 hq95 => ?_)
  obtain ⟨rfl, hA89, hG90, hp91⟩ := hq95
  have e3o : i + 1 + 1 + 2 + 7 + 436 = i + 447 := by omega
  have ha96 : zAt ad83 (i) (a) := up_n ea85 ha76 (ne_o (i := i) (c := 0) (d := 447) rfl)
  have ha97 : zAt ad93 (i) (a) := (hA89 (i) (lt_o (i := i) (c := 0) (d := 448) rfl)).trans ha96
  have hg98 := up_n eg86 hg81 (ne_o (i := i) (c := 0) (d := 447) rfl)
  have hg99 := (hG90 (i) (lt_o (i := i) (c := 0) (d := 448) rfl) (ne_o (i := i) (c := 0) (d := 447) rfl)).trans hg98
  refine z_putF (fs' := [.ref q1, .int (zI (0)), .int (zI (-1)), .ref q19, .ref q40, .ref q61, .ref q82, .int (zI (0)), .null, .null, .null, .null, .null, .null]) C (lt_o (i := i) (c := 0) (d := 883) rfl) ha97 hg99 tyX9 tyX9_ok nmX9 rfl inA_X9 6 (by decide) q_355 rfl rfl hnm rfl rfl rfl (Nat.le_of_ble_eq_true rfl) rfl dX9_init_64 (fun g100 eg101 => ?_)
  have hg102 := up_s eg101
  refine z_aload_n C 0 dX9_init_67 rfl ?_
  refine z_iconst (z := 0) C dX9_init_68 rfl ?_
  refine z_put (fs' := [.ref q1, .int (zI (0)), .int (zI (-1)), .ref q19, .ref q40, .ref q61, .ref q82, .int (zI (0)), .null, .null, .null, .null, .null, .null]) C (lt_o (i := i) (c := 0) (d := 883) rfl) ha97 hg102 tyX9 tyX9_ok nmX9 rfl inA_X9 7 (by decide) q_356 rfl rfl (by decide) rfl (Nat.le_of_ble_eq_true rfl) rfl dX9_init_69 (fun g103 eg104 => ?_)
  have hg105 := up_s eg104
  refine z_aload_n C 0 dX9_init_72 rfl ?_
  refine z_new (fs := [.int (zI (0)), .int (zI (0)), .int (zI (0)), .null, .null, .null, .null, .null, .null]) (ci := 7) C tyX5 tyX5_ok rfl inA_X5 q_73 q_74 q_3 (fun j hj => by rcases (show j = 0 ∨ j = 1 ∨ j = 2 ∨ j = 3 ∨ j = 4 ∨ j = 5 ∨ j = 6 ∨ j = 7 ∨ j = 8 by omega) with rfl | rfl | rfl | rfl | rfl | rfl | rfl | rfl | rfl <;> rfl) (by decide) (by decide) dX9_init_73 (fun q106 ad107 g108 ea109 eg110 => ?_)
  have ha111 : zAt ad107 (i + 1 + 1 + 2 + 7 + 436 + 436) q106 := up_s ea109
  have hg112 := up_s eg110
  refine z_dup C dX9_init_76 rfl ?_
  refine z_cIN (As := []) (rest := [.ref q106, .ref a]) C (c_X5_init l D A cs tt _ _ (i + 1 + 1 + 2 + 7 + 436 + 436) q106 ha111 hg112) mi_yX5_init n_75 rfl (by decide +kernel) (by decide) (Nat.le_of_ble_eq_true rfl) (by decide) dX9_init_77 rfl (kV fun M116 ad117 g118 hq119 => ?_)
  obtain ⟨rfl, hA113, hG114, hp115⟩ := hq119
  have e4o : i + 1 + 1 + 2 + 7 + 436 + 436 = i + 883 := by omega
  have ha120 : zAt ad107 (i) (a) := up_n ea109 ha97 (ne_o (i := i) (c := 0) (d := 883) rfl)
  have ha121 : zAt ad117 (i) (a) := (hA113 (i) (lt_o (i := i) (c := 0) (d := 884) rfl)).trans ha120
  have hg122 := up_n eg110 hg105 (ne_o (i := i) (c := 0) (d := 883) rfl)
  have hg123 := (hG114 (i) (lt_o (i := i) (c := 0) (d := 884) rfl) (ne_o (i := i) (c := 0) (d := 883) rfl)).trans hg122
  refine z_putF (fs' := [.ref q1, .int (zI (0)), .int (zI (-1)), .ref q19, .ref q40, .ref q61, .ref q82, .int (zI (0)), .ref q106, .null, .null, .null, .null, .null]) C (lt_o (i := i) (c := 0) (d := 890) rfl) ha121 hg123 tyX9 tyX9_ok nmX9 rfl inA_X9 8 (by decide) q_357 rfl rfl hnm rfl rfl rfl (Nat.le_of_ble_eq_true rfl) rfl dX9_init_80 (fun g124 eg125 => ?_)
  have hg126 := up_s eg125
  refine z_aload_n C 0 dX9_init_83 rfl ?_
  refine z_new (fs := [.int (zI (0)), .int (zI (0)), .int (zI (0)), .int (zI (0)), .int (zI (0)), .int (zI (0)), .null]) (ci := 10) C tyX8 tyX8_ok rfl inA_X8 q_281 q_142 q_5 (fun j hj => by rcases (show j = 0 ∨ j = 1 ∨ j = 2 ∨ j = 3 ∨ j = 4 ∨ j = 5 ∨ j = 6 by omega) with rfl | rfl | rfl | rfl | rfl | rfl | rfl <;> rfl) (by decide) (by decide) dX9_init_84 (fun q127 ad128 g129 ea130 eg131 => ?_)
  have ha132 : zAt ad128 (i + 1 + 1 + 2 + 7 + 436 + 436 + 7) q127 := up_s ea130
  have hg133 := up_s eg131
  refine z_dup C dX9_init_87 rfl ?_
  refine z_cI (As := []) (rest := [.ref q127, .ref a]) C (c_X8_init l D A cs tt _ _ (i + 1 + 1 + 2 + 7 + 436 + 436 + 7) q127 ha132 hg133) mi_yX8_init q_282 rfl (by decide +kernel) (by decide) (Nat.le_of_ble_eq_true rfl) (by decide) dX9_init_88 rfl (kV fun M137 ad138 g139 hq140 => ?_)
  obtain ⟨rfl, hA134, hG135, hp136⟩ := hq140
  have e5o : i + 1 + 1 + 2 + 7 + 436 + 436 + 7 = i + 890 := by omega
  have ha141 : zAt ad128 (i) (a) := up_n ea130 ha121 (ne_o (i := i) (c := 0) (d := 890) rfl)
  have ha142 : zAt ad138 (i) (a) := (hA134 (i) (lt_o (i := i) (c := 0) (d := 891) rfl)).trans ha141
  have hg143 := up_n eg131 hg126 (ne_o (i := i) (c := 0) (d := 890) rfl)
  have hg144 := (hG135 (i) (lt_o (i := i) (c := 0) (d := 891) rfl) (ne_o (i := i) (c := 0) (d := 890) rfl)).trans hg143
  refine z_putF (fs' := [.ref q1, .int (zI (0)), .int (zI (-1)), .ref q19, .ref q40, .ref q61, .ref q82, .int (zI (0)), .ref q106, .ref q127, .null, .null, .null, .null]) C (lt_o (i := i) (c := 0) (d := 900) rfl) ha142 hg144 tyX9 tyX9_ok nmX9 rfl inA_X9 9 (by decide) q_358 rfl rfl hnm rfl rfl rfl (Nat.le_of_ble_eq_true rfl) rfl dX9_init_91 (fun g145 eg146 => ?_)
  have hg147 := up_s eg146
  refine z_aload_n C 0 dX9_init_94 rfl ?_
  refine z_new (fs := [.int (zI (0)), .int (zI (0)), .int (zI (0)), .int (zI (0)), .int (zI (0)), .int (zI (0)), .null]) (ci := 10) C tyX8 tyX8_ok rfl inA_X8 q_281 q_142 q_5 (fun j hj => by rcases (show j = 0 ∨ j = 1 ∨ j = 2 ∨ j = 3 ∨ j = 4 ∨ j = 5 ∨ j = 6 by omega) with rfl | rfl | rfl | rfl | rfl | rfl | rfl <;> rfl) (by decide) (by decide) dX9_init_95 (fun q148 ad149 g150 ea151 eg152 => ?_)
  have ha153 : zAt ad149 (i + 1 + 1 + 2 + 7 + 436 + 436 + 7 + 10) q148 := up_s ea151
  have hg154 := up_s eg152
  refine z_dup C dX9_init_98 rfl ?_
  refine z_cI (As := []) (rest := [.ref q148, .ref a]) C (c_X8_init l D A cs tt _ _ (i + 1 + 1 + 2 + 7 + 436 + 436 + 7 + 10) q148 ha153 hg154) mi_yX8_init q_282 rfl (by decide +kernel) (by decide) (Nat.le_of_ble_eq_true rfl) (by decide) dX9_init_99 rfl (kV fun M158 ad159 g160 hq161 => ?_)
  obtain ⟨rfl, hA155, hG156, hp157⟩ := hq161
  have e6o : i + 1 + 1 + 2 + 7 + 436 + 436 + 7 + 10 = i + 900 := by omega
  have ha162 : zAt ad149 (i) (a) := up_n ea151 ha142 (ne_o (i := i) (c := 0) (d := 900) rfl)
  have ha163 : zAt ad159 (i) (a) := (hA155 (i) (lt_o (i := i) (c := 0) (d := 901) rfl)).trans ha162
  have hg164 := up_n eg152 hg147 (ne_o (i := i) (c := 0) (d := 900) rfl)
  have hg165 := (hG156 (i) (lt_o (i := i) (c := 0) (d := 901) rfl) (ne_o (i := i) (c := 0) (d := 900) rfl)).trans hg164
  refine z_putF (fs' := [.ref q1, .int (zI (0)), .int (zI (-1)), .ref q19, .ref q40, .ref q61, .ref q82, .int (zI (0)), .ref q106, .ref q127, .ref q148, .null, .null, .null]) C (lt_o (i := i) (c := 0) (d := 910) rfl) ha163 hg165 tyX9 tyX9_ok nmX9 rfl inA_X9 10 (by decide) q_359 rfl rfl hnm rfl rfl rfl (Nat.le_of_ble_eq_true rfl) rfl dX9_init_102 (fun g166 eg167 => ?_)
  have hg168 := up_s eg167
  refine z_aload_n C 0 dX9_init_105 rfl ?_
  refine z_new (fs := [.int (zI (0)), .int (zI (0)), .null, .null]) (ci := 2) C tyX0 tyX0_ok rfl inA_X0 q_283 q_284 q_9 (fun j hj => by rcases (show j = 0 ∨ j = 1 ∨ j = 2 ∨ j = 3 by omega) with rfl | rfl | rfl | rfl <;> rfl) (by decide) (by decide) dX9_init_106 (fun q169 ad170 g171 ea172 eg173 => ?_)
  have ha174 : zAt ad170 (i + 1 + 1 + 2 + 7 + 436 + 436 + 7 + 10 + 10) q169 := up_s ea172
  have hg175 := up_s eg173
  refine z_dup C dX9_init_109 rfl ?_
  refine z_cIN (As := []) (rest := [.ref q169, .ref a]) C (c_X0_init l D A cs tt _ _ (i + 1 + 1 + 2 + 7 + 436 + 436 + 7 + 10 + 10) q169 ha174 hg175) mi_yX0_init n_285 rfl (by decide +kernel) (by decide) (Nat.le_of_ble_eq_true rfl) (by decide) dX9_init_110 rfl (kV fun M179 ad180 g181 hq182 => ?_)
  obtain ⟨rfl, hA176, hG177, hp178⟩ := hq182
  have e7o : i + 1 + 1 + 2 + 7 + 436 + 436 + 7 + 10 + 10 = i + 910 := by omega
  have ha183 : zAt ad170 (i) (a) := up_n ea172 ha163 (ne_o (i := i) (c := 0) (d := 910) rfl)
  have ha184 : zAt ad180 (i) (a) := (hA176 (i) (lt_o (i := i) (c := 0) (d := 911) rfl)).trans ha183
  have hg185 := up_n eg173 hg168 (ne_o (i := i) (c := 0) (d := 910) rfl)
  have hg186 := (hG177 (i) (lt_o (i := i) (c := 0) (d := 911) rfl) (ne_o (i := i) (c := 0) (d := 910) rfl)).trans hg185
  refine z_putF (fs' := [.ref q1, .int (zI (0)), .int (zI (-1)), .ref q19, .ref q40, .ref q61, .ref q82, .int (zI (0)), .ref q106, .ref q127, .ref q148, .ref q169, .null, .null]) C (lt_o (i := i) (c := 0) (d := 917) rfl) ha184 hg186 tyX9 tyX9_ok nmX9 rfl inA_X9 11 (by decide) q_360 rfl rfl hnm rfl rfl rfl (Nat.le_of_ble_eq_true rfl) rfl dX9_init_113 (fun g187 eg188 => ?_)
  have hg189 := up_s eg188
  refine z_aload_n C 0 dX9_init_116 rfl ?_
  refine z_new (fs := [.null]) (ci := 3) C tyX1 tyX1_ok rfl inA_X1 q_307 q_308 q_10 (fun j hj => by rcases (show j = 0 by omega) with rfl <;> rfl) (by decide) (by decide) dX9_init_117 (fun q190 ad191 g192 ea193 eg194 => ?_)
  have ha195 : zAt ad191 (i + 1 + 1 + 2 + 7 + 436 + 436 + 7 + 10 + 10 + 7) q190 := up_s ea193
  have hg196 := up_s eg194
  refine z_dup C dX9_init_120 rfl ?_
  refine z_cIN (As := []) (rest := [.ref q190, .ref a]) C (c_X1_init l D A cs tt _ _ (i + 1 + 1 + 2 + 7 + 436 + 436 + 7 + 10 + 10 + 7) q190 ha195 hg196) mi_yX1_init n_309 rfl (by decide +kernel) (by decide) (Nat.le_of_ble_eq_true rfl) (by decide) dX9_init_121 rfl (kV fun M200 ad201 g202 hq203 => ?_)
  obtain ⟨rfl, hA197, hG198, hp199⟩ := hq203
  have e8o : i + 1 + 1 + 2 + 7 + 436 + 436 + 7 + 10 + 10 + 7 = i + 917 := by omega
  have ha204 : zAt ad191 (i) (a) := up_n ea193 ha184 (ne_o (i := i) (c := 0) (d := 917) rfl)
  have ha205 : zAt ad201 (i) (a) := (hA197 (i) (lt_o (i := i) (c := 0) (d := 918) rfl)).trans ha204
  have hg206 := up_n eg194 hg189 (ne_o (i := i) (c := 0) (d := 917) rfl)
  have hg207 := (hG198 (i) (lt_o (i := i) (c := 0) (d := 918) rfl) (ne_o (i := i) (c := 0) (d := 917) rfl)).trans hg206
  refine z_putF (fs' := [.ref q1, .int (zI (0)), .int (zI (-1)), .ref q19, .ref q40, .ref q61, .ref q82, .int (zI (0)), .ref q106, .ref q127, .ref q148, .ref q169, .ref q190, .null]) C (lt_o (i := i) (c := 0) (d := 919) rfl) ha205 hg207 tyX9 tyX9_ok nmX9 rfl inA_X9 12 (by decide) q_361 rfl rfl hnm rfl rfl rfl (Nat.le_of_ble_eq_true rfl) rfl dX9_init_124 (fun g208 eg209 => ?_)
  have hg210 := up_s eg209
  refine z_aload_n C 0 dX9_init_127 rfl ?_
  refine z_new (fs := [.null, .int (zI (0)), .int (zI (0)), .int (zI (0))]) (ci := 1) C tyJ4 tyJ4_ok rfl inA_J4 q_317 q_318 q_12 (fun j hj => by rcases (show j = 0 ∨ j = 1 ∨ j = 2 ∨ j = 3 by omega) with rfl | rfl | rfl | rfl <;> rfl) (by decide) (by decide) dX9_init_128 (fun q211 ad212 g213 ea214 eg215 => ?_)
  have ha216 : zAt ad212 (i + 1 + 1 + 2 + 7 + 436 + 436 + 7 + 10 + 10 + 7 + 2) q211 := up_s ea214
  have hg217 := up_s eg215
  refine z_dup C dX9_init_131 rfl ?_
  refine z_cI (As := []) (rest := [.ref q211, .ref a]) C (c_J4_init_da8c8 l D A cs tt _ _ (i + 1 + 1 + 2 + 7 + 436 + 436 + 7 + 10 + 10 + 7 + 2) q211 ha216 hg217) mi_yJ4_init_da8c8 q_319 rfl (by decide +kernel) (by decide) (Nat.le_of_ble_eq_true rfl) (by decide) dX9_init_132 rfl (kV fun M221 ad222 g223 hq224 => ?_)
  obtain ⟨rfl, hA218, hG219, hp220⟩ := hq224
  have e9o : i + 1 + 1 + 2 + 7 + 436 + 436 + 7 + 10 + 10 + 7 + 2 = i + 919 := by omega
  have ha225 : zAt ad212 (i) (a) := up_n ea214 ha205 (ne_o (i := i) (c := 0) (d := 919) rfl)
  have ha226 : zAt ad222 (i) (a) := (hA218 (i) (lt_o (i := i) (c := 0) (d := 920) rfl)).trans ha225
  have hg227 := up_n eg215 hg210 (ne_o (i := i) (c := 0) (d := 919) rfl)
  have hg228 := (hG219 (i) (lt_o (i := i) (c := 0) (d := 920) rfl) (ne_o (i := i) (c := 0) (d := 919) rfl)).trans hg227
  refine z_putF (fs' := [.ref q1, .int (zI (0)), .int (zI (-1)), .ref q19, .ref q40, .ref q61, .ref q82, .int (zI (0)), .ref q106, .ref q127, .ref q148, .ref q169, .ref q190, .ref q211]) C (lt_o (i := i) (c := 0) (d := 921) rfl) ha226 hg228 tyX9 tyX9_ok nmX9 rfl inA_X9 13 (by decide) q_362 rfl rfl hnm rfl rfl rfl (Nat.le_of_ble_eq_true rfl) rfl dX9_init_135 (fun g229 eg230 => ?_)
  have hg231 := up_s eg230
  have ha232 : zAt ad20 (i + 1) (q1) := up_n ea22 ha6 (ne_o (i := i) (c := 1) (d := 2) rfl)
  have ha233 : zAt ad30 (i + 1) (q1) := (hA26 (i + 1) (lt_o (i := i) (c := 1) (d := 3) rfl)).trans ha232
  have ha234 : zAt ad41 (i + 1) (q1) := up_n ea43 ha233 (ne_o (i := i) (c := 1) (d := 4) rfl)
  have ha235 : zAt ad51 (i + 1) (q1) := (hA47 (i + 1) (lt_o (i := i) (c := 1) (d := 5) rfl)).trans ha234
  have ha236 : zAt ad62 (i + 1) (q1) := up_n ea64 ha235 (ne_o (i := i) (c := 1) (d := 11) rfl)
  have ha237 : zAt ad72 (i + 1) (q1) := (hA68 (i + 1) (lt_o (i := i) (c := 1) (d := 12) rfl)).trans ha236
  have ha238 : zAt ad83 (i + 1) (q1) := up_n ea85 ha237 (ne_o (i := i) (c := 1) (d := 447) rfl)
  have ha239 : zAt ad93 (i + 1) (q1) := (hA89 (i + 1) (lt_o (i := i) (c := 1) (d := 448) rfl)).trans ha238
  have ha240 : zAt ad107 (i + 1) (q1) := up_n ea109 ha239 (ne_o (i := i) (c := 1) (d := 883) rfl)
  have ha241 : zAt ad117 (i + 1) (q1) := (hA113 (i + 1) (lt_o (i := i) (c := 1) (d := 884) rfl)).trans ha240
  have ha242 : zAt ad128 (i + 1) (q1) := up_n ea130 ha241 (ne_o (i := i) (c := 1) (d := 890) rfl)
  have ha243 : zAt ad138 (i + 1) (q1) := (hA134 (i + 1) (lt_o (i := i) (c := 1) (d := 891) rfl)).trans ha242
  have ha244 : zAt ad149 (i + 1) (q1) := up_n ea151 ha243 (ne_o (i := i) (c := 1) (d := 900) rfl)
  have ha245 : zAt ad159 (i + 1) (q1) := (hA155 (i + 1) (lt_o (i := i) (c := 1) (d := 901) rfl)).trans ha244
  have ha246 : zAt ad170 (i + 1) (q1) := up_n ea172 ha245 (ne_o (i := i) (c := 1) (d := 910) rfl)
  have ha247 : zAt ad180 (i + 1) (q1) := (hA176 (i + 1) (lt_o (i := i) (c := 1) (d := 911) rfl)).trans ha246
  have ha248 : zAt ad191 (i + 1) (q1) := up_n ea193 ha247 (ne_o (i := i) (c := 1) (d := 917) rfl)
  have ha249 : zAt ad201 (i + 1) (q1) := (hA197 (i + 1) (lt_o (i := i) (c := 1) (d := 918) rfl)).trans ha248
  have ha250 : zAt ad212 (i + 1) (q1) := up_n ea214 ha249 (ne_o (i := i) (c := 1) (d := 919) rfl)
  have ha251 : zAt ad222 (i + 1) (q1) := (hA218 (i + 1) (lt_o (i := i) (c := 1) (d := 920) rfl)).trans ha250
  have ha252 : zAt ad30 (i + 1 + 1) (q19) := (hA26 (i + 1 + 1) (lt_o (i := i) (c := 2) (d := 3) rfl)).trans ha24
  have ha253 : zAt ad41 (i + 1 + 1) (q19) := up_n ea43 ha252 (ne_o (i := i) (c := 2) (d := 4) rfl)
  have ha254 : zAt ad51 (i + 1 + 1) (q19) := (hA47 (i + 1 + 1) (lt_o (i := i) (c := 2) (d := 5) rfl)).trans ha253
  have ha255 : zAt ad62 (i + 1 + 1) (q19) := up_n ea64 ha254 (ne_o (i := i) (c := 2) (d := 11) rfl)
  have ha256 : zAt ad72 (i + 1 + 1) (q19) := (hA68 (i + 1 + 1) (lt_o (i := i) (c := 2) (d := 12) rfl)).trans ha255
  have ha257 : zAt ad83 (i + 1 + 1) (q19) := up_n ea85 ha256 (ne_o (i := i) (c := 2) (d := 447) rfl)
  have ha258 : zAt ad93 (i + 1 + 1) (q19) := (hA89 (i + 1 + 1) (lt_o (i := i) (c := 2) (d := 448) rfl)).trans ha257
  have ha259 : zAt ad107 (i + 1 + 1) (q19) := up_n ea109 ha258 (ne_o (i := i) (c := 2) (d := 883) rfl)
  have ha260 : zAt ad117 (i + 1 + 1) (q19) := (hA113 (i + 1 + 1) (lt_o (i := i) (c := 2) (d := 884) rfl)).trans ha259
  have ha261 : zAt ad128 (i + 1 + 1) (q19) := up_n ea130 ha260 (ne_o (i := i) (c := 2) (d := 890) rfl)
  have ha262 : zAt ad138 (i + 1 + 1) (q19) := (hA134 (i + 1 + 1) (lt_o (i := i) (c := 2) (d := 891) rfl)).trans ha261
  have ha263 : zAt ad149 (i + 1 + 1) (q19) := up_n ea151 ha262 (ne_o (i := i) (c := 2) (d := 900) rfl)
  have ha264 : zAt ad159 (i + 1 + 1) (q19) := (hA155 (i + 1 + 1) (lt_o (i := i) (c := 2) (d := 901) rfl)).trans ha263
  have ha265 : zAt ad170 (i + 1 + 1) (q19) := up_n ea172 ha264 (ne_o (i := i) (c := 2) (d := 910) rfl)
  have ha266 : zAt ad180 (i + 1 + 1) (q19) := (hA176 (i + 1 + 1) (lt_o (i := i) (c := 2) (d := 911) rfl)).trans ha265
  have ha267 : zAt ad191 (i + 1 + 1) (q19) := up_n ea193 ha266 (ne_o (i := i) (c := 2) (d := 917) rfl)
  have ha268 : zAt ad201 (i + 1 + 1) (q19) := (hA197 (i + 1 + 1) (lt_o (i := i) (c := 2) (d := 918) rfl)).trans ha267
  have ha269 : zAt ad212 (i + 1 + 1) (q19) := up_n ea214 ha268 (ne_o (i := i) (c := 2) (d := 919) rfl)
  have ha270 : zAt ad222 (i + 1 + 1) (q19) := (hA218 (i + 1 + 1) (lt_o (i := i) (c := 2) (d := 920) rfl)).trans ha269
  have ha271 : zAt ad51 (i + 1 + 1 + 2) (q40) := (hA47 (i + 1 + 1 + 2) (lt_o (i := i) (c := 4) (d := 5) rfl)).trans ha45
  have ha272 : zAt ad62 (i + 1 + 1 + 2) (q40) := up_n ea64 ha271 (ne_o (i := i) (c := 4) (d := 11) rfl)
  have ha273 : zAt ad72 (i + 1 + 1 + 2) (q40) := (hA68 (i + 1 + 1 + 2) (lt_o (i := i) (c := 4) (d := 12) rfl)).trans ha272
  have ha274 : zAt ad83 (i + 1 + 1 + 2) (q40) := up_n ea85 ha273 (ne_o (i := i) (c := 4) (d := 447) rfl)
  have ha275 : zAt ad93 (i + 1 + 1 + 2) (q40) := (hA89 (i + 1 + 1 + 2) (lt_o (i := i) (c := 4) (d := 448) rfl)).trans ha274
  have ha276 : zAt ad107 (i + 1 + 1 + 2) (q40) := up_n ea109 ha275 (ne_o (i := i) (c := 4) (d := 883) rfl)
  have ha277 : zAt ad117 (i + 1 + 1 + 2) (q40) := (hA113 (i + 1 + 1 + 2) (lt_o (i := i) (c := 4) (d := 884) rfl)).trans ha276
  have ha278 : zAt ad128 (i + 1 + 1 + 2) (q40) := up_n ea130 ha277 (ne_o (i := i) (c := 4) (d := 890) rfl)
  have ha279 : zAt ad138 (i + 1 + 1 + 2) (q40) := (hA134 (i + 1 + 1 + 2) (lt_o (i := i) (c := 4) (d := 891) rfl)).trans ha278
  have ha280 : zAt ad149 (i + 1 + 1 + 2) (q40) := up_n ea151 ha279 (ne_o (i := i) (c := 4) (d := 900) rfl)
  have ha281 : zAt ad159 (i + 1 + 1 + 2) (q40) := (hA155 (i + 1 + 1 + 2) (lt_o (i := i) (c := 4) (d := 901) rfl)).trans ha280
  have ha282 : zAt ad170 (i + 1 + 1 + 2) (q40) := up_n ea172 ha281 (ne_o (i := i) (c := 4) (d := 910) rfl)
  have ha283 : zAt ad180 (i + 1 + 1 + 2) (q40) := (hA176 (i + 1 + 1 + 2) (lt_o (i := i) (c := 4) (d := 911) rfl)).trans ha282
  have ha284 : zAt ad191 (i + 1 + 1 + 2) (q40) := up_n ea193 ha283 (ne_o (i := i) (c := 4) (d := 917) rfl)
  have ha285 : zAt ad201 (i + 1 + 1 + 2) (q40) := (hA197 (i + 1 + 1 + 2) (lt_o (i := i) (c := 4) (d := 918) rfl)).trans ha284
  have ha286 : zAt ad212 (i + 1 + 1 + 2) (q40) := up_n ea214 ha285 (ne_o (i := i) (c := 4) (d := 919) rfl)
  have ha287 : zAt ad222 (i + 1 + 1 + 2) (q40) := (hA218 (i + 1 + 1 + 2) (lt_o (i := i) (c := 4) (d := 920) rfl)).trans ha286
  have ha288 : zAt ad72 (i + 1 + 1 + 2 + 7) (q61) := (hA68 (i + 1 + 1 + 2 + 7) (lt_o (i := i) (c := 11) (d := 12) rfl)).trans ha66
  have ha289 : zAt ad83 (i + 1 + 1 + 2 + 7) (q61) := up_n ea85 ha288 (ne_o (i := i) (c := 11) (d := 447) rfl)
  have ha290 : zAt ad93 (i + 1 + 1 + 2 + 7) (q61) := (hA89 (i + 1 + 1 + 2 + 7) (lt_o (i := i) (c := 11) (d := 448) rfl)).trans ha289
  have ha291 : zAt ad107 (i + 1 + 1 + 2 + 7) (q61) := up_n ea109 ha290 (ne_o (i := i) (c := 11) (d := 883) rfl)
  have ha292 : zAt ad117 (i + 1 + 1 + 2 + 7) (q61) := (hA113 (i + 1 + 1 + 2 + 7) (lt_o (i := i) (c := 11) (d := 884) rfl)).trans ha291
  have ha293 : zAt ad128 (i + 1 + 1 + 2 + 7) (q61) := up_n ea130 ha292 (ne_o (i := i) (c := 11) (d := 890) rfl)
  have ha294 : zAt ad138 (i + 1 + 1 + 2 + 7) (q61) := (hA134 (i + 1 + 1 + 2 + 7) (lt_o (i := i) (c := 11) (d := 891) rfl)).trans ha293
  have ha295 : zAt ad149 (i + 1 + 1 + 2 + 7) (q61) := up_n ea151 ha294 (ne_o (i := i) (c := 11) (d := 900) rfl)
  have ha296 : zAt ad159 (i + 1 + 1 + 2 + 7) (q61) := (hA155 (i + 1 + 1 + 2 + 7) (lt_o (i := i) (c := 11) (d := 901) rfl)).trans ha295
  have ha297 : zAt ad170 (i + 1 + 1 + 2 + 7) (q61) := up_n ea172 ha296 (ne_o (i := i) (c := 11) (d := 910) rfl)
  have ha298 : zAt ad180 (i + 1 + 1 + 2 + 7) (q61) := (hA176 (i + 1 + 1 + 2 + 7) (lt_o (i := i) (c := 11) (d := 911) rfl)).trans ha297
  have ha299 : zAt ad191 (i + 1 + 1 + 2 + 7) (q61) := up_n ea193 ha298 (ne_o (i := i) (c := 11) (d := 917) rfl)
  have ha300 : zAt ad201 (i + 1 + 1 + 2 + 7) (q61) := (hA197 (i + 1 + 1 + 2 + 7) (lt_o (i := i) (c := 11) (d := 918) rfl)).trans ha299
  have ha301 : zAt ad212 (i + 1 + 1 + 2 + 7) (q61) := up_n ea214 ha300 (ne_o (i := i) (c := 11) (d := 919) rfl)
  have ha302 : zAt ad222 (i + 1 + 1 + 2 + 7) (q61) := (hA218 (i + 1 + 1 + 2 + 7) (lt_o (i := i) (c := 11) (d := 920) rfl)).trans ha301
  have ha303 : zAt ad93 (i + 1 + 1 + 2 + 7 + 436) (q82) := (hA89 (i + 1 + 1 + 2 + 7 + 436) (lt_o (i := i) (c := 447) (d := 448) rfl)).trans ha87
  have ha304 : zAt ad107 (i + 1 + 1 + 2 + 7 + 436) (q82) := up_n ea109 ha303 (ne_o (i := i) (c := 447) (d := 883) rfl)
  have ha305 : zAt ad117 (i + 1 + 1 + 2 + 7 + 436) (q82) := (hA113 (i + 1 + 1 + 2 + 7 + 436) (lt_o (i := i) (c := 447) (d := 884) rfl)).trans ha304
  have ha306 : zAt ad128 (i + 1 + 1 + 2 + 7 + 436) (q82) := up_n ea130 ha305 (ne_o (i := i) (c := 447) (d := 890) rfl)
  have ha307 : zAt ad138 (i + 1 + 1 + 2 + 7 + 436) (q82) := (hA134 (i + 1 + 1 + 2 + 7 + 436) (lt_o (i := i) (c := 447) (d := 891) rfl)).trans ha306
  have ha308 : zAt ad149 (i + 1 + 1 + 2 + 7 + 436) (q82) := up_n ea151 ha307 (ne_o (i := i) (c := 447) (d := 900) rfl)
  have ha309 : zAt ad159 (i + 1 + 1 + 2 + 7 + 436) (q82) := (hA155 (i + 1 + 1 + 2 + 7 + 436) (lt_o (i := i) (c := 447) (d := 901) rfl)).trans ha308
  have ha310 : zAt ad170 (i + 1 + 1 + 2 + 7 + 436) (q82) := up_n ea172 ha309 (ne_o (i := i) (c := 447) (d := 910) rfl)
  have ha311 : zAt ad180 (i + 1 + 1 + 2 + 7 + 436) (q82) := (hA176 (i + 1 + 1 + 2 + 7 + 436) (lt_o (i := i) (c := 447) (d := 911) rfl)).trans ha310
  have ha312 : zAt ad191 (i + 1 + 1 + 2 + 7 + 436) (q82) := up_n ea193 ha311 (ne_o (i := i) (c := 447) (d := 917) rfl)
  have ha313 : zAt ad201 (i + 1 + 1 + 2 + 7 + 436) (q82) := (hA197 (i + 1 + 1 + 2 + 7 + 436) (lt_o (i := i) (c := 447) (d := 918) rfl)).trans ha312
  have ha314 : zAt ad212 (i + 1 + 1 + 2 + 7 + 436) (q82) := up_n ea214 ha313 (ne_o (i := i) (c := 447) (d := 919) rfl)
  have ha315 : zAt ad222 (i + 1 + 1 + 2 + 7 + 436) (q82) := (hA218 (i + 1 + 1 + 2 + 7 + 436) (lt_o (i := i) (c := 447) (d := 920) rfl)).trans ha314
  have ha316 : zAt ad117 (i + 1 + 1 + 2 + 7 + 436 + 436) (q106) := (hA113 (i + 1 + 1 + 2 + 7 + 436 + 436) (lt_o (i := i) (c := 883) (d := 884) rfl)).trans ha111
  have ha317 : zAt ad128 (i + 1 + 1 + 2 + 7 + 436 + 436) (q106) := up_n ea130 ha316 (ne_o (i := i) (c := 883) (d := 890) rfl)
  have ha318 : zAt ad138 (i + 1 + 1 + 2 + 7 + 436 + 436) (q106) := (hA134 (i + 1 + 1 + 2 + 7 + 436 + 436) (lt_o (i := i) (c := 883) (d := 891) rfl)).trans ha317
  have ha319 : zAt ad149 (i + 1 + 1 + 2 + 7 + 436 + 436) (q106) := up_n ea151 ha318 (ne_o (i := i) (c := 883) (d := 900) rfl)
  have ha320 : zAt ad159 (i + 1 + 1 + 2 + 7 + 436 + 436) (q106) := (hA155 (i + 1 + 1 + 2 + 7 + 436 + 436) (lt_o (i := i) (c := 883) (d := 901) rfl)).trans ha319
  have ha321 : zAt ad170 (i + 1 + 1 + 2 + 7 + 436 + 436) (q106) := up_n ea172 ha320 (ne_o (i := i) (c := 883) (d := 910) rfl)
  have ha322 : zAt ad180 (i + 1 + 1 + 2 + 7 + 436 + 436) (q106) := (hA176 (i + 1 + 1 + 2 + 7 + 436 + 436) (lt_o (i := i) (c := 883) (d := 911) rfl)).trans ha321
  have ha323 : zAt ad191 (i + 1 + 1 + 2 + 7 + 436 + 436) (q106) := up_n ea193 ha322 (ne_o (i := i) (c := 883) (d := 917) rfl)
  have ha324 : zAt ad201 (i + 1 + 1 + 2 + 7 + 436 + 436) (q106) := (hA197 (i + 1 + 1 + 2 + 7 + 436 + 436) (lt_o (i := i) (c := 883) (d := 918) rfl)).trans ha323
  have ha325 : zAt ad212 (i + 1 + 1 + 2 + 7 + 436 + 436) (q106) := up_n ea214 ha324 (ne_o (i := i) (c := 883) (d := 919) rfl)
  have ha326 : zAt ad222 (i + 1 + 1 + 2 + 7 + 436 + 436) (q106) := (hA218 (i + 1 + 1 + 2 + 7 + 436 + 436) (lt_o (i := i) (c := 883) (d := 920) rfl)).trans ha325
  have ha327 : zAt ad138 (i + 1 + 1 + 2 + 7 + 436 + 436 + 7) (q127) := (hA134 (i + 1 + 1 + 2 + 7 + 436 + 436 + 7) (lt_o (i := i) (c := 890) (d := 891) rfl)).trans ha132
  have ha328 : zAt ad149 (i + 1 + 1 + 2 + 7 + 436 + 436 + 7) (q127) := up_n ea151 ha327 (ne_o (i := i) (c := 890) (d := 900) rfl)
  have ha329 : zAt ad159 (i + 1 + 1 + 2 + 7 + 436 + 436 + 7) (q127) := (hA155 (i + 1 + 1 + 2 + 7 + 436 + 436 + 7) (lt_o (i := i) (c := 890) (d := 901) rfl)).trans ha328
  have ha330 : zAt ad170 (i + 1 + 1 + 2 + 7 + 436 + 436 + 7) (q127) := up_n ea172 ha329 (ne_o (i := i) (c := 890) (d := 910) rfl)
  have ha331 : zAt ad180 (i + 1 + 1 + 2 + 7 + 436 + 436 + 7) (q127) := (hA176 (i + 1 + 1 + 2 + 7 + 436 + 436 + 7) (lt_o (i := i) (c := 890) (d := 911) rfl)).trans ha330
  have ha332 : zAt ad191 (i + 1 + 1 + 2 + 7 + 436 + 436 + 7) (q127) := up_n ea193 ha331 (ne_o (i := i) (c := 890) (d := 917) rfl)
  have ha333 : zAt ad201 (i + 1 + 1 + 2 + 7 + 436 + 436 + 7) (q127) := (hA197 (i + 1 + 1 + 2 + 7 + 436 + 436 + 7) (lt_o (i := i) (c := 890) (d := 918) rfl)).trans ha332
  have ha334 : zAt ad212 (i + 1 + 1 + 2 + 7 + 436 + 436 + 7) (q127) := up_n ea214 ha333 (ne_o (i := i) (c := 890) (d := 919) rfl)
  have ha335 : zAt ad222 (i + 1 + 1 + 2 + 7 + 436 + 436 + 7) (q127) := (hA218 (i + 1 + 1 + 2 + 7 + 436 + 436 + 7) (lt_o (i := i) (c := 890) (d := 920) rfl)).trans ha334
  have ha336 : zAt ad159 (i + 1 + 1 + 2 + 7 + 436 + 436 + 7 + 10) (q148) := (hA155 (i + 1 + 1 + 2 + 7 + 436 + 436 + 7 + 10) (lt_o (i := i) (c := 900) (d := 901) rfl)).trans ha153
  have ha337 : zAt ad170 (i + 1 + 1 + 2 + 7 + 436 + 436 + 7 + 10) (q148) := up_n ea172 ha336 (ne_o (i := i) (c := 900) (d := 910) rfl)
  have ha338 : zAt ad180 (i + 1 + 1 + 2 + 7 + 436 + 436 + 7 + 10) (q148) := (hA176 (i + 1 + 1 + 2 + 7 + 436 + 436 + 7 + 10) (lt_o (i := i) (c := 900) (d := 911) rfl)).trans ha337
  have ha339 : zAt ad191 (i + 1 + 1 + 2 + 7 + 436 + 436 + 7 + 10) (q148) := up_n ea193 ha338 (ne_o (i := i) (c := 900) (d := 917) rfl)
  have ha340 : zAt ad201 (i + 1 + 1 + 2 + 7 + 436 + 436 + 7 + 10) (q148) := (hA197 (i + 1 + 1 + 2 + 7 + 436 + 436 + 7 + 10) (lt_o (i := i) (c := 900) (d := 918) rfl)).trans ha339
  have ha341 : zAt ad212 (i + 1 + 1 + 2 + 7 + 436 + 436 + 7 + 10) (q148) := up_n ea214 ha340 (ne_o (i := i) (c := 900) (d := 919) rfl)
  have ha342 : zAt ad222 (i + 1 + 1 + 2 + 7 + 436 + 436 + 7 + 10) (q148) := (hA218 (i + 1 + 1 + 2 + 7 + 436 + 436 + 7 + 10) (lt_o (i := i) (c := 900) (d := 920) rfl)).trans ha341
  have ha343 : zAt ad180 (i + 1 + 1 + 2 + 7 + 436 + 436 + 7 + 10 + 10) (q169) := (hA176 (i + 1 + 1 + 2 + 7 + 436 + 436 + 7 + 10 + 10) (lt_o (i := i) (c := 910) (d := 911) rfl)).trans ha174
  have ha344 : zAt ad191 (i + 1 + 1 + 2 + 7 + 436 + 436 + 7 + 10 + 10) (q169) := up_n ea193 ha343 (ne_o (i := i) (c := 910) (d := 917) rfl)
  have ha345 : zAt ad201 (i + 1 + 1 + 2 + 7 + 436 + 436 + 7 + 10 + 10) (q169) := (hA197 (i + 1 + 1 + 2 + 7 + 436 + 436 + 7 + 10 + 10) (lt_o (i := i) (c := 910) (d := 918) rfl)).trans ha344
  have ha346 : zAt ad212 (i + 1 + 1 + 2 + 7 + 436 + 436 + 7 + 10 + 10) (q169) := up_n ea214 ha345 (ne_o (i := i) (c := 910) (d := 919) rfl)
  have ha347 : zAt ad222 (i + 1 + 1 + 2 + 7 + 436 + 436 + 7 + 10 + 10) (q169) := (hA218 (i + 1 + 1 + 2 + 7 + 436 + 436 + 7 + 10 + 10) (lt_o (i := i) (c := 910) (d := 920) rfl)).trans ha346
  have ha348 : zAt ad201 (i + 1 + 1 + 2 + 7 + 436 + 436 + 7 + 10 + 10 + 7) (q190) := (hA197 (i + 1 + 1 + 2 + 7 + 436 + 436 + 7 + 10 + 10 + 7) (lt_o (i := i) (c := 917) (d := 918) rfl)).trans ha195
  have ha349 : zAt ad212 (i + 1 + 1 + 2 + 7 + 436 + 436 + 7 + 10 + 10 + 7) (q190) := up_n ea214 ha348 (ne_o (i := i) (c := 917) (d := 919) rfl)
  have ha350 : zAt ad222 (i + 1 + 1 + 2 + 7 + 436 + 436 + 7 + 10 + 10 + 7) (q190) := (hA218 (i + 1 + 1 + 2 + 7 + 436 + 436 + 7 + 10 + 10 + 7) (lt_o (i := i) (c := 917) (d := 920) rfl)).trans ha349
  have ha351 : zAt ad222 (i + 1 + 1 + 2 + 7 + 436 + 436 + 7 + 10 + 10 + 7 + 2) (q211) := (hA218 (i + 1 + 1 + 2 + 7 + 436 + 436 + 7 + 10 + 10 + 7 + 2) (lt_o (i := i) (c := 919) (d := 920) rfl)).trans ha216
  have hg352 := up_n eg11 hg7 (ne_o (i := i) (c := 1) (d := 0) rfl)
  have hg353 := up_n eg14 hg352 (ne_o (i := i) (c := 1) (d := 0) rfl)
  have hg354 := up_n eg17 hg353 (ne_o (i := i) (c := 1) (d := 0) rfl)
  have hg355 := up_n eg23 hg354 (ne_o (i := i) (c := 1) (d := 2) rfl)
  have hg356 := (hG27 (i + 1) (lt_o (i := i) (c := 1) (d := 3) rfl) (ne_o (i := i) (c := 1) (d := 2) rfl)).trans hg355
  have hg357 := up_n eg38 hg356 (ne_o (i := i) (c := 1) (d := 0) rfl)
  have hg358 := up_n eg44 hg357 (ne_o (i := i) (c := 1) (d := 4) rfl)
  have hg359 := (hG48 (i + 1) (lt_o (i := i) (c := 1) (d := 5) rfl) (ne_o (i := i) (c := 1) (d := 4) rfl)).trans hg358
  have hg360 := up_n eg59 hg359 (ne_o (i := i) (c := 1) (d := 0) rfl)
  have hg361 := up_n eg65 hg360 (ne_o (i := i) (c := 1) (d := 11) rfl)
  have hg362 := (hG69 (i + 1) (lt_o (i := i) (c := 1) (d := 12) rfl) (ne_o (i := i) (c := 1) (d := 11) rfl)).trans hg361
  have hg363 := up_n eg80 hg362 (ne_o (i := i) (c := 1) (d := 0) rfl)
  have hg364 := up_n eg86 hg363 (ne_o (i := i) (c := 1) (d := 447) rfl)
  have hg365 := (hG90 (i + 1) (lt_o (i := i) (c := 1) (d := 448) rfl) (ne_o (i := i) (c := 1) (d := 447) rfl)).trans hg364
  have hg366 := up_n eg101 hg365 (ne_o (i := i) (c := 1) (d := 0) rfl)
  have hg367 := up_n eg104 hg366 (ne_o (i := i) (c := 1) (d := 0) rfl)
  have hg368 := up_n eg110 hg367 (ne_o (i := i) (c := 1) (d := 883) rfl)
  have hg369 := (hG114 (i + 1) (lt_o (i := i) (c := 1) (d := 884) rfl) (ne_o (i := i) (c := 1) (d := 883) rfl)).trans hg368
  have hg370 := up_n eg125 hg369 (ne_o (i := i) (c := 1) (d := 0) rfl)
  have hg371 := up_n eg131 hg370 (ne_o (i := i) (c := 1) (d := 890) rfl)
  have hg372 := (hG135 (i + 1) (lt_o (i := i) (c := 1) (d := 891) rfl) (ne_o (i := i) (c := 1) (d := 890) rfl)).trans hg371
  have hg373 := up_n eg146 hg372 (ne_o (i := i) (c := 1) (d := 0) rfl)
  have hg374 := up_n eg152 hg373 (ne_o (i := i) (c := 1) (d := 900) rfl)
  have hg375 := (hG156 (i + 1) (lt_o (i := i) (c := 1) (d := 901) rfl) (ne_o (i := i) (c := 1) (d := 900) rfl)).trans hg374
  have hg376 := up_n eg167 hg375 (ne_o (i := i) (c := 1) (d := 0) rfl)
  have hg377 := up_n eg173 hg376 (ne_o (i := i) (c := 1) (d := 910) rfl)
  have hg378 := (hG177 (i + 1) (lt_o (i := i) (c := 1) (d := 911) rfl) (ne_o (i := i) (c := 1) (d := 910) rfl)).trans hg377
  have hg379 := up_n eg188 hg378 (ne_o (i := i) (c := 1) (d := 0) rfl)
  have hg380 := up_n eg194 hg379 (ne_o (i := i) (c := 1) (d := 917) rfl)
  have hg381 := (hG198 (i + 1) (lt_o (i := i) (c := 1) (d := 918) rfl) (ne_o (i := i) (c := 1) (d := 917) rfl)).trans hg380
  have hg382 := up_n eg209 hg381 (ne_o (i := i) (c := 1) (d := 0) rfl)
  have hg383 := up_n eg215 hg382 (ne_o (i := i) (c := 1) (d := 919) rfl)
  have hg384 := (hG219 (i + 1) (lt_o (i := i) (c := 1) (d := 920) rfl) (ne_o (i := i) (c := 1) (d := 919) rfl)).trans hg383
  have hg385 := up_n eg230 hg384 (ne_o (i := i) (c := 1) (d := 0) rfl)
  have hfin : g229 i = oC 11 [.ref (ad222 (i + 1)), .int (zI 0), .int (zI (-1)), .ref (ad222 (i + 2)), .ref (ad222 (i + 4)), .ref (ad222 (i + 11)), .ref (ad222 (i + 447)), .int (zI 0), .ref (ad222 (i + 883)), .ref (ad222 (i + 890)), .ref (ad222 (i + 900)), .ref (ad222 (i + 910)), .ref (ad222 (i + 917)), .ref (ad222 (i + 919))] := by rw [← (show ad222 (i + 1) = q1 from ha251), ← (show ad222 (i + 1 + 1) = q19 from ha270), ← (show ad222 (i + 1 + 1 + 2) = q40 from ha287), ← (show ad222 (i + 1 + 1 + 2 + 7) = q61 from ha302), ← (show ad222 (i + 1 + 1 + 2 + 7 + 436) = q82 from ha315), ← (show ad222 (i + 1 + 1 + 2 + 7 + 436 + 436) = q106 from ha326), ← (show ad222 (i + 1 + 1 + 2 + 7 + 436 + 436 + 7) = q127 from ha335), ← (show ad222 (i + 1 + 1 + 2 + 7 + 436 + 436 + 7 + 10) = q148 from ha342), ← (show ad222 (i + 1 + 1 + 2 + 7 + 436 + 436 + 7 + 10 + 10) = q169 from ha347), ← (show ad222 (i + 1 + 1 + 2 + 7 + 436 + 436 + 7 + 10 + 10 + 7) = q190 from ha350), ← (show ad222 (i + 1 + 1 + 2 + 7 + 436 + 436 + 7 + 10 + 10 + 7 + 2) = q211 from ha351)] at hg231; exact hg231
  have hp386 := isRdr.mv (ad' := ad222) (g' := g229) (fun j h1 h2 => by rw [hA218 _ (by omega)]; rw [ea214, va_up_ne _ _ (by omega)]; rw [hA197 _ (by omega)]; rw [ea193, va_up_ne _ _ (by omega)]; rw [hA176 _ (by omega)]; rw [ea172, va_up_ne _ _ (by omega)]; rw [hA155 _ (by omega)]; rw [ea151, va_up_ne _ _ (by omega)]; rw [hA134 _ (by omega)]; rw [ea130, va_up_ne _ _ (by omega)]; rw [hA113 _ (by omega)]; rw [ea109, va_up_ne _ _ (by omega)]; rw [hA89 _ (by omega)]; rw [ea85, va_up_ne _ _ (by omega)]; rw [hA68 _ (by omega)]; rw [ea64, va_up_ne _ _ (by omega)]; rw [hA47 _ (by omega)]; rw [ea43, va_up_ne _ _ (by omega)]) (fun j h1 h2 => by rw [eg230, va_up_ne _ _ (by omega)]; rw [hG219 _ (by omega) (by omega)]; rw [eg215, va_up_ne _ _ (by omega)]; rw [eg209, va_up_ne _ _ (by omega)]; rw [hG198 _ (by omega) (by omega)]; rw [eg194, va_up_ne _ _ (by omega)]; rw [eg188, va_up_ne _ _ (by omega)]; rw [hG177 _ (by omega) (by omega)]; rw [eg173, va_up_ne _ _ (by omega)]; rw [eg167, va_up_ne _ _ (by omega)]; rw [hG156 _ (by omega) (by omega)]; rw [eg152, va_up_ne _ _ (by omega)]; rw [eg146, va_up_ne _ _ (by omega)]; rw [hG135 _ (by omega) (by omega)]; rw [eg131, va_up_ne _ _ (by omega)]; rw [eg125, va_up_ne _ _ (by omega)]; rw [hG114 _ (by omega) (by omega)]; rw [eg110, va_up_ne _ _ (by omega)]; rw [eg104, va_up_ne _ _ (by omega)]; rw [eg101, va_up_ne _ _ (by omega)]; rw [hG90 _ (by omega) (by omega)]; rw [eg86, va_up_ne _ _ (by omega)]; rw [eg80, va_up_ne _ _ (by omega)]; rw [hG69 _ (by omega) (by omega)]; rw [eg65, va_up_ne _ _ (by omega)]; rw [eg59, va_up_ne _ _ (by omega)]; rw [hG48 _ (by omega) (by omega)]; rw [eg44, va_up_ne _ _ (by omega)]; rw [eg38, va_up_ne _ _ (by omega)]) hp28
  have hp387 := isPlan.mv (ad' := ad222) (g' := g229) (fun j h1 h2 => by rw [hA218 _ (by omega)]; rw [ea214, va_up_ne _ _ (by omega)]; rw [hA197 _ (by omega)]; rw [ea193, va_up_ne _ _ (by omega)]; rw [hA176 _ (by omega)]; rw [ea172, va_up_ne _ _ (by omega)]; rw [hA155 _ (by omega)]; rw [ea151, va_up_ne _ _ (by omega)]; rw [hA134 _ (by omega)]; rw [ea130, va_up_ne _ _ (by omega)]; rw [hA113 _ (by omega)]; rw [ea109, va_up_ne _ _ (by omega)]; rw [hA89 _ (by omega)]; rw [ea85, va_up_ne _ _ (by omega)]; rw [hA68 _ (by omega)]; rw [ea64, va_up_ne _ _ (by omega)]) (fun j h1 h2 => by rw [eg230, va_up_ne _ _ (by omega)]; rw [hG219 _ (by omega) (by omega)]; rw [eg215, va_up_ne _ _ (by omega)]; rw [eg209, va_up_ne _ _ (by omega)]; rw [hG198 _ (by omega) (by omega)]; rw [eg194, va_up_ne _ _ (by omega)]; rw [eg188, va_up_ne _ _ (by omega)]; rw [hG177 _ (by omega) (by omega)]; rw [eg173, va_up_ne _ _ (by omega)]; rw [eg167, va_up_ne _ _ (by omega)]; rw [hG156 _ (by omega) (by omega)]; rw [eg152, va_up_ne _ _ (by omega)]; rw [eg146, va_up_ne _ _ (by omega)]; rw [hG135 _ (by omega) (by omega)]; rw [eg131, va_up_ne _ _ (by omega)]; rw [eg125, va_up_ne _ _ (by omega)]; rw [hG114 _ (by omega) (by omega)]; rw [eg110, va_up_ne _ _ (by omega)]; rw [eg104, va_up_ne _ _ (by omega)]; rw [eg101, va_up_ne _ _ (by omega)]; rw [hG90 _ (by omega) (by omega)]; rw [eg86, va_up_ne _ _ (by omega)]; rw [eg80, va_up_ne _ _ (by omega)]; rw [hG69 _ (by omega) (by omega)]; rw [eg65, va_up_ne _ _ (by omega)]; rw [eg59, va_up_ne _ _ (by omega)]) hp49
  have hp388 := isSt.mv (ad' := ad222) (g' := g229) (fun j h1 h2 => by rw [hA218 _ (by omega)]; rw [ea214, va_up_ne _ _ (by omega)]; rw [hA197 _ (by omega)]; rw [ea193, va_up_ne _ _ (by omega)]; rw [hA176 _ (by omega)]; rw [ea172, va_up_ne _ _ (by omega)]; rw [hA155 _ (by omega)]; rw [ea151, va_up_ne _ _ (by omega)]; rw [hA134 _ (by omega)]; rw [ea130, va_up_ne _ _ (by omega)]; rw [hA113 _ (by omega)]; rw [ea109, va_up_ne _ _ (by omega)]; rw [hA89 _ (by omega)]; rw [ea85, va_up_ne _ _ (by omega)]) (fun j h1 h2 => by rw [eg230, va_up_ne _ _ (by omega)]; rw [hG219 _ (by omega) (by omega)]; rw [eg215, va_up_ne _ _ (by omega)]; rw [eg209, va_up_ne _ _ (by omega)]; rw [hG198 _ (by omega) (by omega)]; rw [eg194, va_up_ne _ _ (by omega)]; rw [eg188, va_up_ne _ _ (by omega)]; rw [hG177 _ (by omega) (by omega)]; rw [eg173, va_up_ne _ _ (by omega)]; rw [eg167, va_up_ne _ _ (by omega)]; rw [hG156 _ (by omega) (by omega)]; rw [eg152, va_up_ne _ _ (by omega)]; rw [eg146, va_up_ne _ _ (by omega)]; rw [hG135 _ (by omega) (by omega)]; rw [eg131, va_up_ne _ _ (by omega)]; rw [eg125, va_up_ne _ _ (by omega)]; rw [hG114 _ (by omega) (by omega)]; rw [eg110, va_up_ne _ _ (by omega)]; rw [eg104, va_up_ne _ _ (by omega)]; rw [eg101, va_up_ne _ _ (by omega)]; rw [hG90 _ (by omega) (by omega)]; rw [eg86, va_up_ne _ _ (by omega)]; rw [eg80, va_up_ne _ _ (by omega)]) hp70
  have hp389 := isSt.mv (ad' := ad222) (g' := g229) (fun j h1 h2 => by rw [hA218 _ (by omega)]; rw [ea214, va_up_ne _ _ (by omega)]; rw [hA197 _ (by omega)]; rw [ea193, va_up_ne _ _ (by omega)]; rw [hA176 _ (by omega)]; rw [ea172, va_up_ne _ _ (by omega)]; rw [hA155 _ (by omega)]; rw [ea151, va_up_ne _ _ (by omega)]; rw [hA134 _ (by omega)]; rw [ea130, va_up_ne _ _ (by omega)]; rw [hA113 _ (by omega)]; rw [ea109, va_up_ne _ _ (by omega)]) (fun j h1 h2 => by rw [eg230, va_up_ne _ _ (by omega)]; rw [hG219 _ (by omega) (by omega)]; rw [eg215, va_up_ne _ _ (by omega)]; rw [eg209, va_up_ne _ _ (by omega)]; rw [hG198 _ (by omega) (by omega)]; rw [eg194, va_up_ne _ _ (by omega)]; rw [eg188, va_up_ne _ _ (by omega)]; rw [hG177 _ (by omega) (by omega)]; rw [eg173, va_up_ne _ _ (by omega)]; rw [eg167, va_up_ne _ _ (by omega)]; rw [hG156 _ (by omega) (by omega)]; rw [eg152, va_up_ne _ _ (by omega)]; rw [eg146, va_up_ne _ _ (by omega)]; rw [hG135 _ (by omega) (by omega)]; rw [eg131, va_up_ne _ _ (by omega)]; rw [eg125, va_up_ne _ _ (by omega)]; rw [hG114 _ (by omega) (by omega)]; rw [eg110, va_up_ne _ _ (by omega)]; rw [eg104, va_up_ne _ _ (by omega)]; rw [eg101, va_up_ne _ _ (by omega)]) hp91
  have hp390 := isPlan.mv (ad' := ad222) (g' := g229) (fun j h1 h2 => by rw [hA218 _ (by omega)]; rw [ea214, va_up_ne _ _ (by omega)]; rw [hA197 _ (by omega)]; rw [ea193, va_up_ne _ _ (by omega)]; rw [hA176 _ (by omega)]; rw [ea172, va_up_ne _ _ (by omega)]; rw [hA155 _ (by omega)]; rw [ea151, va_up_ne _ _ (by omega)]; rw [hA134 _ (by omega)]; rw [ea130, va_up_ne _ _ (by omega)]) (fun j h1 h2 => by rw [eg230, va_up_ne _ _ (by omega)]; rw [hG219 _ (by omega) (by omega)]; rw [eg215, va_up_ne _ _ (by omega)]; rw [eg209, va_up_ne _ _ (by omega)]; rw [hG198 _ (by omega) (by omega)]; rw [eg194, va_up_ne _ _ (by omega)]; rw [eg188, va_up_ne _ _ (by omega)]; rw [hG177 _ (by omega) (by omega)]; rw [eg173, va_up_ne _ _ (by omega)]; rw [eg167, va_up_ne _ _ (by omega)]; rw [hG156 _ (by omega) (by omega)]; rw [eg152, va_up_ne _ _ (by omega)]; rw [eg146, va_up_ne _ _ (by omega)]; rw [hG135 _ (by omega) (by omega)]; rw [eg131, va_up_ne _ _ (by omega)]; rw [eg125, va_up_ne _ _ (by omega)]) hp115
  have hp391 := isWorld.mv (ad' := ad222) (g' := g229) (fun j h1 h2 => by rw [hA218 _ (by omega)]; rw [ea214, va_up_ne _ _ (by omega)]; rw [hA197 _ (by omega)]; rw [ea193, va_up_ne _ _ (by omega)]; rw [hA176 _ (by omega)]; rw [ea172, va_up_ne _ _ (by omega)]; rw [hA155 _ (by omega)]; rw [ea151, va_up_ne _ _ (by omega)]) (fun j h1 h2 => by rw [eg230, va_up_ne _ _ (by omega)]; rw [hG219 _ (by omega) (by omega)]; rw [eg215, va_up_ne _ _ (by omega)]; rw [eg209, va_up_ne _ _ (by omega)]; rw [hG198 _ (by omega) (by omega)]; rw [eg194, va_up_ne _ _ (by omega)]; rw [eg188, va_up_ne _ _ (by omega)]; rw [hG177 _ (by omega) (by omega)]; rw [eg173, va_up_ne _ _ (by omega)]; rw [eg167, va_up_ne _ _ (by omega)]; rw [hG156 _ (by omega) (by omega)]; rw [eg152, va_up_ne _ _ (by omega)]; rw [eg146, va_up_ne _ _ (by omega)]) hp136
  have hp392 := isWorld.mv (ad' := ad222) (g' := g229) (fun j h1 h2 => by rw [hA218 _ (by omega)]; rw [ea214, va_up_ne _ _ (by omega)]; rw [hA197 _ (by omega)]; rw [ea193, va_up_ne _ _ (by omega)]; rw [hA176 _ (by omega)]; rw [ea172, va_up_ne _ _ (by omega)]) (fun j h1 h2 => by rw [eg230, va_up_ne _ _ (by omega)]; rw [hG219 _ (by omega) (by omega)]; rw [eg215, va_up_ne _ _ (by omega)]; rw [eg209, va_up_ne _ _ (by omega)]; rw [hG198 _ (by omega) (by omega)]; rw [eg194, va_up_ne _ _ (by omega)]; rw [eg188, va_up_ne _ _ (by omega)]; rw [hG177 _ (by omega) (by omega)]; rw [eg173, va_up_ne _ _ (by omega)]; rw [eg167, va_up_ne _ _ (by omega)]) hp157
  have hp393 := isGss.mv (ad' := ad222) (g' := g229) (fun j h1 h2 => by rw [hA218 _ (by omega)]; rw [ea214, va_up_ne _ _ (by omega)]; rw [hA197 _ (by omega)]; rw [ea193, va_up_ne _ _ (by omega)]) (fun j h1 h2 => by rw [eg230, va_up_ne _ _ (by omega)]; rw [hG219 _ (by omega) (by omega)]; rw [eg215, va_up_ne _ _ (by omega)]; rw [eg209, va_up_ne _ _ (by omega)]; rw [hG198 _ (by omega) (by omega)]; rw [eg194, va_up_ne _ _ (by omega)]; rw [eg188, va_up_ne _ _ (by omega)]) hp178
  have hp394 := isLike.mv (ad' := ad222) (g' := g229) (fun j h1 h2 => by rw [hA218 _ (by omega)]; rw [ea214, va_up_ne _ _ (by omega)]) (fun j h1 h2 => by rw [eg230, va_up_ne _ _ (by omega)]; rw [hG219 _ (by omega) (by omega)]; rw [eg215, va_up_ne _ _ (by omega)]; rw [eg209, va_up_ne _ _ (by omega)]) hp199
  have hp395 := isBld.mv (ad' := ad222) (g' := g229) (fun j h1 h2 => by rfl) (fun j h1 h2 => by rw [eg230, va_up_ne _ _ (by omega)]) hp220
  exact z_vret C hr hlk dX9_init_138 (by decide) (by decide) (⟨rfl, rfl, fun j h1 => by rw [hA218 _ (by omega)]; rw [ea214, va_up_ne _ _ (by omega)]; rw [hA197 _ (by omega)]; rw [ea193, va_up_ne _ _ (by omega)]; rw [hA176 _ (by omega)]; rw [ea172, va_up_ne _ _ (by omega)]; rw [hA155 _ (by omega)]; rw [ea151, va_up_ne _ _ (by omega)]; rw [hA134 _ (by omega)]; rw [ea130, va_up_ne _ _ (by omega)]; rw [hA113 _ (by omega)]; rw [ea109, va_up_ne _ _ (by omega)]; rw [hA89 _ (by omega)]; rw [ea85, va_up_ne _ _ (by omega)]; rw [hA68 _ (by omega)]; rw [ea64, va_up_ne _ _ (by omega)]; rw [hA47 _ (by omega)]; rw [ea43, va_up_ne _ _ (by omega)]; rw [hA26 _ (by omega)]; rw [ea22, va_up_ne _ _ (by omega)]; rw [ea4, va_up_ne _ _ (by omega)], fun j h1 h2 => by rw [eg230, va_up_ne _ _ (by omega)]; rw [hG219 _ (by omega) (by omega)]; rw [eg215, va_up_ne _ _ (by omega)]; rw [eg209, va_up_ne _ _ (by omega)]; rw [hG198 _ (by omega) (by omega)]; rw [eg194, va_up_ne _ _ (by omega)]; rw [eg188, va_up_ne _ _ (by omega)]; rw [hG177 _ (by omega) (by omega)]; rw [eg173, va_up_ne _ _ (by omega)]; rw [eg167, va_up_ne _ _ (by omega)]; rw [hG156 _ (by omega) (by omega)]; rw [eg152, va_up_ne _ _ (by omega)]; rw [eg146, va_up_ne _ _ (by omega)]; rw [hG135 _ (by omega) (by omega)]; rw [eg131, va_up_ne _ _ (by omega)]; rw [eg125, va_up_ne _ _ (by omega)]; rw [hG114 _ (by omega) (by omega)]; rw [eg110, va_up_ne _ _ (by omega)]; rw [eg104, va_up_ne _ _ (by omega)]; rw [eg101, va_up_ne _ _ (by omega)]; rw [hG90 _ (by omega) (by omega)]; rw [eg86, va_up_ne _ _ (by omega)]; rw [eg80, va_up_ne _ _ (by omega)]; rw [hG69 _ (by omega) (by omega)]; rw [eg65, va_up_ne _ _ (by omega)]; rw [eg59, va_up_ne _ _ (by omega)]; rw [hG48 _ (by omega) (by omega)]; rw [eg44, va_up_ne _ _ (by omega)]; rw [eg38, va_up_ne _ _ (by omega)]; rw [hG27 _ (by omega) (by omega)]; rw [eg23, va_up_ne _ _ (by omega)]; rw [eg17, va_up_ne _ _ (by omega)]; rw [eg14, va_up_ne _ _ (by omega)]; rw [eg11, va_up_ne _ _ (by omega)]; rw [eg5, va_up_ne _ _ (by omega)], hfin, hg385, hp386, hp387, hp388, hp389, hp390, hp391, hp392, hp393, hp394, hp395⟩)
end
section
-- 12.words.lean.txt
-- words of mod
theorem q_1454 : (Jvm.Cond.methodLink "SnowRecorderModel" (3 : Nat) ({ cls := "java/lang/Object", name := "<init>", desc := "()V" } : Jvm.MethodName)) ∈ AW := AW_m7 14 (by decide +kernel) (by decide +kernel)
theorem q_1455 : (Jvm.Cond.methodLink "SnowRecorderModel" (107 : Nat) ({ cls := "SnowRecorderModel", name := "laysTable", desc := "()V" } : Jvm.MethodName)) ∈ AW := AW_m7 15 (by decide +kernel) (by decide +kernel)
theorem q_1457 : (Jvm.Cond.instanceMethod ({ cls := "SnowRecorderModel", name := "laysTable", desc := "()V" } : Jvm.MethodName)) ∈ AW := AW_m7 17 (by decide +kernel) (by decide +kernel)
theorem q_1458 : (Jvm.Cond.code ({ cls := "SnowRecorderModel", name := "laysTable", desc := "()V" } : Jvm.MethodName) prog_12_method_2_code (2 : Nat) (Option.none : Option Jvm.ClassFile.FieldType)) ∈ AW := AW_m7 18 (by decide +kernel) (by decide +kernel)
theorem q_1459 : (Jvm.Cond.fieldLink "SnowRecorderModel" (9 : Nat) "SnowRecorderModel" "rows" "[I") ∈ AW := AW_m7 19 (by decide +kernel) (by decide +kernel)
theorem q_1460 : (Jvm.Cond.fieldLink "SnowRecorderModel" (13 : Nat) "SnowRecorderModel" "steep" "[I") ∈ AW := AW_m7 20 (by decide +kernel) (by decide +kernel)
theorem q_1461 : (Jvm.Cond.fieldLink "SnowRecorderModel" (16 : Nat) "SnowRecorderModel" "open" "[I") ∈ AW := AW_m7 21 (by decide +kernel) (by decide +kernel)
theorem q_1462 : (Jvm.Cond.fieldLink "SnowRecorderModel" (19 : Nat) "SnowRecorderModel" "air" "[I") ∈ AW := AW_m7 22 (by decide +kernel) (by decide +kernel)
theorem q_1463 : (Jvm.Cond.fieldLink "SnowRecorderModel" (22 : Nat) "SnowRecorderModel" "falling" "[I") ∈ AW := AW_m7 23 (by decide +kernel) (by decide +kernel)
theorem q_1464 : (Jvm.Cond.fieldLink "SnowRecorderModel" (25 : Nat) "SnowRecorderModel" "much" "[I") ∈ AW := AW_m7 24 (by decide +kernel) (by decide +kernel)
theorem q_1465 : (Jvm.Cond.fieldLink "SnowRecorderModel" (28 : Nat) "SnowRecorderModel" "table" "[I") ∈ AW := AW_m7 25 (by decide +kernel) (by decide +kernel)
theorem q_1466 : (Jvm.Cond.fieldLink "SnowRecorderModel" (31 : Nat) "SnowRecorderModel" "noteSlope" "[I") ∈ AW := AW_m7 26 (by decide +kernel) (by decide +kernel)
theorem q_1467 : (Jvm.Cond.fieldLink "SnowRecorderModel" (34 : Nat) "SnowRecorderModel" "noteHours" "[I") ∈ AW := AW_m7 27 (by decide +kernel) (by decide +kernel)
theorem q_1468 : (Jvm.Cond.fieldLink "SnowRecorderModel" (37 : Nat) "SnowRecorderModel" "noteDepth" "[I") ∈ AW := AW_m7 28 (by decide +kernel) (by decide +kernel)
theorem q_1469 : (Jvm.Cond.fieldLink "SnowRecorderModel" (40 : Nat) "SnowRecorderModel" "refused" "[I") ∈ AW := AW_m7 29 (by decide +kernel) (by decide +kernel)
theorem q_1470 : (Jvm.Cond.fieldLink "SnowRecorderModel" (43 : Nat) "SnowRecorderModel" "pits" "[I") ∈ AW := AW_m7 30 (by decide +kernel) (by decide +kernel)
theorem q_1481 : (Jvm.Cond.fieldLink "SnowRecorderModel" (46 : Nat) "SnowRecorderModel" "tape" "[I") ∈ AW := AW_m7 41 (by decide +kernel) (by decide +kernel)
theorem q_1483 : (Jvm.Cond.fieldLink "SnowRecorderModel" (49 : Nat) "SnowRecorderModel" "faultPlace" "I") ∈ AW := AW_m7 43 (by decide +kernel) (by decide +kernel)
theorem q_1485 : (Jvm.Cond.fieldLink "SnowRecorderModel" (53 : Nat) "SnowRecorderModel" "without" "I") ∈ AW := AW_m7 45 (by decide +kernel) (by decide +kernel)
theorem q_1486 : (Jvm.Cond.fieldLink "SnowRecorderModel" (56 : Nat) "SnowRecorderModel" "otherHour" "I") ∈ AW := AW_m7 46 (by decide +kernel) (by decide +kernel)
theorem q_1489 : (Jvm.Cond.fieldLink "SnowRecorderModel" (59 : Nat) "SnowRecorderModel" "temps" "[I") ∈ AW := AW_m7 49 (by decide +kernel) (by decide +kernel)
theorem q_1490 : (Jvm.Cond.fieldLink "SnowRecorderModel" (62 : Nat) "SnowRecorderModel" "kinds" "[I") ∈ AW := AW_m7 50 (by decide +kernel) (by decide +kernel)
theorem q_1498 : (Jvm.Cond.fieldLink "SnowRecorderModel" (65 : Nat) "SnowRecorderModel" "steep1" "[I") ∈ AW := AW_m7 58 (by decide +kernel) (by decide +kernel)
theorem q_1499 : (Jvm.Cond.fieldLink "SnowRecorderModel" (68 : Nat) "SnowRecorderModel" "open1" "[I") ∈ AW := AW_m7 59 (by decide +kernel) (by decide +kernel)
theorem q_15 : (Jvm.Cond.initialized "SnowRecorderModel") ∈ AW := AW_m1 15 (by decide +kernel) (by decide +kernel)
theorem q_1500 : (Jvm.Cond.fieldLink "SnowRecorderModel" (71 : Nat) "SnowRecorderModel" "many1" "[I") ∈ AW := AW_m7 60 (by decide +kernel) (by decide +kernel)
theorem q_1501 : (Jvm.Cond.fieldLink "SnowRecorderModel" (74 : Nat) "SnowRecorderModel" "air1" "[I") ∈ AW := AW_m7 61 (by decide +kernel) (by decide +kernel)
theorem q_1502 : (Jvm.Cond.fieldLink "SnowRecorderModel" (77 : Nat) "SnowRecorderModel" "falling1" "[I") ∈ AW := AW_m7 62 (by decide +kernel) (by decide +kernel)
theorem q_1503 : (Jvm.Cond.fieldLink "SnowRecorderModel" (80 : Nat) "SnowRecorderModel" "much1" "[I") ∈ AW := AW_m7 63 (by decide +kernel) (by decide +kernel)
theorem q_1504 : (Jvm.Cond.fieldLink "SnowRecorderModel" (83 : Nat) "SnowRecorderModel" "table1" "[I") ∈ AW := AW_m7 64 (by decide +kernel) (by decide +kernel)
theorem q_1505 : (Jvm.Cond.fieldLink "SnowRecorderModel" (86 : Nat) "SnowRecorderModel" "layer1" "[I") ∈ AW := AW_m7 65 (by decide +kernel) (by decide +kernel)
theorem q_1509 : (Jvm.Cond.fieldLink "SnowRecorderModel" (89 : Nat) "SnowRecorderModel" "line" "[I") ∈ AW := AW_m7 69 (by decide +kernel) (by decide +kernel)
theorem q_1511 : (Jvm.Cond.fieldLink "SnowRecorderModel" (92 : Nat) "SnowRecorderModel" "oneKinds" "[I") ∈ AW := AW_m7 71 (by decide +kernel) (by decide +kernel)
theorem q_1512 : (Jvm.Cond.fieldLink "SnowRecorderModel" (95 : Nat) "SnowRecorderModel" "otherKinds" "[I") ∈ AW := AW_m7 72 (by decide +kernel) (by decide +kernel)
theorem q_1513 : (Jvm.Cond.fieldLink "SnowRecorderModel" (98 : Nat) "SnowRecorderModel" "folded" "[I") ∈ AW := AW_m7 73 (by decide +kernel) (by decide +kernel)
theorem q_1516 : (Jvm.Cond.fieldLink "SnowRecorderModel" (101 : Nat) "SnowRecorderModel" "dayDepth" "[I") ∈ AW := AW_m7 76 (by decide +kernel) (by decide +kernel)
theorem q_1517 : (Jvm.Cond.fieldLink "SnowRecorderModel" (104 : Nat) "SnowRecorderModel" "depths" "[I") ∈ AW := AW_m7 77 (by decide +kernel) (by decide +kernel)
theorem q_1519 : (Jvm.Cond.laysFinal "SnowRecorderModel" "SnowRecorderModel" "rows" "[I") ∈ AW := AW_m7 79 (by decide +kernel) (by decide +kernel)
theorem q_1521 : (Jvm.Cond.laysFinal "SnowRecorderModel" "SnowRecorderModel" "steep" "[I") ∈ AW := AW_m7 81 (by decide +kernel) (by decide +kernel)
theorem q_1523 : (Jvm.Cond.laysFinal "SnowRecorderModel" "SnowRecorderModel" "open" "[I") ∈ AW := AW_m7 83 (by decide +kernel) (by decide +kernel)
theorem q_1525 : (Jvm.Cond.laysFinal "SnowRecorderModel" "SnowRecorderModel" "air" "[I") ∈ AW := AW_m7 85 (by decide +kernel) (by decide +kernel)
theorem q_1527 : (Jvm.Cond.laysFinal "SnowRecorderModel" "SnowRecorderModel" "falling" "[I") ∈ AW := AW_m7 87 (by decide +kernel) (by decide +kernel)
theorem q_1529 : (Jvm.Cond.laysFinal "SnowRecorderModel" "SnowRecorderModel" "much" "[I") ∈ AW := AW_m7 89 (by decide +kernel) (by decide +kernel)
theorem q_1531 : (Jvm.Cond.laysFinal "SnowRecorderModel" "SnowRecorderModel" "table" "[I") ∈ AW := AW_m7 91 (by decide +kernel) (by decide +kernel)
theorem q_1533 : (Jvm.Cond.laysFinal "SnowRecorderModel" "SnowRecorderModel" "noteSlope" "[I") ∈ AW := AW_m7 93 (by decide +kernel) (by decide +kernel)
theorem q_1535 : (Jvm.Cond.laysFinal "SnowRecorderModel" "SnowRecorderModel" "noteHours" "[I") ∈ AW := AW_m7 95 (by decide +kernel) (by decide +kernel)
theorem q_1537 : (Jvm.Cond.laysFinal "SnowRecorderModel" "SnowRecorderModel" "noteDepth" "[I") ∈ AW := AW_m7 97 (by decide +kernel) (by decide +kernel)
theorem q_1539 : (Jvm.Cond.laysFinal "SnowRecorderModel" "SnowRecorderModel" "refused" "[I") ∈ AW := AW_m7 99 (by decide +kernel) (by decide +kernel)
theorem q_1541 : (Jvm.Cond.laysFinal "SnowRecorderModel" "SnowRecorderModel" "pits" "[I") ∈ AW := AW_m7 101 (by decide +kernel) (by decide +kernel)
theorem q_1543 : (Jvm.Cond.lays "SnowRecorderModel" "SnowRecorderModel" "thrown" "I") ∈ AW := AW_m7 103 (by decide +kernel) (by decide +kernel)
theorem q_1545 : (Jvm.Cond.lays "SnowRecorderModel" "SnowRecorderModel" "slopes" "I") ∈ AW := AW_m7 105 (by decide +kernel) (by decide +kernel)
theorem q_1547 : (Jvm.Cond.lays "SnowRecorderModel" "SnowRecorderModel" "hourMany" "I") ∈ AW := AW_m7 107 (by decide +kernel) (by decide +kernel)
theorem q_1549 : (Jvm.Cond.lays "SnowRecorderModel" "SnowRecorderModel" "acts" "I") ∈ AW := AW_m7 109 (by decide +kernel) (by decide +kernel)
theorem q_1551 : (Jvm.Cond.lays "SnowRecorderModel" "SnowRecorderModel" "firstAct" "I") ∈ AW := AW_m7 111 (by decide +kernel) (by decide +kernel)
theorem q_1553 : (Jvm.Cond.lays "SnowRecorderModel" "SnowRecorderModel" "notes" "I") ∈ AW := AW_m7 113 (by decide +kernel) (by decide +kernel)
theorem q_1555 : (Jvm.Cond.lays "SnowRecorderModel" "SnowRecorderModel" "imageActs" "I") ∈ AW := AW_m7 115 (by decide +kernel) (by decide +kernel)
theorem q_1557 : (Jvm.Cond.lays "SnowRecorderModel" "SnowRecorderModel" "imageFirst" "I") ∈ AW := AW_m7 117 (by decide +kernel) (by decide +kernel)
theorem q_1559 : (Jvm.Cond.lays "SnowRecorderModel" "SnowRecorderModel" "imageNotes" "I") ∈ AW := AW_m7 119 (by decide +kernel) (by decide +kernel)
theorem q_1561 : (Jvm.Cond.lays "SnowRecorderModel" "SnowRecorderModel" "hasImage" "I") ∈ AW := AW_m7 121 (by decide +kernel) (by decide +kernel)
theorem q_1563 : (Jvm.Cond.laysFinal "SnowRecorderModel" "SnowRecorderModel" "tape" "[I") ∈ AW := AW_m7 123 (by decide +kernel) (by decide +kernel)
theorem q_1565 : (Jvm.Cond.lays "SnowRecorderModel" "SnowRecorderModel" "taped" "I") ∈ AW := AW_m7 125 (by decide +kernel) (by decide +kernel)
theorem q_1567 : (Jvm.Cond.lays "SnowRecorderModel" "SnowRecorderModel" "faultPlace" "I") ∈ AW := AW_m7 127 (by decide +kernel) (by decide +kernel)
theorem q_1569 : (Jvm.Cond.lays "SnowRecorderModel" "SnowRecorderModel" "warmer" "I") ∈ AW := AW_m7 129 (by decide +kernel) (by decide +kernel)
theorem q_1571 : (Jvm.Cond.lays "SnowRecorderModel" "SnowRecorderModel" "without" "I") ∈ AW := AW_m7 131 (by decide +kernel) (by decide +kernel)
theorem q_1573 : (Jvm.Cond.lays "SnowRecorderModel" "SnowRecorderModel" "otherHour" "I") ∈ AW := AW_m7 133 (by decide +kernel) (by decide +kernel)
theorem q_1575 : (Jvm.Cond.lays "SnowRecorderModel" "SnowRecorderModel" "otherMuch" "I") ∈ AW := AW_m7 135 (by decide +kernel) (by decide +kernel)
theorem q_1577 : (Jvm.Cond.lays "SnowRecorderModel" "SnowRecorderModel" "isClear" "Z") ∈ AW := AW_m7 137 (by decide +kernel) (by decide +kernel)
theorem q_1579 : (Jvm.Cond.laysFinal "SnowRecorderModel" "SnowRecorderModel" "temps" "[I") ∈ AW := AW_m7 139 (by decide +kernel) (by decide +kernel)
theorem q_1581 : (Jvm.Cond.laysFinal "SnowRecorderModel" "SnowRecorderModel" "kinds" "[I") ∈ AW := AW_m7 141 (by decide +kernel) (by decide +kernel)
theorem q_1583 : (Jvm.Cond.lays "SnowRecorderModel" "SnowRecorderModel" "next" "I") ∈ AW := AW_m7 143 (by decide +kernel) (by decide +kernel)
theorem q_1585 : (Jvm.Cond.lays "SnowRecorderModel" "SnowRecorderModel" "place" "I") ∈ AW := AW_m7 145 (by decide +kernel) (by decide +kernel)
theorem q_1587 : (Jvm.Cond.lays "SnowRecorderModel" "SnowRecorderModel" "size" "I") ∈ AW := AW_m7 147 (by decide +kernel) (by decide +kernel)
theorem q_1589 : (Jvm.Cond.lays "SnowRecorderModel" "SnowRecorderModel" "sort" "I") ∈ AW := AW_m7 149 (by decide +kernel) (by decide +kernel)
theorem q_1591 : (Jvm.Cond.lays "SnowRecorderModel" "SnowRecorderModel" "value" "I") ∈ AW := AW_m7 151 (by decide +kernel) (by decide +kernel)
theorem q_1593 : (Jvm.Cond.lays "SnowRecorderModel" "SnowRecorderModel" "word" "I") ∈ AW := AW_m7 153 (by decide +kernel) (by decide +kernel)
theorem q_1595 : (Jvm.Cond.lays "SnowRecorderModel" "SnowRecorderModel" "bad" "I") ∈ AW := AW_m7 155 (by decide +kernel) (by decide +kernel)
theorem q_1597 : (Jvm.Cond.laysFinal "SnowRecorderModel" "SnowRecorderModel" "steep1" "[I") ∈ AW := AW_m7 157 (by decide +kernel) (by decide +kernel)
theorem q_1599 : (Jvm.Cond.laysFinal "SnowRecorderModel" "SnowRecorderModel" "open1" "[I") ∈ AW := AW_m7 159 (by decide +kernel) (by decide +kernel)
theorem q_1601 : (Jvm.Cond.laysFinal "SnowRecorderModel" "SnowRecorderModel" "many1" "[I") ∈ AW := AW_m7 161 (by decide +kernel) (by decide +kernel)
theorem q_1603 : (Jvm.Cond.laysFinal "SnowRecorderModel" "SnowRecorderModel" "air1" "[I") ∈ AW := AW_m7 163 (by decide +kernel) (by decide +kernel)
theorem q_1605 : (Jvm.Cond.laysFinal "SnowRecorderModel" "SnowRecorderModel" "falling1" "[I") ∈ AW := AW_m7 165 (by decide +kernel) (by decide +kernel)
theorem q_1607 : (Jvm.Cond.laysFinal "SnowRecorderModel" "SnowRecorderModel" "much1" "[I") ∈ AW := AW_m7 167 (by decide +kernel) (by decide +kernel)
theorem q_1609 : (Jvm.Cond.laysFinal "SnowRecorderModel" "SnowRecorderModel" "table1" "[I") ∈ AW := AW_m7 169 (by decide +kernel) (by decide +kernel)
theorem q_1611 : (Jvm.Cond.laysFinal "SnowRecorderModel" "SnowRecorderModel" "layer1" "[I") ∈ AW := AW_m7 171 (by decide +kernel) (by decide +kernel)
theorem q_1613 : (Jvm.Cond.lays "SnowRecorderModel" "SnowRecorderModel" "slopes1" "I") ∈ AW := AW_m7 173 (by decide +kernel) (by decide +kernel)
theorem q_1615 : (Jvm.Cond.lays "SnowRecorderModel" "SnowRecorderModel" "hours1" "I") ∈ AW := AW_m7 175 (by decide +kernel) (by decide +kernel)
theorem q_1617 : (Jvm.Cond.lays "SnowRecorderModel" "SnowRecorderModel" "names1" "I") ∈ AW := AW_m7 177 (by decide +kernel) (by decide +kernel)
theorem q_1619 : (Jvm.Cond.laysFinal "SnowRecorderModel" "SnowRecorderModel" "line" "[I") ∈ AW := AW_m7 179 (by decide +kernel) (by decide +kernel)
theorem q_1621 : (Jvm.Cond.lays "SnowRecorderModel" "SnowRecorderModel" "lined" "I") ∈ AW := AW_m7 181 (by decide +kernel) (by decide +kernel)
theorem q_1623 : (Jvm.Cond.laysFinal "SnowRecorderModel" "SnowRecorderModel" "oneKinds" "[I") ∈ AW := AW_m7 183 (by decide +kernel) (by decide +kernel)
theorem q_1625 : (Jvm.Cond.laysFinal "SnowRecorderModel" "SnowRecorderModel" "otherKinds" "[I") ∈ AW := AW_m7 185 (by decide +kernel) (by decide +kernel)
theorem q_1627 : (Jvm.Cond.laysFinal "SnowRecorderModel" "SnowRecorderModel" "folded" "[I") ∈ AW := AW_m7 187 (by decide +kernel) (by decide +kernel)
theorem q_1629 : (Jvm.Cond.lays "SnowRecorderModel" "SnowRecorderModel" "ones" "I") ∈ AW := AW_m7 189 (by decide +kernel) (by decide +kernel)
theorem q_1631 : (Jvm.Cond.lays "SnowRecorderModel" "SnowRecorderModel" "others" "I") ∈ AW := AW_m7 191 (by decide +kernel) (by decide +kernel)
theorem q_1633 : (Jvm.Cond.laysFinal "SnowRecorderModel" "SnowRecorderModel" "dayDepth" "[I") ∈ AW := AW_m7 193 (by decide +kernel) (by decide +kernel)
theorem q_1635 : (Jvm.Cond.laysFinal "SnowRecorderModel" "SnowRecorderModel" "depths" "[I") ∈ AW := AW_m7 195 (by decide +kernel) (by decide +kernel)
theorem q_1637 : (Jvm.Cond.lays "SnowRecorderModel" "SnowRecorderModel" "its" "I") ∈ AW := AW_m7 197 (by decide +kernel) (by decide +kernel)
theorem s_39 : Cond.selects "SnowRecorderModel" ({ cls := "SnowRecorderModel", name := "laysTable", desc := "()V" } : Jvm.MethodName) ({ cls := "SnowRecorderModel", name := "laysTable", desc := "()V" } : Jvm.MethodName) ∈ AW := AW_m 39 (by decide +kernel) (by decide +kernel)
theorem hd_yX10_laysTable : yX10_laysTable.cls ≠ "java/lang/invoke/MethodHandle" ∧ yX10_laysTable.cls ≠ "java/lang/invoke/VarHandle" ∧ (parseMethodDescriptor yX10_laysTable.desc).map (fun d => d.parameters.length) = some 0 := by decide +kernel
theorem mv_yX10_laysTable : zWv yX10_laysTable cX10_laysTable 2 none := ⟨q_1457, s_39, q_15, q_1458⟩
theorem inA_X10 : ∀ w ∈ u_ws RX10 TX10 60, w ∈ AW := show ∀ w ∈ ([Cond.laysFinal "SnowRecorderModel" "SnowRecorderModel" "rows" "[I", Cond.laysFinal "SnowRecorderModel" "SnowRecorderModel" "steep" "[I", Cond.laysFinal "SnowRecorderModel" "SnowRecorderModel" "open" "[I", Cond.laysFinal "SnowRecorderModel" "SnowRecorderModel" "air" "[I", Cond.laysFinal "SnowRecorderModel" "SnowRecorderModel" "falling" "[I", Cond.laysFinal "SnowRecorderModel" "SnowRecorderModel" "much" "[I", Cond.laysFinal "SnowRecorderModel" "SnowRecorderModel" "table" "[I", Cond.laysFinal "SnowRecorderModel" "SnowRecorderModel" "noteSlope" "[I", Cond.laysFinal "SnowRecorderModel" "SnowRecorderModel" "noteHours" "[I", Cond.laysFinal "SnowRecorderModel" "SnowRecorderModel" "noteDepth" "[I", Cond.laysFinal "SnowRecorderModel" "SnowRecorderModel" "refused" "[I", Cond.laysFinal "SnowRecorderModel" "SnowRecorderModel" "pits" "[I", Cond.lays "SnowRecorderModel" "SnowRecorderModel" "thrown" "I", Cond.lays "SnowRecorderModel" "SnowRecorderModel" "slopes" "I", Cond.lays "SnowRecorderModel" "SnowRecorderModel" "hourMany" "I", Cond.lays "SnowRecorderModel" "SnowRecorderModel" "acts" "I", Cond.lays "SnowRecorderModel" "SnowRecorderModel" "firstAct" "I", Cond.lays "SnowRecorderModel" "SnowRecorderModel" "notes" "I", Cond.lays "SnowRecorderModel" "SnowRecorderModel" "imageActs" "I", Cond.lays "SnowRecorderModel" "SnowRecorderModel" "imageFirst" "I", Cond.lays "SnowRecorderModel" "SnowRecorderModel" "imageNotes" "I", Cond.lays "SnowRecorderModel" "SnowRecorderModel" "hasImage" "I", Cond.laysFinal "SnowRecorderModel" "SnowRecorderModel" "tape" "[I", Cond.lays "SnowRecorderModel" "SnowRecorderModel" "taped" "I", Cond.lays "SnowRecorderModel" "SnowRecorderModel" "faultPlace" "I", Cond.lays "SnowRecorderModel" "SnowRecorderModel" "warmer" "I", Cond.lays "SnowRecorderModel" "SnowRecorderModel" "without" "I", Cond.lays "SnowRecorderModel" "SnowRecorderModel" "otherHour" "I", Cond.lays "SnowRecorderModel" "SnowRecorderModel" "otherMuch" "I", Cond.lays "SnowRecorderModel" "SnowRecorderModel" "isClear" "Z", Cond.laysFinal "SnowRecorderModel" "SnowRecorderModel" "temps" "[I", Cond.laysFinal "SnowRecorderModel" "SnowRecorderModel" "kinds" "[I", Cond.lays "SnowRecorderModel" "SnowRecorderModel" "next" "I", Cond.lays "SnowRecorderModel" "SnowRecorderModel" "place" "I", Cond.lays "SnowRecorderModel" "SnowRecorderModel" "size" "I", Cond.lays "SnowRecorderModel" "SnowRecorderModel" "sort" "I", Cond.lays "SnowRecorderModel" "SnowRecorderModel" "value" "I", Cond.lays "SnowRecorderModel" "SnowRecorderModel" "word" "I", Cond.lays "SnowRecorderModel" "SnowRecorderModel" "bad" "I", Cond.laysFinal "SnowRecorderModel" "SnowRecorderModel" "steep1" "[I", Cond.laysFinal "SnowRecorderModel" "SnowRecorderModel" "open1" "[I", Cond.laysFinal "SnowRecorderModel" "SnowRecorderModel" "many1" "[I", Cond.laysFinal "SnowRecorderModel" "SnowRecorderModel" "air1" "[I", Cond.laysFinal "SnowRecorderModel" "SnowRecorderModel" "falling1" "[I", Cond.laysFinal "SnowRecorderModel" "SnowRecorderModel" "much1" "[I", Cond.laysFinal "SnowRecorderModel" "SnowRecorderModel" "table1" "[I", Cond.laysFinal "SnowRecorderModel" "SnowRecorderModel" "layer1" "[I", Cond.lays "SnowRecorderModel" "SnowRecorderModel" "slopes1" "I", Cond.lays "SnowRecorderModel" "SnowRecorderModel" "hours1" "I", Cond.lays "SnowRecorderModel" "SnowRecorderModel" "names1" "I", Cond.laysFinal "SnowRecorderModel" "SnowRecorderModel" "line" "[I", Cond.lays "SnowRecorderModel" "SnowRecorderModel" "lined" "I", Cond.laysFinal "SnowRecorderModel" "SnowRecorderModel" "oneKinds" "[I", Cond.laysFinal "SnowRecorderModel" "SnowRecorderModel" "otherKinds" "[I", Cond.laysFinal "SnowRecorderModel" "SnowRecorderModel" "folded" "[I", Cond.lays "SnowRecorderModel" "SnowRecorderModel" "ones" "I", Cond.lays "SnowRecorderModel" "SnowRecorderModel" "others" "I", Cond.laysFinal "SnowRecorderModel" "SnowRecorderModel" "dayDepth" "[I", Cond.laysFinal "SnowRecorderModel" "SnowRecorderModel" "depths" "[I", Cond.lays "SnowRecorderModel" "SnowRecorderModel" "its" "I"] : List Cond), w ∈ AW from List.forall_mem_cons.mpr ⟨q_1519, List.forall_mem_cons.mpr ⟨q_1521, List.forall_mem_cons.mpr ⟨q_1523, List.forall_mem_cons.mpr ⟨q_1525, List.forall_mem_cons.mpr ⟨q_1527, List.forall_mem_cons.mpr ⟨q_1529, List.forall_mem_cons.mpr ⟨q_1531, List.forall_mem_cons.mpr ⟨q_1533, List.forall_mem_cons.mpr ⟨q_1535, List.forall_mem_cons.mpr ⟨q_1537, List.forall_mem_cons.mpr ⟨q_1539, List.forall_mem_cons.mpr ⟨q_1541, List.forall_mem_cons.mpr ⟨q_1543, List.forall_mem_cons.mpr ⟨q_1545, List.forall_mem_cons.mpr ⟨q_1547, List.forall_mem_cons.mpr ⟨q_1549, List.forall_mem_cons.mpr ⟨q_1551, List.forall_mem_cons.mpr ⟨q_1553, List.forall_mem_cons.mpr ⟨q_1555, List.forall_mem_cons.mpr ⟨q_1557, List.forall_mem_cons.mpr ⟨q_1559, List.forall_mem_cons.mpr ⟨q_1561, List.forall_mem_cons.mpr ⟨q_1563, List.forall_mem_cons.mpr ⟨q_1565, List.forall_mem_cons.mpr ⟨q_1567, List.forall_mem_cons.mpr ⟨q_1569, List.forall_mem_cons.mpr ⟨q_1571, List.forall_mem_cons.mpr ⟨q_1573, List.forall_mem_cons.mpr ⟨q_1575, List.forall_mem_cons.mpr ⟨q_1577, List.forall_mem_cons.mpr ⟨q_1579, List.forall_mem_cons.mpr ⟨q_1581, List.forall_mem_cons.mpr ⟨q_1583, List.forall_mem_cons.mpr ⟨q_1585, List.forall_mem_cons.mpr ⟨q_1587, List.forall_mem_cons.mpr ⟨q_1589, List.forall_mem_cons.mpr ⟨q_1591, List.forall_mem_cons.mpr ⟨q_1593, List.forall_mem_cons.mpr ⟨q_1595, List.forall_mem_cons.mpr ⟨q_1597, List.forall_mem_cons.mpr ⟨q_1599, List.forall_mem_cons.mpr ⟨q_1601, List.forall_mem_cons.mpr ⟨q_1603, List.forall_mem_cons.mpr ⟨q_1605, List.forall_mem_cons.mpr ⟨q_1607, List.forall_mem_cons.mpr ⟨q_1609, List.forall_mem_cons.mpr ⟨q_1611, List.forall_mem_cons.mpr ⟨q_1613, List.forall_mem_cons.mpr ⟨q_1615, List.forall_mem_cons.mpr ⟨q_1617, List.forall_mem_cons.mpr ⟨q_1619, List.forall_mem_cons.mpr ⟨q_1621, List.forall_mem_cons.mpr ⟨q_1623, List.forall_mem_cons.mpr ⟨q_1625, List.forall_mem_cons.mpr ⟨q_1627, List.forall_mem_cons.mpr ⟨q_1629, List.forall_mem_cons.mpr ⟨q_1631, List.forall_mem_cons.mpr ⟨q_1633, List.forall_mem_cons.mpr ⟨q_1635, List.forall_mem_cons.mpr ⟨q_1637, fun _ h => absurd h List.not_mem_nil⟩⟩⟩⟩⟩⟩⟩⟩⟩⟩⟩⟩⟩⟩⟩⟩⟩⟩⟩⟩⟩⟩⟩⟩⟩⟩⟩⟩⟩⟩⟩⟩⟩⟩⟩⟩⟩⟩⟩⟩⟩⟩⟩⟩⟩⟩⟩⟩⟩⟩⟩⟩⟩⟩⟩⟩⟩⟩⟩⟩
end
section
-- 13.dec.lean.txt
-- decode rows of mod
theorem dX10_laysTable_0 : decode cX10_laysTable 0 = .ok (.iconst 0, 1) := by decide +kernel
theorem dX10_laysTable_1 : decode cX10_laysTable 1 = .ok (.istore_n 1, 1) := by decide +kernel
theorem dX10_laysTable_2 : decode cX10_laysTable 2 = .ok (.iload_n 1, 1) := by decide +kernel
theorem dX10_laysTable_3 : decode cX10_laysTable 3 = .ok (.iconst 5, 1) := by decide +kernel
theorem dX10_laysTable_4 : decode cX10_laysTable 4 = .ok (.if_icmp .ge 153, 3) := by decide +kernel
theorem dX10_laysTable_7 : decode cX10_laysTable 7 = .ok (.aload_n 0, 1) := by decide +kernel
theorem dX10_laysTable_8 : decode cX10_laysTable 8 = .ok (.getfield 28, 3) := by decide +kernel
theorem dX10_laysTable_11 : decode cX10_laysTable 11 = .ok (.iload_n 1, 1) := by decide +kernel
theorem dX10_laysTable_12 : decode cX10_laysTable 12 = .ok (.iload_n 1, 1) := by decide +kernel
theorem dX10_laysTable_13 : decode cX10_laysTable 13 = .ok (.ifCond .ne 7, 3) := by decide +kernel
theorem dX10_laysTable_16 : decode cX10_laysTable 16 = .ok (.iconst 3, 1) := by decide +kernel
theorem dX10_laysTable_17 : decode cX10_laysTable 17 = .ok (.goto 33, 3) := by decide +kernel
theorem dX10_laysTable_50 : decode cX10_laysTable 50 = .ok (.iastore, 1) := by decide +kernel
theorem dX10_laysTable_51 : decode cX10_laysTable 51 = .ok (.aload_n 0, 1) := by decide +kernel
theorem dX10_laysTable_52 : decode cX10_laysTable 52 = .ok (.getfield 28, 3) := by decide +kernel
theorem dX10_laysTable_55 : decode cX10_laysTable 55 = .ok (.iconst 5, 1) := by decide +kernel
theorem dX10_laysTable_56 : decode cX10_laysTable 56 = .ok (.iload_n 1, 1) := by decide +kernel
theorem dX10_laysTable_57 : decode cX10_laysTable 57 = .ok (.iadd, 1) := by decide +kernel
theorem dX10_laysTable_58 : decode cX10_laysTable 58 = .ok (.iload_n 1, 1) := by decide +kernel
theorem dX10_laysTable_59 : decode cX10_laysTable 59 = .ok (.ifCond .ne 7, 3) := by decide +kernel
theorem dX10_laysTable_62 : decode cX10_laysTable 62 = .ok (.iconst 5, 1) := by decide +kernel
theorem dX10_laysTable_63 : decode cX10_laysTable 63 = .ok (.goto 32, 3) := by decide +kernel
theorem dX10_laysTable_95 : decode cX10_laysTable 95 = .ok (.iastore, 1) := by decide +kernel
theorem dX10_laysTable_96 : decode cX10_laysTable 96 = .ok (.aload_n 0, 1) := by decide +kernel
theorem dX10_laysTable_97 : decode cX10_laysTable 97 = .ok (.getfield 28, 3) := by decide +kernel
theorem dX10_laysTable_100 : decode cX10_laysTable 100 = .ok (.bipush 10, 2) := by decide +kernel
theorem dX10_laysTable_102 : decode cX10_laysTable 102 = .ok (.iload_n 1, 1) := by decide +kernel
theorem dX10_laysTable_103 : decode cX10_laysTable 103 = .ok (.iadd, 1) := by decide +kernel
theorem dX10_laysTable_104 : decode cX10_laysTable 104 = .ok (.iload_n 1, 1) := by decide +kernel
theorem dX10_laysTable_105 : decode cX10_laysTable 105 = .ok (.ifCond .ne 9, 3) := by decide +kernel
theorem dX10_laysTable_108 : decode cX10_laysTable 108 = .ok (.sipush 1000, 3) := by decide +kernel
theorem dX10_laysTable_111 : decode cX10_laysTable 111 = .ok (.goto 39, 3) := by decide +kernel
theorem dX10_laysTable_150 : decode cX10_laysTable 150 = .ok (.iastore, 1) := by decide +kernel
theorem dX10_laysTable_151 : decode cX10_laysTable 151 = .ok (.iinc 1 1, 3) := by decide +kernel
theorem dX10_laysTable_154 : decode cX10_laysTable 154 = .ok (.goto (-152), 3) := by decide +kernel
theorem dX10_laysTable_20 : decode cX10_laysTable 20 = .ok (.iload_n 1, 1) := by decide +kernel
theorem dX10_laysTable_21 : decode cX10_laysTable 21 = .ok (.iconst 1, 1) := by decide +kernel
theorem dX10_laysTable_22 : decode cX10_laysTable 22 = .ok (.if_icmp .ne 8, 3) := by decide +kernel
theorem dX10_laysTable_25 : decode cX10_laysTable 25 = .ok (.bipush 12, 2) := by decide +kernel
theorem dX10_laysTable_27 : decode cX10_laysTable 27 = .ok (.goto 23, 3) := by decide +kernel
theorem dX10_laysTable_66 : decode cX10_laysTable 66 = .ok (.iload_n 1, 1) := by decide +kernel
theorem dX10_laysTable_67 : decode cX10_laysTable 67 = .ok (.iconst 1, 1) := by decide +kernel
theorem dX10_laysTable_68 : decode cX10_laysTable 68 = .ok (.if_icmp .ne 8, 3) := by decide +kernel
theorem dX10_laysTable_71 : decode cX10_laysTable 71 = .ok (.bipush 8, 2) := by decide +kernel
theorem dX10_laysTable_73 : decode cX10_laysTable 73 = .ok (.goto 22, 3) := by decide +kernel
theorem dX10_laysTable_114 : decode cX10_laysTable 114 = .ok (.iload_n 1, 1) := by decide +kernel
theorem dX10_laysTable_115 : decode cX10_laysTable 115 = .ok (.iconst 1, 1) := by decide +kernel
theorem dX10_laysTable_116 : decode cX10_laysTable 116 = .ok (.if_icmp .ne 9, 3) := by decide +kernel
theorem dX10_laysTable_119 : decode cX10_laysTable 119 = .ok (.sipush 4000, 3) := by decide +kernel
theorem dX10_laysTable_122 : decode cX10_laysTable 122 = .ok (.goto 28, 3) := by decide +kernel
theorem dX10_laysTable_30 : decode cX10_laysTable 30 = .ok (.iload_n 1, 1) := by decide +kernel
theorem dX10_laysTable_31 : decode cX10_laysTable 31 = .ok (.iconst 2, 1) := by decide +kernel
theorem dX10_laysTable_32 : decode cX10_laysTable 32 = .ok (.if_icmp .ne 7, 3) := by decide +kernel
theorem dX10_laysTable_35 : decode cX10_laysTable 35 = .ok (.iconst 4, 1) := by decide +kernel
theorem dX10_laysTable_36 : decode cX10_laysTable 36 = .ok (.goto 14, 3) := by decide +kernel
theorem dX10_laysTable_76 : decode cX10_laysTable 76 = .ok (.iload_n 1, 1) := by decide +kernel
theorem dX10_laysTable_77 : decode cX10_laysTable 77 = .ok (.iconst 2, 1) := by decide +kernel
theorem dX10_laysTable_78 : decode cX10_laysTable 78 = .ok (.if_icmp .ne 7, 3) := by decide +kernel
theorem dX10_laysTable_81 : decode cX10_laysTable 81 = .ok (.iconst 3, 1) := by decide +kernel
theorem dX10_laysTable_82 : decode cX10_laysTable 82 = .ok (.goto 13, 3) := by decide +kernel
theorem dX10_laysTable_125 : decode cX10_laysTable 125 = .ok (.iload_n 1, 1) := by decide +kernel
theorem dX10_laysTable_126 : decode cX10_laysTable 126 = .ok (.iconst 2, 1) := by decide +kernel
theorem dX10_laysTable_127 : decode cX10_laysTable 127 = .ok (.if_icmp .ne 9, 3) := by decide +kernel
theorem dX10_laysTable_130 : decode cX10_laysTable 130 = .ok (.sipush 6000, 3) := by decide +kernel
theorem dX10_laysTable_133 : decode cX10_laysTable 133 = .ok (.goto 17, 3) := by decide +kernel
theorem dX10_laysTable_39 : decode cX10_laysTable 39 = .ok (.iload_n 1, 1) := by decide +kernel
theorem dX10_laysTable_40 : decode cX10_laysTable 40 = .ok (.iconst 3, 1) := by decide +kernel
theorem dX10_laysTable_41 : decode cX10_laysTable 41 = .ok (.if_icmp .ne 8, 3) := by decide +kernel
theorem dX10_laysTable_44 : decode cX10_laysTable 44 = .ok (.bipush 40, 2) := by decide +kernel
theorem dX10_laysTable_46 : decode cX10_laysTable 46 = .ok (.goto 4, 3) := by decide +kernel
theorem dX10_laysTable_85 : decode cX10_laysTable 85 = .ok (.iload_n 1, 1) := by decide +kernel
theorem dX10_laysTable_86 : decode cX10_laysTable 86 = .ok (.iconst 3, 1) := by decide +kernel
theorem dX10_laysTable_87 : decode cX10_laysTable 87 = .ok (.if_icmp .ne 7, 3) := by decide +kernel
theorem dX10_laysTable_90 : decode cX10_laysTable 90 = .ok (.iconst 2, 1) := by decide +kernel
theorem dX10_laysTable_91 : decode cX10_laysTable 91 = .ok (.goto 4, 3) := by decide +kernel
theorem dX10_laysTable_136 : decode cX10_laysTable 136 = .ok (.iload_n 1, 1) := by decide +kernel
theorem dX10_laysTable_137 : decode cX10_laysTable 137 = .ok (.iconst 3, 1) := by decide +kernel
theorem dX10_laysTable_138 : decode cX10_laysTable 138 = .ok (.if_icmp .ne 9, 3) := by decide +kernel
theorem dX10_laysTable_141 : decode cX10_laysTable 141 = .ok (.sipush 9000, 3) := by decide +kernel
theorem dX10_laysTable_144 : decode cX10_laysTable 144 = .ok (.goto 6, 3) := by decide +kernel
theorem dX10_laysTable_49 : decode cX10_laysTable 49 = .ok (.iconst 1, 1) := by decide +kernel
theorem dX10_laysTable_94 : decode cX10_laysTable 94 = .ok (.iconst 1, 1) := by decide +kernel
theorem dX10_laysTable_147 : decode cX10_laysTable 147 = .ok (.sipush 8000, 3) := by decide +kernel
theorem dX10_laysTable_157 : decode cX10_laysTable 157 = .ok (.return_, 1) := by decide +kernel
theorem dX10_init_0 : decode cX10_init 0 = .ok (.aload_n 0, 1) := by decide +kernel
theorem dX10_init_1 : decode cX10_init 1 = .ok (.invokespecial 3, 3) := by decide +kernel
theorem dX10_init_4 : decode cX10_init 4 = .ok (.aload_n 0, 1) := by decide +kernel
theorem dX10_init_5 : decode cX10_init 5 = .ok (.sipush 29200, 3) := by decide +kernel
theorem dX10_init_8 : decode cX10_init 8 = .ok (.newarray .int, 2) := by decide +kernel
theorem dX10_init_10 : decode cX10_init 10 = .ok (.putfield 9, 3) := by decide +kernel
theorem dX10_init_13 : decode cX10_init 13 = .ok (.aload_n 0, 1) := by decide +kernel
theorem dX10_init_14 : decode cX10_init 14 = .ok (.iconst 4, 1) := by decide +kernel
theorem dX10_init_15 : decode cX10_init 15 = .ok (.newarray .int, 2) := by decide +kernel
theorem dX10_init_17 : decode cX10_init 17 = .ok (.putfield 13, 3) := by decide +kernel
theorem dX10_init_20 : decode cX10_init 20 = .ok (.aload_n 0, 1) := by decide +kernel
theorem dX10_init_21 : decode cX10_init 21 = .ok (.iconst 4, 1) := by decide +kernel
theorem dX10_init_22 : decode cX10_init 22 = .ok (.newarray .int, 2) := by decide +kernel
theorem dX10_init_24 : decode cX10_init 24 = .ok (.putfield 16, 3) := by decide +kernel
theorem dX10_init_27 : decode cX10_init 27 = .ok (.aload_n 0, 1) := by decide +kernel
theorem dX10_init_28 : decode cX10_init 28 = .ok (.bipush 24, 2) := by decide +kernel
theorem dX10_init_30 : decode cX10_init 30 = .ok (.newarray .int, 2) := by decide +kernel
theorem dX10_init_32 : decode cX10_init 32 = .ok (.putfield 19, 3) := by decide +kernel
theorem dX10_init_35 : decode cX10_init 35 = .ok (.aload_n 0, 1) := by decide +kernel
theorem dX10_init_36 : decode cX10_init 36 = .ok (.bipush 24, 2) := by decide +kernel
theorem dX10_init_38 : decode cX10_init 38 = .ok (.newarray .int, 2) := by decide +kernel
theorem dX10_init_40 : decode cX10_init 40 = .ok (.putfield 22, 3) := by decide +kernel
theorem dX10_init_43 : decode cX10_init 43 = .ok (.aload_n 0, 1) := by decide +kernel
theorem dX10_init_44 : decode cX10_init 44 = .ok (.bipush 24, 2) := by decide +kernel
theorem dX10_init_46 : decode cX10_init 46 = .ok (.newarray .int, 2) := by decide +kernel
theorem dX10_init_48 : decode cX10_init 48 = .ok (.putfield 25, 3) := by decide +kernel
theorem dX10_init_51 : decode cX10_init 51 = .ok (.aload_n 0, 1) := by decide +kernel
theorem dX10_init_52 : decode cX10_init 52 = .ok (.bipush 15, 2) := by decide +kernel
theorem dX10_init_54 : decode cX10_init 54 = .ok (.newarray .int, 2) := by decide +kernel
theorem dX10_init_56 : decode cX10_init 56 = .ok (.putfield 28, 3) := by decide +kernel
theorem dX10_init_59 : decode cX10_init 59 = .ok (.aload_n 0, 1) := by decide +kernel
theorem dX10_init_60 : decode cX10_init 60 = .ok (.bipush 16, 2) := by decide +kernel
theorem dX10_init_62 : decode cX10_init 62 = .ok (.newarray .int, 2) := by decide +kernel
theorem dX10_init_64 : decode cX10_init 64 = .ok (.putfield 31, 3) := by decide +kernel
theorem dX10_init_67 : decode cX10_init 67 = .ok (.aload_n 0, 1) := by decide +kernel
theorem dX10_init_68 : decode cX10_init 68 = .ok (.bipush 16, 2) := by decide +kernel
theorem dX10_init_70 : decode cX10_init 70 = .ok (.newarray .int, 2) := by decide +kernel
theorem dX10_init_72 : decode cX10_init 72 = .ok (.putfield 34, 3) := by decide +kernel
theorem dX10_init_75 : decode cX10_init 75 = .ok (.aload_n 0, 1) := by decide +kernel
theorem dX10_init_76 : decode cX10_init 76 = .ok (.bipush 16, 2) := by decide +kernel
theorem dX10_init_78 : decode cX10_init 78 = .ok (.newarray .int, 2) := by decide +kernel
theorem dX10_init_80 : decode cX10_init 80 = .ok (.putfield 37, 3) := by decide +kernel
theorem dX10_init_83 : decode cX10_init 83 = .ok (.aload_n 0, 1) := by decide +kernel
theorem dX10_init_84 : decode cX10_init 84 = .ok (.bipush 6, 2) := by decide +kernel
theorem dX10_init_86 : decode cX10_init 86 = .ok (.newarray .int, 2) := by decide +kernel
theorem dX10_init_88 : decode cX10_init 88 = .ok (.putfield 40, 3) := by decide +kernel
theorem dX10_init_91 : decode cX10_init 91 = .ok (.aload_n 0, 1) := by decide +kernel
theorem dX10_init_92 : decode cX10_init 92 = .ok (.sipush 1080, 3) := by decide +kernel
theorem dX10_init_95 : decode cX10_init 95 = .ok (.newarray .int, 2) := by decide +kernel
theorem dX10_init_97 : decode cX10_init 97 = .ok (.putfield 43, 3) := by decide +kernel
theorem dX10_init_100 : decode cX10_init 100 = .ok (.aload_n 0, 1) := by decide +kernel
theorem dX10_init_101 : decode cX10_init 101 = .ok (.sipush 900, 3) := by decide +kernel
theorem dX10_init_104 : decode cX10_init 104 = .ok (.newarray .int, 2) := by decide +kernel
theorem dX10_init_106 : decode cX10_init 106 = .ok (.putfield 46, 3) := by decide +kernel
theorem dX10_init_109 : decode cX10_init 109 = .ok (.aload_n 0, 1) := by decide +kernel
theorem dX10_init_110 : decode cX10_init 110 = .ok (.iconst (-1), 1) := by decide +kernel
theorem dX10_init_111 : decode cX10_init 111 = .ok (.putfield 49, 3) := by decide +kernel
theorem dX10_init_114 : decode cX10_init 114 = .ok (.aload_n 0, 1) := by decide +kernel
theorem dX10_init_115 : decode cX10_init 115 = .ok (.iconst (-1), 1) := by decide +kernel
theorem dX10_init_116 : decode cX10_init 116 = .ok (.putfield 53, 3) := by decide +kernel
theorem dX10_init_119 : decode cX10_init 119 = .ok (.aload_n 0, 1) := by decide +kernel
theorem dX10_init_120 : decode cX10_init 120 = .ok (.iconst (-1), 1) := by decide +kernel
theorem dX10_init_121 : decode cX10_init 121 = .ok (.putfield 56, 3) := by decide +kernel
theorem dX10_init_124 : decode cX10_init 124 = .ok (.aload_n 0, 1) := by decide +kernel
theorem dX10_init_125 : decode cX10_init 125 = .ok (.bipush 14, 2) := by decide +kernel
theorem dX10_init_127 : decode cX10_init 127 = .ok (.newarray .int, 2) := by decide +kernel
theorem dX10_init_129 : decode cX10_init 129 = .ok (.putfield 59, 3) := by decide +kernel
theorem dX10_init_132 : decode cX10_init 132 = .ok (.aload_n 0, 1) := by decide +kernel
theorem dX10_init_133 : decode cX10_init 133 = .ok (.bipush 12, 2) := by decide +kernel
theorem dX10_init_135 : decode cX10_init 135 = .ok (.newarray .int, 2) := by decide +kernel
theorem dX10_init_137 : decode cX10_init 137 = .ok (.putfield 62, 3) := by decide +kernel
theorem dX10_init_140 : decode cX10_init 140 = .ok (.aload_n 0, 1) := by decide +kernel
theorem dX10_init_141 : decode cX10_init 141 = .ok (.iconst 4, 1) := by decide +kernel
theorem dX10_init_142 : decode cX10_init 142 = .ok (.newarray .int, 2) := by decide +kernel
theorem dX10_init_144 : decode cX10_init 144 = .ok (.putfield 65, 3) := by decide +kernel
theorem dX10_init_147 : decode cX10_init 147 = .ok (.aload_n 0, 1) := by decide +kernel
theorem dX10_init_148 : decode cX10_init 148 = .ok (.iconst 4, 1) := by decide +kernel
theorem dX10_init_149 : decode cX10_init 149 = .ok (.newarray .int, 2) := by decide +kernel
theorem dX10_init_151 : decode cX10_init 151 = .ok (.putfield 68, 3) := by decide +kernel
theorem dX10_init_154 : decode cX10_init 154 = .ok (.aload_n 0, 1) := by decide +kernel
theorem dX10_init_155 : decode cX10_init 155 = .ok (.iconst 4, 1) := by decide +kernel
theorem dX10_init_156 : decode cX10_init 156 = .ok (.newarray .int, 2) := by decide +kernel
theorem dX10_init_158 : decode cX10_init 158 = .ok (.putfield 71, 3) := by decide +kernel
theorem dX10_init_161 : decode cX10_init 161 = .ok (.aload_n 0, 1) := by decide +kernel
theorem dX10_init_162 : decode cX10_init 162 = .ok (.bipush 24, 2) := by decide +kernel
theorem dX10_init_164 : decode cX10_init 164 = .ok (.newarray .int, 2) := by decide +kernel
theorem dX10_init_166 : decode cX10_init 166 = .ok (.putfield 74, 3) := by decide +kernel
theorem dX10_init_169 : decode cX10_init 169 = .ok (.aload_n 0, 1) := by decide +kernel
theorem dX10_init_170 : decode cX10_init 170 = .ok (.bipush 24, 2) := by decide +kernel
theorem dX10_init_172 : decode cX10_init 172 = .ok (.newarray .int, 2) := by decide +kernel
theorem dX10_init_174 : decode cX10_init 174 = .ok (.putfield 77, 3) := by decide +kernel
theorem dX10_init_177 : decode cX10_init 177 = .ok (.aload_n 0, 1) := by decide +kernel
theorem dX10_init_178 : decode cX10_init 178 = .ok (.bipush 24, 2) := by decide +kernel
theorem dX10_init_180 : decode cX10_init 180 = .ok (.newarray .int, 2) := by decide +kernel
theorem dX10_init_182 : decode cX10_init 182 = .ok (.putfield 80, 3) := by decide +kernel
theorem dX10_init_185 : decode cX10_init 185 = .ok (.aload_n 0, 1) := by decide +kernel
theorem dX10_init_186 : decode cX10_init 186 = .ok (.bipush 15, 2) := by decide +kernel
theorem dX10_init_188 : decode cX10_init 188 = .ok (.newarray .int, 2) := by decide +kernel
theorem dX10_init_190 : decode cX10_init 190 = .ok (.putfield 83, 3) := by decide +kernel
theorem dX10_init_193 : decode cX10_init 193 = .ok (.aload_n 0, 1) := by decide +kernel
theorem dX10_init_194 : decode cX10_init 194 = .ok (.sipush 336, 3) := by decide +kernel
theorem dX10_init_197 : decode cX10_init 197 = .ok (.newarray .int, 2) := by decide +kernel
theorem dX10_init_199 : decode cX10_init 199 = .ok (.putfield 86, 3) := by decide +kernel
theorem dX10_init_202 : decode cX10_init 202 = .ok (.aload_n 0, 1) := by decide +kernel
theorem dX10_init_203 : decode cX10_init 203 = .ok (.bipush 64, 2) := by decide +kernel
theorem dX10_init_205 : decode cX10_init 205 = .ok (.newarray .int, 2) := by decide +kernel
theorem dX10_init_207 : decode cX10_init 207 = .ok (.putfield 89, 3) := by decide +kernel
theorem dX10_init_210 : decode cX10_init 210 = .ok (.aload_n 0, 1) := by decide +kernel
theorem dX10_init_211 : decode cX10_init 211 = .ok (.bipush 12, 2) := by decide +kernel
theorem dX10_init_213 : decode cX10_init 213 = .ok (.newarray .int, 2) := by decide +kernel
theorem dX10_init_215 : decode cX10_init 215 = .ok (.putfield 92, 3) := by decide +kernel
theorem dX10_init_218 : decode cX10_init 218 = .ok (.aload_n 0, 1) := by decide +kernel
theorem dX10_init_219 : decode cX10_init 219 = .ok (.bipush 12, 2) := by decide +kernel
theorem dX10_init_221 : decode cX10_init 221 = .ok (.newarray .int, 2) := by decide +kernel
theorem dX10_init_223 : decode cX10_init 223 = .ok (.putfield 95, 3) := by decide +kernel
theorem dX10_init_226 : decode cX10_init 226 = .ok (.aload_n 0, 1) := by decide +kernel
theorem dX10_init_227 : decode cX10_init 227 = .ok (.sipush 169, 3) := by decide +kernel
theorem dX10_init_230 : decode cX10_init 230 = .ok (.newarray .int, 2) := by decide +kernel
theorem dX10_init_232 : decode cX10_init 232 = .ok (.putfield 98, 3) := by decide +kernel
theorem dX10_init_235 : decode cX10_init 235 = .ok (.aload_n 0, 1) := by decide +kernel
theorem dX10_init_236 : decode cX10_init 236 = .ok (.iconst 4, 1) := by decide +kernel
theorem dX10_init_237 : decode cX10_init 237 = .ok (.newarray .int, 2) := by decide +kernel
theorem dX10_init_239 : decode cX10_init 239 = .ok (.putfield 101, 3) := by decide +kernel
theorem dX10_init_242 : decode cX10_init 242 = .ok (.aload_n 0, 1) := by decide +kernel
theorem dX10_init_243 : decode cX10_init 243 = .ok (.sipush 4800, 3) := by decide +kernel
theorem dX10_init_246 : decode cX10_init 246 = .ok (.newarray .int, 2) := by decide +kernel
theorem dX10_init_248 : decode cX10_init 248 = .ok (.putfield 104, 3) := by decide +kernel
theorem dX10_init_251 : decode cX10_init 251 = .ok (.aload_n 0, 1) := by decide +kernel
theorem dX10_init_252 : decode cX10_init 252 = .ok (.invokevirtual 107, 3) := by decide +kernel
theorem dX10_init_255 : decode cX10_init 255 = .ok (.return_, 1) := by decide +kernel
end
